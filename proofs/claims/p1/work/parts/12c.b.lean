set_option maxHeartbeats 4000000 in
set_option maxRecDepth 100000 in
theorem rz_tick_1 (m : mz_M) : ∃ m', (∀ i, i ≠ 65 → m' i = mz_z m i) ∧ m' 65 8 = mz_z m 65 8 + 1 ∧ mz_Me 50 mz_r152 [.ref 65, .int 1] (mz_z m) none m' := by
  let t1 : Int32 := ((mz_z m) 65 6) - (((((mz_z m) 65 4) * 5) / 1600) / 1)
  let t2 : Int32 := ((mz_z m) 65 7) - (((((mz_z m) 65 5) * 5) / 1600) / 1)
  let t3 : Int32 := ((mz_z m) 65 4) + ((t1 - (((t1 * 10) / 100) / 1)) / 1)
  let t4 : Int32 := ((mz_z m) 65 5) + ((t2 - (((t2 * 10) / 100) / 1)) / 1)
  by_cases h1 : (-1600) ≤ t3
  · by_cases h2 : t3 ≤ 1600
    · by_cases h3 : (-1600) ≤ t4
      · by_cases h4 : t4 ≤ 1600
        · by_cases h5 : t3 = t3
          · by_cases h6 : t4 = t4
            · refine ⟨mz_up (mz_up (mz_up (mz_up (mz_up (mz_up (mz_up (mz_up (mz_up (mz_z m) 65 6 t1) 65 7 t2) 65 6 (t1 - (((t1 * 10) / 100) / 1))) 65 7 (t2 - (((t2 * 10) / 100) / 1))) 65 4 t3) 65 5 t4) 65 6 (t1 - (((t1 * 10) / 100) / 1))) 65 7 (t2 - (((t2 * 10) / 100) / 1))) 65 8 (((mz_z m) 65 8) + 1), fun i hi => by simp only [mz_up_ne hi], rfl, ⟨?_, rfl⟩⟩
              · refine mz_go 24 (c' := (123, [some (.ref 65), some (.int 1), some (.int 0), none, none], [], mz_up (mz_z m) 65 6 t1)) rfl ?_
                refine mz_go 17 (c' := (151, [some (.ref 65), some (.int 1), some (.int 0), none, none], [.ref 65], mz_up (mz_up (mz_z m) 65 6 t1) 65 7 t2)) rfl ?_
                refine mz_do (R := mz_r151) (as := [.ref 65]) (rest := []) (r1 := some (.int 10)) (m1 := mz_up (mz_up (mz_z m) 65 6 t1) 65 7 t2) rfl ⟨?_, rfl⟩ ?_
                · refine mz_go 2 (c' := (2, [some (.ref 65), none], [.int 1, .ref 65], mz_up (mz_up (mz_z m) 65 6 t1) 65 7 t2)) rfl ?_
                  refine mz_do (R := mz_r169) (as := [.ref 65, .int 1]) (rest := []) (r1 := some (.int 0)) (m1 := mz_up (mz_up (mz_z m) 65 6 t1) 65 7 t2) rfl ⟨?_, rfl⟩ ?_
                  · refine mz_go 10 (c' := (21, [some (.ref 65), some (.int 1)], [.int 0], mz_up (mz_up (mz_z m) 65 6 t1) 65 7 t2)) rfl ?_
                    exact mz_ret rfl
                  refine mz_go 5 (c' := (15, [some (.ref 65), none], [.int 10], mz_up (mz_up (mz_z m) 65 6 t1) 65 7 t2)) rfl ?_
                  exact mz_ret rfl
                refine mz_go 24 (c' := (190, [some (.ref 65), some (.int 1), some (.int 10), none, none], [.int 1, .int ((t2 * 10) / 100), .int t2, .ref 65], mz_up (mz_up (mz_up (mz_z m) 65 6 t1) 65 7 t2) 65 6 (t1 - (((t1 * 10) / 100) / 1)))) rfl ?_
                refine mz_go 23 (c' := (228, [some (.ref 65), some (.int 1), some (.int 10), some (.int t3), some (.int t4)], [.int 1600, .int (-1600), .int t3, .ref 65], mz_up (mz_up (mz_up (mz_up (mz_z m) 65 6 t1) 65 7 t2) 65 6 (t1 - (((t1 * 10) / 100) / 1))) 65 7 (t2 - (((t2 * 10) / 100) / 1)))) rfl ?_
                refine mz_do (R := mz_r130) (as := [.int t3, .int (-1600), .int 1600]) (rest := [.ref 65]) (r1 := some (.int t3)) (m1 := mz_up (mz_up (mz_up (mz_up (mz_z m) 65 6 t1) 65 7 t2) 65 6 (t1 - (((t1 * 10) / 100) / 1))) 65 7 (t2 - (((t2 * 10) / 100) / 1))) rfl ⟨?_, rfl⟩ ?_
                · refine mz_go 3 (c' := (if (-1600) ≤ t3 then 9 else 5, [some (.int t3), some (.int (-1600)), some (.int 1600)], [], mz_up (mz_up (mz_up (mz_up (mz_z m) 65 6 t1) 65 7 t2) 65 6 (t1 - (((t1 * 10) / 100) / 1))) 65 7 (t2 - (((t2 * 10) / 100) / 1)))) rfl ?_
                  refine mz_ifT h1 ?_
                  refine mz_go 3 (c' := (if t3 ≤ 1600 then 18 else 14, [some (.int t3), some (.int (-1600)), some (.int 1600)], [], mz_up (mz_up (mz_up (mz_up (mz_z m) 65 6 t1) 65 7 t2) 65 6 (t1 - (((t1 * 10) / 100) / 1))) 65 7 (t2 - (((t2 * 10) / 100) / 1)))) rfl ?_
                  refine mz_ifT h2 ?_
                  refine mz_go 1 (c' := (19, [some (.int t3), some (.int (-1600)), some (.int 1600)], [.int t3], mz_up (mz_up (mz_up (mz_up (mz_z m) 65 6 t1) 65 7 t2) 65 6 (t1 - (((t1 * 10) / 100) / 1))) 65 7 (t2 - (((t2 * 10) / 100) / 1)))) rfl ?_
                  exact mz_ret rfl
                refine mz_go 5 (c' := (243, [some (.ref 65), some (.int 1), some (.int 10), some (.int t3), some (.int t4)], [.int 1600, .int (-1600), .int t4, .ref 65], mz_up (mz_up (mz_up (mz_up (mz_up (mz_z m) 65 6 t1) 65 7 t2) 65 6 (t1 - (((t1 * 10) / 100) / 1))) 65 7 (t2 - (((t2 * 10) / 100) / 1))) 65 4 t3)) rfl ?_
                refine mz_do (R := mz_r130) (as := [.int t4, .int (-1600), .int 1600]) (rest := [.ref 65]) (r1 := some (.int t4)) (m1 := mz_up (mz_up (mz_up (mz_up (mz_up (mz_z m) 65 6 t1) 65 7 t2) 65 6 (t1 - (((t1 * 10) / 100) / 1))) 65 7 (t2 - (((t2 * 10) / 100) / 1))) 65 4 t3) rfl ⟨?_, rfl⟩ ?_
                · refine mz_go 3 (c' := (if (-1600) ≤ t4 then 9 else 5, [some (.int t4), some (.int (-1600)), some (.int 1600)], [], mz_up (mz_up (mz_up (mz_up (mz_up (mz_z m) 65 6 t1) 65 7 t2) 65 6 (t1 - (((t1 * 10) / 100) / 1))) 65 7 (t2 - (((t2 * 10) / 100) / 1))) 65 4 t3)) rfl ?_
                  refine mz_ifT h3 ?_
                  refine mz_go 3 (c' := (if t4 ≤ 1600 then 18 else 14, [some (.int t4), some (.int (-1600)), some (.int 1600)], [], mz_up (mz_up (mz_up (mz_up (mz_up (mz_z m) 65 6 t1) 65 7 t2) 65 6 (t1 - (((t1 * 10) / 100) / 1))) 65 7 (t2 - (((t2 * 10) / 100) / 1))) 65 4 t3)) rfl ?_
                  refine mz_ifT h4 ?_
                  refine mz_go 1 (c' := (19, [some (.int t4), some (.int (-1600)), some (.int 1600)], [.int t4], mz_up (mz_up (mz_up (mz_up (mz_up (mz_z m) 65 6 t1) 65 7 t2) 65 6 (t1 - (((t1 * 10) / 100) / 1))) 65 7 (t2 - (((t2 * 10) / 100) / 1))) 65 4 t3)) rfl ?_
                  exact mz_ret rfl
                refine mz_go 6 (c' := (if t3 = t3 then 258 else 265, [some (.ref 65), some (.int 1), some (.int 10), some (.int t3), some (.int t4)], [.ref 65], mz_up (mz_up (mz_up (mz_up (mz_up (mz_up (mz_z m) 65 6 t1) 65 7 t2) 65 6 (t1 - (((t1 * 10) / 100) / 1))) 65 7 (t2 - (((t2 * 10) / 100) / 1))) 65 4 t3) 65 5 t4)) rfl ?_
                refine mz_ifT h5 ?_
                refine mz_go 9 (c' := (if t4 = t4 then 279 else 286, [some (.ref 65), some (.int 1), some (.int 10), some (.int t3), some (.int t4)], [.ref 65], mz_up (mz_up (mz_up (mz_up (mz_up (mz_up (mz_up (mz_z m) 65 6 t1) 65 7 t2) 65 6 (t1 - (((t1 * 10) / 100) / 1))) 65 7 (t2 - (((t2 * 10) / 100) / 1))) 65 4 t3) 65 5 t4) 65 6 (t1 - (((t1 * 10) / 100) / 1)))) rfl ?_
                refine mz_ifT h6 ?_
                refine mz_go 10 (c' := (300, [some (.ref 65), some (.int 1), some (.int 10), some (.int t3), some (.int t4)], [], mz_up (mz_up (mz_up (mz_up (mz_up (mz_up (mz_up (mz_up (mz_up (mz_z m) 65 6 t1) 65 7 t2) 65 6 (t1 - (((t1 * 10) / 100) / 1))) 65 7 (t2 - (((t2 * 10) / 100) / 1))) 65 4 t3) 65 5 t4) 65 6 (t1 - (((t1 * 10) / 100) / 1))) 65 7 (t2 - (((t2 * 10) / 100) / 1))) 65 8 (((mz_z m) 65 8) + 1))) rfl ?_
                exact mz_ret rfl
            · refine ⟨mz_up (mz_up (mz_up (mz_up (mz_up (mz_up (mz_up (mz_up (mz_up (mz_z m) 65 6 t1) 65 7 t2) 65 6 (t1 - (((t1 * 10) / 100) / 1))) 65 7 (t2 - (((t2 * 10) / 100) / 1))) 65 4 t3) 65 5 t4) 65 6 (t1 - (((t1 * 10) / 100) / 1))) 65 7 0) 65 8 (((mz_z m) 65 8) + 1), fun i hi => by simp only [mz_up_ne hi], rfl, ⟨?_, rfl⟩⟩
              · refine mz_go 24 (c' := (123, [some (.ref 65), some (.int 1), some (.int 0), none, none], [], mz_up (mz_z m) 65 6 t1)) rfl ?_
                refine mz_go 17 (c' := (151, [some (.ref 65), some (.int 1), some (.int 0), none, none], [.ref 65], mz_up (mz_up (mz_z m) 65 6 t1) 65 7 t2)) rfl ?_
                refine mz_do (R := mz_r151) (as := [.ref 65]) (rest := []) (r1 := some (.int 10)) (m1 := mz_up (mz_up (mz_z m) 65 6 t1) 65 7 t2) rfl ⟨?_, rfl⟩ ?_
                · refine mz_go 2 (c' := (2, [some (.ref 65), none], [.int 1, .ref 65], mz_up (mz_up (mz_z m) 65 6 t1) 65 7 t2)) rfl ?_
                  refine mz_do (R := mz_r169) (as := [.ref 65, .int 1]) (rest := []) (r1 := some (.int 0)) (m1 := mz_up (mz_up (mz_z m) 65 6 t1) 65 7 t2) rfl ⟨?_, rfl⟩ ?_
                  · refine mz_go 10 (c' := (21, [some (.ref 65), some (.int 1)], [.int 0], mz_up (mz_up (mz_z m) 65 6 t1) 65 7 t2)) rfl ?_
                    exact mz_ret rfl
                  refine mz_go 5 (c' := (15, [some (.ref 65), none], [.int 10], mz_up (mz_up (mz_z m) 65 6 t1) 65 7 t2)) rfl ?_
                  exact mz_ret rfl
                refine mz_go 24 (c' := (190, [some (.ref 65), some (.int 1), some (.int 10), none, none], [.int 1, .int ((t2 * 10) / 100), .int t2, .ref 65], mz_up (mz_up (mz_up (mz_z m) 65 6 t1) 65 7 t2) 65 6 (t1 - (((t1 * 10) / 100) / 1)))) rfl ?_
                refine mz_go 23 (c' := (228, [some (.ref 65), some (.int 1), some (.int 10), some (.int t3), some (.int t4)], [.int 1600, .int (-1600), .int t3, .ref 65], mz_up (mz_up (mz_up (mz_up (mz_z m) 65 6 t1) 65 7 t2) 65 6 (t1 - (((t1 * 10) / 100) / 1))) 65 7 (t2 - (((t2 * 10) / 100) / 1)))) rfl ?_
                refine mz_do (R := mz_r130) (as := [.int t3, .int (-1600), .int 1600]) (rest := [.ref 65]) (r1 := some (.int t3)) (m1 := mz_up (mz_up (mz_up (mz_up (mz_z m) 65 6 t1) 65 7 t2) 65 6 (t1 - (((t1 * 10) / 100) / 1))) 65 7 (t2 - (((t2 * 10) / 100) / 1))) rfl ⟨?_, rfl⟩ ?_
                · refine mz_go 3 (c' := (if (-1600) ≤ t3 then 9 else 5, [some (.int t3), some (.int (-1600)), some (.int 1600)], [], mz_up (mz_up (mz_up (mz_up (mz_z m) 65 6 t1) 65 7 t2) 65 6 (t1 - (((t1 * 10) / 100) / 1))) 65 7 (t2 - (((t2 * 10) / 100) / 1)))) rfl ?_
                  refine mz_ifT h1 ?_
                  refine mz_go 3 (c' := (if t3 ≤ 1600 then 18 else 14, [some (.int t3), some (.int (-1600)), some (.int 1600)], [], mz_up (mz_up (mz_up (mz_up (mz_z m) 65 6 t1) 65 7 t2) 65 6 (t1 - (((t1 * 10) / 100) / 1))) 65 7 (t2 - (((t2 * 10) / 100) / 1)))) rfl ?_
                  refine mz_ifT h2 ?_
                  refine mz_go 1 (c' := (19, [some (.int t3), some (.int (-1600)), some (.int 1600)], [.int t3], mz_up (mz_up (mz_up (mz_up (mz_z m) 65 6 t1) 65 7 t2) 65 6 (t1 - (((t1 * 10) / 100) / 1))) 65 7 (t2 - (((t2 * 10) / 100) / 1)))) rfl ?_
                  exact mz_ret rfl
                refine mz_go 5 (c' := (243, [some (.ref 65), some (.int 1), some (.int 10), some (.int t3), some (.int t4)], [.int 1600, .int (-1600), .int t4, .ref 65], mz_up (mz_up (mz_up (mz_up (mz_up (mz_z m) 65 6 t1) 65 7 t2) 65 6 (t1 - (((t1 * 10) / 100) / 1))) 65 7 (t2 - (((t2 * 10) / 100) / 1))) 65 4 t3)) rfl ?_
                refine mz_do (R := mz_r130) (as := [.int t4, .int (-1600), .int 1600]) (rest := [.ref 65]) (r1 := some (.int t4)) (m1 := mz_up (mz_up (mz_up (mz_up (mz_up (mz_z m) 65 6 t1) 65 7 t2) 65 6 (t1 - (((t1 * 10) / 100) / 1))) 65 7 (t2 - (((t2 * 10) / 100) / 1))) 65 4 t3) rfl ⟨?_, rfl⟩ ?_
                · refine mz_go 3 (c' := (if (-1600) ≤ t4 then 9 else 5, [some (.int t4), some (.int (-1600)), some (.int 1600)], [], mz_up (mz_up (mz_up (mz_up (mz_up (mz_z m) 65 6 t1) 65 7 t2) 65 6 (t1 - (((t1 * 10) / 100) / 1))) 65 7 (t2 - (((t2 * 10) / 100) / 1))) 65 4 t3)) rfl ?_
                  refine mz_ifT h3 ?_
                  refine mz_go 3 (c' := (if t4 ≤ 1600 then 18 else 14, [some (.int t4), some (.int (-1600)), some (.int 1600)], [], mz_up (mz_up (mz_up (mz_up (mz_up (mz_z m) 65 6 t1) 65 7 t2) 65 6 (t1 - (((t1 * 10) / 100) / 1))) 65 7 (t2 - (((t2 * 10) / 100) / 1))) 65 4 t3)) rfl ?_
                  refine mz_ifT h4 ?_
                  refine mz_go 1 (c' := (19, [some (.int t4), some (.int (-1600)), some (.int 1600)], [.int t4], mz_up (mz_up (mz_up (mz_up (mz_up (mz_z m) 65 6 t1) 65 7 t2) 65 6 (t1 - (((t1 * 10) / 100) / 1))) 65 7 (t2 - (((t2 * 10) / 100) / 1))) 65 4 t3)) rfl ?_
                  exact mz_ret rfl
                refine mz_go 6 (c' := (if t3 = t3 then 258 else 265, [some (.ref 65), some (.int 1), some (.int 10), some (.int t3), some (.int t4)], [.ref 65], mz_up (mz_up (mz_up (mz_up (mz_up (mz_up (mz_z m) 65 6 t1) 65 7 t2) 65 6 (t1 - (((t1 * 10) / 100) / 1))) 65 7 (t2 - (((t2 * 10) / 100) / 1))) 65 4 t3) 65 5 t4)) rfl ?_
                refine mz_ifT h5 ?_
                refine mz_go 9 (c' := (if t4 = t4 then 279 else 286, [some (.ref 65), some (.int 1), some (.int 10), some (.int t3), some (.int t4)], [.ref 65], mz_up (mz_up (mz_up (mz_up (mz_up (mz_up (mz_up (mz_z m) 65 6 t1) 65 7 t2) 65 6 (t1 - (((t1 * 10) / 100) / 1))) 65 7 (t2 - (((t2 * 10) / 100) / 1))) 65 4 t3) 65 5 t4) 65 6 (t1 - (((t1 * 10) / 100) / 1)))) rfl ?_
                refine mz_ifF h6 ?_
                refine mz_go 8 (c' := (300, [some (.ref 65), some (.int 1), some (.int 10), some (.int t3), some (.int t4)], [], mz_up (mz_up (mz_up (mz_up (mz_up (mz_up (mz_up (mz_up (mz_up (mz_z m) 65 6 t1) 65 7 t2) 65 6 (t1 - (((t1 * 10) / 100) / 1))) 65 7 (t2 - (((t2 * 10) / 100) / 1))) 65 4 t3) 65 5 t4) 65 6 (t1 - (((t1 * 10) / 100) / 1))) 65 7 0) 65 8 (((mz_z m) 65 8) + 1))) rfl ?_
                exact mz_ret rfl
          · by_cases h7 : t4 = t4
            · refine ⟨mz_up (mz_up (mz_up (mz_up (mz_up (mz_up (mz_up (mz_up (mz_up (mz_z m) 65 6 t1) 65 7 t2) 65 6 (t1 - (((t1 * 10) / 100) / 1))) 65 7 (t2 - (((t2 * 10) / 100) / 1))) 65 4 t3) 65 5 t4) 65 6 0) 65 7 (t2 - (((t2 * 10) / 100) / 1))) 65 8 (((mz_z m) 65 8) + 1), fun i hi => by simp only [mz_up_ne hi], rfl, ⟨?_, rfl⟩⟩
              · refine mz_go 24 (c' := (123, [some (.ref 65), some (.int 1), some (.int 0), none, none], [], mz_up (mz_z m) 65 6 t1)) rfl ?_
                refine mz_go 17 (c' := (151, [some (.ref 65), some (.int 1), some (.int 0), none, none], [.ref 65], mz_up (mz_up (mz_z m) 65 6 t1) 65 7 t2)) rfl ?_
                refine mz_do (R := mz_r151) (as := [.ref 65]) (rest := []) (r1 := some (.int 10)) (m1 := mz_up (mz_up (mz_z m) 65 6 t1) 65 7 t2) rfl ⟨?_, rfl⟩ ?_
                · refine mz_go 2 (c' := (2, [some (.ref 65), none], [.int 1, .ref 65], mz_up (mz_up (mz_z m) 65 6 t1) 65 7 t2)) rfl ?_
                  refine mz_do (R := mz_r169) (as := [.ref 65, .int 1]) (rest := []) (r1 := some (.int 0)) (m1 := mz_up (mz_up (mz_z m) 65 6 t1) 65 7 t2) rfl ⟨?_, rfl⟩ ?_
                  · refine mz_go 10 (c' := (21, [some (.ref 65), some (.int 1)], [.int 0], mz_up (mz_up (mz_z m) 65 6 t1) 65 7 t2)) rfl ?_
                    exact mz_ret rfl
                  refine mz_go 5 (c' := (15, [some (.ref 65), none], [.int 10], mz_up (mz_up (mz_z m) 65 6 t1) 65 7 t2)) rfl ?_
                  exact mz_ret rfl
                refine mz_go 24 (c' := (190, [some (.ref 65), some (.int 1), some (.int 10), none, none], [.int 1, .int ((t2 * 10) / 100), .int t2, .ref 65], mz_up (mz_up (mz_up (mz_z m) 65 6 t1) 65 7 t2) 65 6 (t1 - (((t1 * 10) / 100) / 1)))) rfl ?_
                refine mz_go 23 (c' := (228, [some (.ref 65), some (.int 1), some (.int 10), some (.int t3), some (.int t4)], [.int 1600, .int (-1600), .int t3, .ref 65], mz_up (mz_up (mz_up (mz_up (mz_z m) 65 6 t1) 65 7 t2) 65 6 (t1 - (((t1 * 10) / 100) / 1))) 65 7 (t2 - (((t2 * 10) / 100) / 1)))) rfl ?_
                refine mz_do (R := mz_r130) (as := [.int t3, .int (-1600), .int 1600]) (rest := [.ref 65]) (r1 := some (.int t3)) (m1 := mz_up (mz_up (mz_up (mz_up (mz_z m) 65 6 t1) 65 7 t2) 65 6 (t1 - (((t1 * 10) / 100) / 1))) 65 7 (t2 - (((t2 * 10) / 100) / 1))) rfl ⟨?_, rfl⟩ ?_
                · refine mz_go 3 (c' := (if (-1600) ≤ t3 then 9 else 5, [some (.int t3), some (.int (-1600)), some (.int 1600)], [], mz_up (mz_up (mz_up (mz_up (mz_z m) 65 6 t1) 65 7 t2) 65 6 (t1 - (((t1 * 10) / 100) / 1))) 65 7 (t2 - (((t2 * 10) / 100) / 1)))) rfl ?_
                  refine mz_ifT h1 ?_
                  refine mz_go 3 (c' := (if t3 ≤ 1600 then 18 else 14, [some (.int t3), some (.int (-1600)), some (.int 1600)], [], mz_up (mz_up (mz_up (mz_up (mz_z m) 65 6 t1) 65 7 t2) 65 6 (t1 - (((t1 * 10) / 100) / 1))) 65 7 (t2 - (((t2 * 10) / 100) / 1)))) rfl ?_
                  refine mz_ifT h2 ?_
                  refine mz_go 1 (c' := (19, [some (.int t3), some (.int (-1600)), some (.int 1600)], [.int t3], mz_up (mz_up (mz_up (mz_up (mz_z m) 65 6 t1) 65 7 t2) 65 6 (t1 - (((t1 * 10) / 100) / 1))) 65 7 (t2 - (((t2 * 10) / 100) / 1)))) rfl ?_
                  exact mz_ret rfl
                refine mz_go 5 (c' := (243, [some (.ref 65), some (.int 1), some (.int 10), some (.int t3), some (.int t4)], [.int 1600, .int (-1600), .int t4, .ref 65], mz_up (mz_up (mz_up (mz_up (mz_up (mz_z m) 65 6 t1) 65 7 t2) 65 6 (t1 - (((t1 * 10) / 100) / 1))) 65 7 (t2 - (((t2 * 10) / 100) / 1))) 65 4 t3)) rfl ?_
                refine mz_do (R := mz_r130) (as := [.int t4, .int (-1600), .int 1600]) (rest := [.ref 65]) (r1 := some (.int t4)) (m1 := mz_up (mz_up (mz_up (mz_up (mz_up (mz_z m) 65 6 t1) 65 7 t2) 65 6 (t1 - (((t1 * 10) / 100) / 1))) 65 7 (t2 - (((t2 * 10) / 100) / 1))) 65 4 t3) rfl ⟨?_, rfl⟩ ?_
                · refine mz_go 3 (c' := (if (-1600) ≤ t4 then 9 else 5, [some (.int t4), some (.int (-1600)), some (.int 1600)], [], mz_up (mz_up (mz_up (mz_up (mz_up (mz_z m) 65 6 t1) 65 7 t2) 65 6 (t1 - (((t1 * 10) / 100) / 1))) 65 7 (t2 - (((t2 * 10) / 100) / 1))) 65 4 t3)) rfl ?_
                  refine mz_ifT h3 ?_
                  refine mz_go 3 (c' := (if t4 ≤ 1600 then 18 else 14, [some (.int t4), some (.int (-1600)), some (.int 1600)], [], mz_up (mz_up (mz_up (mz_up (mz_up (mz_z m) 65 6 t1) 65 7 t2) 65 6 (t1 - (((t1 * 10) / 100) / 1))) 65 7 (t2 - (((t2 * 10) / 100) / 1))) 65 4 t3)) rfl ?_
                  refine mz_ifT h4 ?_
                  refine mz_go 1 (c' := (19, [some (.int t4), some (.int (-1600)), some (.int 1600)], [.int t4], mz_up (mz_up (mz_up (mz_up (mz_up (mz_z m) 65 6 t1) 65 7 t2) 65 6 (t1 - (((t1 * 10) / 100) / 1))) 65 7 (t2 - (((t2 * 10) / 100) / 1))) 65 4 t3)) rfl ?_
                  exact mz_ret rfl
                refine mz_go 6 (c' := (if t3 = t3 then 258 else 265, [some (.ref 65), some (.int 1), some (.int 10), some (.int t3), some (.int t4)], [.ref 65], mz_up (mz_up (mz_up (mz_up (mz_up (mz_up (mz_z m) 65 6 t1) 65 7 t2) 65 6 (t1 - (((t1 * 10) / 100) / 1))) 65 7 (t2 - (((t2 * 10) / 100) / 1))) 65 4 t3) 65 5 t4)) rfl ?_
                refine mz_ifF h5 ?_
                refine mz_go 7 (c' := (if t4 = t4 then 279 else 286, [some (.ref 65), some (.int 1), some (.int 10), some (.int t3), some (.int t4)], [.ref 65], mz_up (mz_up (mz_up (mz_up (mz_up (mz_up (mz_up (mz_z m) 65 6 t1) 65 7 t2) 65 6 (t1 - (((t1 * 10) / 100) / 1))) 65 7 (t2 - (((t2 * 10) / 100) / 1))) 65 4 t3) 65 5 t4) 65 6 0)) rfl ?_
                refine mz_ifT h7 ?_
                refine mz_go 10 (c' := (300, [some (.ref 65), some (.int 1), some (.int 10), some (.int t3), some (.int t4)], [], mz_up (mz_up (mz_up (mz_up (mz_up (mz_up (mz_up (mz_up (mz_up (mz_z m) 65 6 t1) 65 7 t2) 65 6 (t1 - (((t1 * 10) / 100) / 1))) 65 7 (t2 - (((t2 * 10) / 100) / 1))) 65 4 t3) 65 5 t4) 65 6 0) 65 7 (t2 - (((t2 * 10) / 100) / 1))) 65 8 (((mz_z m) 65 8) + 1))) rfl ?_
                exact mz_ret rfl
            · refine ⟨mz_up (mz_up (mz_up (mz_up (mz_up (mz_up (mz_up (mz_up (mz_up (mz_z m) 65 6 t1) 65 7 t2) 65 6 (t1 - (((t1 * 10) / 100) / 1))) 65 7 (t2 - (((t2 * 10) / 100) / 1))) 65 4 t3) 65 5 t4) 65 6 0) 65 7 0) 65 8 (((mz_z m) 65 8) + 1), fun i hi => by simp only [mz_up_ne hi], rfl, ⟨?_, rfl⟩⟩
              · refine mz_go 24 (c' := (123, [some (.ref 65), some (.int 1), some (.int 0), none, none], [], mz_up (mz_z m) 65 6 t1)) rfl ?_
                refine mz_go 17 (c' := (151, [some (.ref 65), some (.int 1), some (.int 0), none, none], [.ref 65], mz_up (mz_up (mz_z m) 65 6 t1) 65 7 t2)) rfl ?_
                refine mz_do (R := mz_r151) (as := [.ref 65]) (rest := []) (r1 := some (.int 10)) (m1 := mz_up (mz_up (mz_z m) 65 6 t1) 65 7 t2) rfl ⟨?_, rfl⟩ ?_
                · refine mz_go 2 (c' := (2, [some (.ref 65), none], [.int 1, .ref 65], mz_up (mz_up (mz_z m) 65 6 t1) 65 7 t2)) rfl ?_
                  refine mz_do (R := mz_r169) (as := [.ref 65, .int 1]) (rest := []) (r1 := some (.int 0)) (m1 := mz_up (mz_up (mz_z m) 65 6 t1) 65 7 t2) rfl ⟨?_, rfl⟩ ?_
                  · refine mz_go 10 (c' := (21, [some (.ref 65), some (.int 1)], [.int 0], mz_up (mz_up (mz_z m) 65 6 t1) 65 7 t2)) rfl ?_
                    exact mz_ret rfl
                  refine mz_go 5 (c' := (15, [some (.ref 65), none], [.int 10], mz_up (mz_up (mz_z m) 65 6 t1) 65 7 t2)) rfl ?_
                  exact mz_ret rfl
                refine mz_go 24 (c' := (190, [some (.ref 65), some (.int 1), some (.int 10), none, none], [.int 1, .int ((t2 * 10) / 100), .int t2, .ref 65], mz_up (mz_up (mz_up (mz_z m) 65 6 t1) 65 7 t2) 65 6 (t1 - (((t1 * 10) / 100) / 1)))) rfl ?_
                refine mz_go 23 (c' := (228, [some (.ref 65), some (.int 1), some (.int 10), some (.int t3), some (.int t4)], [.int 1600, .int (-1600), .int t3, .ref 65], mz_up (mz_up (mz_up (mz_up (mz_z m) 65 6 t1) 65 7 t2) 65 6 (t1 - (((t1 * 10) / 100) / 1))) 65 7 (t2 - (((t2 * 10) / 100) / 1)))) rfl ?_
                refine mz_do (R := mz_r130) (as := [.int t3, .int (-1600), .int 1600]) (rest := [.ref 65]) (r1 := some (.int t3)) (m1 := mz_up (mz_up (mz_up (mz_up (mz_z m) 65 6 t1) 65 7 t2) 65 6 (t1 - (((t1 * 10) / 100) / 1))) 65 7 (t2 - (((t2 * 10) / 100) / 1))) rfl ⟨?_, rfl⟩ ?_
                · refine mz_go 3 (c' := (if (-1600) ≤ t3 then 9 else 5, [some (.int t3), some (.int (-1600)), some (.int 1600)], [], mz_up (mz_up (mz_up (mz_up (mz_z m) 65 6 t1) 65 7 t2) 65 6 (t1 - (((t1 * 10) / 100) / 1))) 65 7 (t2 - (((t2 * 10) / 100) / 1)))) rfl ?_
                  refine mz_ifT h1 ?_
                  refine mz_go 3 (c' := (if t3 ≤ 1600 then 18 else 14, [some (.int t3), some (.int (-1600)), some (.int 1600)], [], mz_up (mz_up (mz_up (mz_up (mz_z m) 65 6 t1) 65 7 t2) 65 6 (t1 - (((t1 * 10) / 100) / 1))) 65 7 (t2 - (((t2 * 10) / 100) / 1)))) rfl ?_
                  refine mz_ifT h2 ?_
                  refine mz_go 1 (c' := (19, [some (.int t3), some (.int (-1600)), some (.int 1600)], [.int t3], mz_up (mz_up (mz_up (mz_up (mz_z m) 65 6 t1) 65 7 t2) 65 6 (t1 - (((t1 * 10) / 100) / 1))) 65 7 (t2 - (((t2 * 10) / 100) / 1)))) rfl ?_
                  exact mz_ret rfl
                refine mz_go 5 (c' := (243, [some (.ref 65), some (.int 1), some (.int 10), some (.int t3), some (.int t4)], [.int 1600, .int (-1600), .int t4, .ref 65], mz_up (mz_up (mz_up (mz_up (mz_up (mz_z m) 65 6 t1) 65 7 t2) 65 6 (t1 - (((t1 * 10) / 100) / 1))) 65 7 (t2 - (((t2 * 10) / 100) / 1))) 65 4 t3)) rfl ?_
                refine mz_do (R := mz_r130) (as := [.int t4, .int (-1600), .int 1600]) (rest := [.ref 65]) (r1 := some (.int t4)) (m1 := mz_up (mz_up (mz_up (mz_up (mz_up (mz_z m) 65 6 t1) 65 7 t2) 65 6 (t1 - (((t1 * 10) / 100) / 1))) 65 7 (t2 - (((t2 * 10) / 100) / 1))) 65 4 t3) rfl ⟨?_, rfl⟩ ?_
                · refine mz_go 3 (c' := (if (-1600) ≤ t4 then 9 else 5, [some (.int t4), some (.int (-1600)), some (.int 1600)], [], mz_up (mz_up (mz_up (mz_up (mz_up (mz_z m) 65 6 t1) 65 7 t2) 65 6 (t1 - (((t1 * 10) / 100) / 1))) 65 7 (t2 - (((t2 * 10) / 100) / 1))) 65 4 t3)) rfl ?_
                  refine mz_ifT h3 ?_
                  refine mz_go 3 (c' := (if t4 ≤ 1600 then 18 else 14, [some (.int t4), some (.int (-1600)), some (.int 1600)], [], mz_up (mz_up (mz_up (mz_up (mz_up (mz_z m) 65 6 t1) 65 7 t2) 65 6 (t1 - (((t1 * 10) / 100) / 1))) 65 7 (t2 - (((t2 * 10) / 100) / 1))) 65 4 t3)) rfl ?_
                  refine mz_ifT h4 ?_
                  refine mz_go 1 (c' := (19, [some (.int t4), some (.int (-1600)), some (.int 1600)], [.int t4], mz_up (mz_up (mz_up (mz_up (mz_up (mz_z m) 65 6 t1) 65 7 t2) 65 6 (t1 - (((t1 * 10) / 100) / 1))) 65 7 (t2 - (((t2 * 10) / 100) / 1))) 65 4 t3)) rfl ?_
                  exact mz_ret rfl
                refine mz_go 6 (c' := (if t3 = t3 then 258 else 265, [some (.ref 65), some (.int 1), some (.int 10), some (.int t3), some (.int t4)], [.ref 65], mz_up (mz_up (mz_up (mz_up (mz_up (mz_up (mz_z m) 65 6 t1) 65 7 t2) 65 6 (t1 - (((t1 * 10) / 100) / 1))) 65 7 (t2 - (((t2 * 10) / 100) / 1))) 65 4 t3) 65 5 t4)) rfl ?_
                refine mz_ifF h5 ?_
                refine mz_go 7 (c' := (if t4 = t4 then 279 else 286, [some (.ref 65), some (.int 1), some (.int 10), some (.int t3), some (.int t4)], [.ref 65], mz_up (mz_up (mz_up (mz_up (mz_up (mz_up (mz_up (mz_z m) 65 6 t1) 65 7 t2) 65 6 (t1 - (((t1 * 10) / 100) / 1))) 65 7 (t2 - (((t2 * 10) / 100) / 1))) 65 4 t3) 65 5 t4) 65 6 0)) rfl ?_
                refine mz_ifF h7 ?_
                refine mz_go 8 (c' := (300, [some (.ref 65), some (.int 1), some (.int 10), some (.int t3), some (.int t4)], [], mz_up (mz_up (mz_up (mz_up (mz_up (mz_up (mz_up (mz_up (mz_up (mz_z m) 65 6 t1) 65 7 t2) 65 6 (t1 - (((t1 * 10) / 100) / 1))) 65 7 (t2 - (((t2 * 10) / 100) / 1))) 65 4 t3) 65 5 t4) 65 6 0) 65 7 0) 65 8 (((mz_z m) 65 8) + 1))) rfl ?_
                exact mz_ret rfl
        · by_cases h8 : t3 = t3
          · by_cases h9 : 1600 = t4
            · refine ⟨mz_up (mz_up (mz_up (mz_up (mz_up (mz_up (mz_up (mz_up (mz_up (mz_z m) 65 6 t1) 65 7 t2) 65 6 (t1 - (((t1 * 10) / 100) / 1))) 65 7 (t2 - (((t2 * 10) / 100) / 1))) 65 4 t3) 65 5 1600) 65 6 (t1 - (((t1 * 10) / 100) / 1))) 65 7 (t2 - (((t2 * 10) / 100) / 1))) 65 8 (((mz_z m) 65 8) + 1), fun i hi => by simp only [mz_up_ne hi], rfl, ⟨?_, rfl⟩⟩
              · refine mz_go 24 (c' := (123, [some (.ref 65), some (.int 1), some (.int 0), none, none], [], mz_up (mz_z m) 65 6 t1)) rfl ?_
                refine mz_go 17 (c' := (151, [some (.ref 65), some (.int 1), some (.int 0), none, none], [.ref 65], mz_up (mz_up (mz_z m) 65 6 t1) 65 7 t2)) rfl ?_
                refine mz_do (R := mz_r151) (as := [.ref 65]) (rest := []) (r1 := some (.int 10)) (m1 := mz_up (mz_up (mz_z m) 65 6 t1) 65 7 t2) rfl ⟨?_, rfl⟩ ?_
                · refine mz_go 2 (c' := (2, [some (.ref 65), none], [.int 1, .ref 65], mz_up (mz_up (mz_z m) 65 6 t1) 65 7 t2)) rfl ?_
                  refine mz_do (R := mz_r169) (as := [.ref 65, .int 1]) (rest := []) (r1 := some (.int 0)) (m1 := mz_up (mz_up (mz_z m) 65 6 t1) 65 7 t2) rfl ⟨?_, rfl⟩ ?_
                  · refine mz_go 10 (c' := (21, [some (.ref 65), some (.int 1)], [.int 0], mz_up (mz_up (mz_z m) 65 6 t1) 65 7 t2)) rfl ?_
                    exact mz_ret rfl
                  refine mz_go 5 (c' := (15, [some (.ref 65), none], [.int 10], mz_up (mz_up (mz_z m) 65 6 t1) 65 7 t2)) rfl ?_
                  exact mz_ret rfl
                refine mz_go 24 (c' := (190, [some (.ref 65), some (.int 1), some (.int 10), none, none], [.int 1, .int ((t2 * 10) / 100), .int t2, .ref 65], mz_up (mz_up (mz_up (mz_z m) 65 6 t1) 65 7 t2) 65 6 (t1 - (((t1 * 10) / 100) / 1)))) rfl ?_
                refine mz_go 23 (c' := (228, [some (.ref 65), some (.int 1), some (.int 10), some (.int t3), some (.int t4)], [.int 1600, .int (-1600), .int t3, .ref 65], mz_up (mz_up (mz_up (mz_up (mz_z m) 65 6 t1) 65 7 t2) 65 6 (t1 - (((t1 * 10) / 100) / 1))) 65 7 (t2 - (((t2 * 10) / 100) / 1)))) rfl ?_
                refine mz_do (R := mz_r130) (as := [.int t3, .int (-1600), .int 1600]) (rest := [.ref 65]) (r1 := some (.int t3)) (m1 := mz_up (mz_up (mz_up (mz_up (mz_z m) 65 6 t1) 65 7 t2) 65 6 (t1 - (((t1 * 10) / 100) / 1))) 65 7 (t2 - (((t2 * 10) / 100) / 1))) rfl ⟨?_, rfl⟩ ?_
                · refine mz_go 3 (c' := (if (-1600) ≤ t3 then 9 else 5, [some (.int t3), some (.int (-1600)), some (.int 1600)], [], mz_up (mz_up (mz_up (mz_up (mz_z m) 65 6 t1) 65 7 t2) 65 6 (t1 - (((t1 * 10) / 100) / 1))) 65 7 (t2 - (((t2 * 10) / 100) / 1)))) rfl ?_
                  refine mz_ifT h1 ?_
                  refine mz_go 3 (c' := (if t3 ≤ 1600 then 18 else 14, [some (.int t3), some (.int (-1600)), some (.int 1600)], [], mz_up (mz_up (mz_up (mz_up (mz_z m) 65 6 t1) 65 7 t2) 65 6 (t1 - (((t1 * 10) / 100) / 1))) 65 7 (t2 - (((t2 * 10) / 100) / 1)))) rfl ?_
                  refine mz_ifT h2 ?_
                  refine mz_go 1 (c' := (19, [some (.int t3), some (.int (-1600)), some (.int 1600)], [.int t3], mz_up (mz_up (mz_up (mz_up (mz_z m) 65 6 t1) 65 7 t2) 65 6 (t1 - (((t1 * 10) / 100) / 1))) 65 7 (t2 - (((t2 * 10) / 100) / 1)))) rfl ?_
                  exact mz_ret rfl
                refine mz_go 5 (c' := (243, [some (.ref 65), some (.int 1), some (.int 10), some (.int t3), some (.int t4)], [.int 1600, .int (-1600), .int t4, .ref 65], mz_up (mz_up (mz_up (mz_up (mz_up (mz_z m) 65 6 t1) 65 7 t2) 65 6 (t1 - (((t1 * 10) / 100) / 1))) 65 7 (t2 - (((t2 * 10) / 100) / 1))) 65 4 t3)) rfl ?_
                refine mz_do (R := mz_r130) (as := [.int t4, .int (-1600), .int 1600]) (rest := [.ref 65]) (r1 := some (.int 1600)) (m1 := mz_up (mz_up (mz_up (mz_up (mz_up (mz_z m) 65 6 t1) 65 7 t2) 65 6 (t1 - (((t1 * 10) / 100) / 1))) 65 7 (t2 - (((t2 * 10) / 100) / 1))) 65 4 t3) rfl ⟨?_, rfl⟩ ?_
                · refine mz_go 3 (c' := (if (-1600) ≤ t4 then 9 else 5, [some (.int t4), some (.int (-1600)), some (.int 1600)], [], mz_up (mz_up (mz_up (mz_up (mz_up (mz_z m) 65 6 t1) 65 7 t2) 65 6 (t1 - (((t1 * 10) / 100) / 1))) 65 7 (t2 - (((t2 * 10) / 100) / 1))) 65 4 t3)) rfl ?_
                  refine mz_ifT h3 ?_
                  refine mz_go 3 (c' := (if t4 ≤ 1600 then 18 else 14, [some (.int t4), some (.int (-1600)), some (.int 1600)], [], mz_up (mz_up (mz_up (mz_up (mz_up (mz_z m) 65 6 t1) 65 7 t2) 65 6 (t1 - (((t1 * 10) / 100) / 1))) 65 7 (t2 - (((t2 * 10) / 100) / 1))) 65 4 t3)) rfl ?_
                  refine mz_ifF h4 ?_
                  refine mz_go 2 (c' := (19, [some (.int t4), some (.int (-1600)), some (.int 1600)], [.int 1600], mz_up (mz_up (mz_up (mz_up (mz_up (mz_z m) 65 6 t1) 65 7 t2) 65 6 (t1 - (((t1 * 10) / 100) / 1))) 65 7 (t2 - (((t2 * 10) / 100) / 1))) 65 4 t3)) rfl ?_
                  exact mz_ret rfl
                refine mz_go 6 (c' := (if t3 = t3 then 258 else 265, [some (.ref 65), some (.int 1), some (.int 10), some (.int t3), some (.int t4)], [.ref 65], mz_up (mz_up (mz_up (mz_up (mz_up (mz_up (mz_z m) 65 6 t1) 65 7 t2) 65 6 (t1 - (((t1 * 10) / 100) / 1))) 65 7 (t2 - (((t2 * 10) / 100) / 1))) 65 4 t3) 65 5 1600)) rfl ?_
                refine mz_ifT h8 ?_
                refine mz_go 9 (c' := (if 1600 = t4 then 279 else 286, [some (.ref 65), some (.int 1), some (.int 10), some (.int t3), some (.int t4)], [.ref 65], mz_up (mz_up (mz_up (mz_up (mz_up (mz_up (mz_up (mz_z m) 65 6 t1) 65 7 t2) 65 6 (t1 - (((t1 * 10) / 100) / 1))) 65 7 (t2 - (((t2 * 10) / 100) / 1))) 65 4 t3) 65 5 1600) 65 6 (t1 - (((t1 * 10) / 100) / 1)))) rfl ?_
                refine mz_ifT h9 ?_
                refine mz_go 10 (c' := (300, [some (.ref 65), some (.int 1), some (.int 10), some (.int t3), some (.int t4)], [], mz_up (mz_up (mz_up (mz_up (mz_up (mz_up (mz_up (mz_up (mz_up (mz_z m) 65 6 t1) 65 7 t2) 65 6 (t1 - (((t1 * 10) / 100) / 1))) 65 7 (t2 - (((t2 * 10) / 100) / 1))) 65 4 t3) 65 5 1600) 65 6 (t1 - (((t1 * 10) / 100) / 1))) 65 7 (t2 - (((t2 * 10) / 100) / 1))) 65 8 (((mz_z m) 65 8) + 1))) rfl ?_
                exact mz_ret rfl
            · refine ⟨mz_up (mz_up (mz_up (mz_up (mz_up (mz_up (mz_up (mz_up (mz_up (mz_z m) 65 6 t1) 65 7 t2) 65 6 (t1 - (((t1 * 10) / 100) / 1))) 65 7 (t2 - (((t2 * 10) / 100) / 1))) 65 4 t3) 65 5 1600) 65 6 (t1 - (((t1 * 10) / 100) / 1))) 65 7 0) 65 8 (((mz_z m) 65 8) + 1), fun i hi => by simp only [mz_up_ne hi], rfl, ⟨?_, rfl⟩⟩
              · refine mz_go 24 (c' := (123, [some (.ref 65), some (.int 1), some (.int 0), none, none], [], mz_up (mz_z m) 65 6 t1)) rfl ?_
                refine mz_go 17 (c' := (151, [some (.ref 65), some (.int 1), some (.int 0), none, none], [.ref 65], mz_up (mz_up (mz_z m) 65 6 t1) 65 7 t2)) rfl ?_
                refine mz_do (R := mz_r151) (as := [.ref 65]) (rest := []) (r1 := some (.int 10)) (m1 := mz_up (mz_up (mz_z m) 65 6 t1) 65 7 t2) rfl ⟨?_, rfl⟩ ?_
                · refine mz_go 2 (c' := (2, [some (.ref 65), none], [.int 1, .ref 65], mz_up (mz_up (mz_z m) 65 6 t1) 65 7 t2)) rfl ?_
                  refine mz_do (R := mz_r169) (as := [.ref 65, .int 1]) (rest := []) (r1 := some (.int 0)) (m1 := mz_up (mz_up (mz_z m) 65 6 t1) 65 7 t2) rfl ⟨?_, rfl⟩ ?_
                  · refine mz_go 10 (c' := (21, [some (.ref 65), some (.int 1)], [.int 0], mz_up (mz_up (mz_z m) 65 6 t1) 65 7 t2)) rfl ?_
                    exact mz_ret rfl
                  refine mz_go 5 (c' := (15, [some (.ref 65), none], [.int 10], mz_up (mz_up (mz_z m) 65 6 t1) 65 7 t2)) rfl ?_
                  exact mz_ret rfl
                refine mz_go 24 (c' := (190, [some (.ref 65), some (.int 1), some (.int 10), none, none], [.int 1, .int ((t2 * 10) / 100), .int t2, .ref 65], mz_up (mz_up (mz_up (mz_z m) 65 6 t1) 65 7 t2) 65 6 (t1 - (((t1 * 10) / 100) / 1)))) rfl ?_
                refine mz_go 23 (c' := (228, [some (.ref 65), some (.int 1), some (.int 10), some (.int t3), some (.int t4)], [.int 1600, .int (-1600), .int t3, .ref 65], mz_up (mz_up (mz_up (mz_up (mz_z m) 65 6 t1) 65 7 t2) 65 6 (t1 - (((t1 * 10) / 100) / 1))) 65 7 (t2 - (((t2 * 10) / 100) / 1)))) rfl ?_
                refine mz_do (R := mz_r130) (as := [.int t3, .int (-1600), .int 1600]) (rest := [.ref 65]) (r1 := some (.int t3)) (m1 := mz_up (mz_up (mz_up (mz_up (mz_z m) 65 6 t1) 65 7 t2) 65 6 (t1 - (((t1 * 10) / 100) / 1))) 65 7 (t2 - (((t2 * 10) / 100) / 1))) rfl ⟨?_, rfl⟩ ?_
                · refine mz_go 3 (c' := (if (-1600) ≤ t3 then 9 else 5, [some (.int t3), some (.int (-1600)), some (.int 1600)], [], mz_up (mz_up (mz_up (mz_up (mz_z m) 65 6 t1) 65 7 t2) 65 6 (t1 - (((t1 * 10) / 100) / 1))) 65 7 (t2 - (((t2 * 10) / 100) / 1)))) rfl ?_
                  refine mz_ifT h1 ?_
                  refine mz_go 3 (c' := (if t3 ≤ 1600 then 18 else 14, [some (.int t3), some (.int (-1600)), some (.int 1600)], [], mz_up (mz_up (mz_up (mz_up (mz_z m) 65 6 t1) 65 7 t2) 65 6 (t1 - (((t1 * 10) / 100) / 1))) 65 7 (t2 - (((t2 * 10) / 100) / 1)))) rfl ?_
                  refine mz_ifT h2 ?_
                  refine mz_go 1 (c' := (19, [some (.int t3), some (.int (-1600)), some (.int 1600)], [.int t3], mz_up (mz_up (mz_up (mz_up (mz_z m) 65 6 t1) 65 7 t2) 65 6 (t1 - (((t1 * 10) / 100) / 1))) 65 7 (t2 - (((t2 * 10) / 100) / 1)))) rfl ?_
                  exact mz_ret rfl
                refine mz_go 5 (c' := (243, [some (.ref 65), some (.int 1), some (.int 10), some (.int t3), some (.int t4)], [.int 1600, .int (-1600), .int t4, .ref 65], mz_up (mz_up (mz_up (mz_up (mz_up (mz_z m) 65 6 t1) 65 7 t2) 65 6 (t1 - (((t1 * 10) / 100) / 1))) 65 7 (t2 - (((t2 * 10) / 100) / 1))) 65 4 t3)) rfl ?_
                refine mz_do (R := mz_r130) (as := [.int t4, .int (-1600), .int 1600]) (rest := [.ref 65]) (r1 := some (.int 1600)) (m1 := mz_up (mz_up (mz_up (mz_up (mz_up (mz_z m) 65 6 t1) 65 7 t2) 65 6 (t1 - (((t1 * 10) / 100) / 1))) 65 7 (t2 - (((t2 * 10) / 100) / 1))) 65 4 t3) rfl ⟨?_, rfl⟩ ?_
                · refine mz_go 3 (c' := (if (-1600) ≤ t4 then 9 else 5, [some (.int t4), some (.int (-1600)), some (.int 1600)], [], mz_up (mz_up (mz_up (mz_up (mz_up (mz_z m) 65 6 t1) 65 7 t2) 65 6 (t1 - (((t1 * 10) / 100) / 1))) 65 7 (t2 - (((t2 * 10) / 100) / 1))) 65 4 t3)) rfl ?_
                  refine mz_ifT h3 ?_
                  refine mz_go 3 (c' := (if t4 ≤ 1600 then 18 else 14, [some (.int t4), some (.int (-1600)), some (.int 1600)], [], mz_up (mz_up (mz_up (mz_up (mz_up (mz_z m) 65 6 t1) 65 7 t2) 65 6 (t1 - (((t1 * 10) / 100) / 1))) 65 7 (t2 - (((t2 * 10) / 100) / 1))) 65 4 t3)) rfl ?_
                  refine mz_ifF h4 ?_
                  refine mz_go 2 (c' := (19, [some (.int t4), some (.int (-1600)), some (.int 1600)], [.int 1600], mz_up (mz_up (mz_up (mz_up (mz_up (mz_z m) 65 6 t1) 65 7 t2) 65 6 (t1 - (((t1 * 10) / 100) / 1))) 65 7 (t2 - (((t2 * 10) / 100) / 1))) 65 4 t3)) rfl ?_
                  exact mz_ret rfl
                refine mz_go 6 (c' := (if t3 = t3 then 258 else 265, [some (.ref 65), some (.int 1), some (.int 10), some (.int t3), some (.int t4)], [.ref 65], mz_up (mz_up (mz_up (mz_up (mz_up (mz_up (mz_z m) 65 6 t1) 65 7 t2) 65 6 (t1 - (((t1 * 10) / 100) / 1))) 65 7 (t2 - (((t2 * 10) / 100) / 1))) 65 4 t3) 65 5 1600)) rfl ?_
                refine mz_ifT h8 ?_
                refine mz_go 9 (c' := (if 1600 = t4 then 279 else 286, [some (.ref 65), some (.int 1), some (.int 10), some (.int t3), some (.int t4)], [.ref 65], mz_up (mz_up (mz_up (mz_up (mz_up (mz_up (mz_up (mz_z m) 65 6 t1) 65 7 t2) 65 6 (t1 - (((t1 * 10) / 100) / 1))) 65 7 (t2 - (((t2 * 10) / 100) / 1))) 65 4 t3) 65 5 1600) 65 6 (t1 - (((t1 * 10) / 100) / 1)))) rfl ?_
                refine mz_ifF h9 ?_
                refine mz_go 8 (c' := (300, [some (.ref 65), some (.int 1), some (.int 10), some (.int t3), some (.int t4)], [], mz_up (mz_up (mz_up (mz_up (mz_up (mz_up (mz_up (mz_up (mz_up (mz_z m) 65 6 t1) 65 7 t2) 65 6 (t1 - (((t1 * 10) / 100) / 1))) 65 7 (t2 - (((t2 * 10) / 100) / 1))) 65 4 t3) 65 5 1600) 65 6 (t1 - (((t1 * 10) / 100) / 1))) 65 7 0) 65 8 (((mz_z m) 65 8) + 1))) rfl ?_
                exact mz_ret rfl
          · by_cases h10 : 1600 = t4
            · refine ⟨mz_up (mz_up (mz_up (mz_up (mz_up (mz_up (mz_up (mz_up (mz_up (mz_z m) 65 6 t1) 65 7 t2) 65 6 (t1 - (((t1 * 10) / 100) / 1))) 65 7 (t2 - (((t2 * 10) / 100) / 1))) 65 4 t3) 65 5 1600) 65 6 0) 65 7 (t2 - (((t2 * 10) / 100) / 1))) 65 8 (((mz_z m) 65 8) + 1), fun i hi => by simp only [mz_up_ne hi], rfl, ⟨?_, rfl⟩⟩
              · refine mz_go 24 (c' := (123, [some (.ref 65), some (.int 1), some (.int 0), none, none], [], mz_up (mz_z m) 65 6 t1)) rfl ?_
                refine mz_go 17 (c' := (151, [some (.ref 65), some (.int 1), some (.int 0), none, none], [.ref 65], mz_up (mz_up (mz_z m) 65 6 t1) 65 7 t2)) rfl ?_
                refine mz_do (R := mz_r151) (as := [.ref 65]) (rest := []) (r1 := some (.int 10)) (m1 := mz_up (mz_up (mz_z m) 65 6 t1) 65 7 t2) rfl ⟨?_, rfl⟩ ?_
                · refine mz_go 2 (c' := (2, [some (.ref 65), none], [.int 1, .ref 65], mz_up (mz_up (mz_z m) 65 6 t1) 65 7 t2)) rfl ?_
                  refine mz_do (R := mz_r169) (as := [.ref 65, .int 1]) (rest := []) (r1 := some (.int 0)) (m1 := mz_up (mz_up (mz_z m) 65 6 t1) 65 7 t2) rfl ⟨?_, rfl⟩ ?_
                  · refine mz_go 10 (c' := (21, [some (.ref 65), some (.int 1)], [.int 0], mz_up (mz_up (mz_z m) 65 6 t1) 65 7 t2)) rfl ?_
                    exact mz_ret rfl
                  refine mz_go 5 (c' := (15, [some (.ref 65), none], [.int 10], mz_up (mz_up (mz_z m) 65 6 t1) 65 7 t2)) rfl ?_
                  exact mz_ret rfl
                refine mz_go 24 (c' := (190, [some (.ref 65), some (.int 1), some (.int 10), none, none], [.int 1, .int ((t2 * 10) / 100), .int t2, .ref 65], mz_up (mz_up (mz_up (mz_z m) 65 6 t1) 65 7 t2) 65 6 (t1 - (((t1 * 10) / 100) / 1)))) rfl ?_
                refine mz_go 23 (c' := (228, [some (.ref 65), some (.int 1), some (.int 10), some (.int t3), some (.int t4)], [.int 1600, .int (-1600), .int t3, .ref 65], mz_up (mz_up (mz_up (mz_up (mz_z m) 65 6 t1) 65 7 t2) 65 6 (t1 - (((t1 * 10) / 100) / 1))) 65 7 (t2 - (((t2 * 10) / 100) / 1)))) rfl ?_
                refine mz_do (R := mz_r130) (as := [.int t3, .int (-1600), .int 1600]) (rest := [.ref 65]) (r1 := some (.int t3)) (m1 := mz_up (mz_up (mz_up (mz_up (mz_z m) 65 6 t1) 65 7 t2) 65 6 (t1 - (((t1 * 10) / 100) / 1))) 65 7 (t2 - (((t2 * 10) / 100) / 1))) rfl ⟨?_, rfl⟩ ?_
                · refine mz_go 3 (c' := (if (-1600) ≤ t3 then 9 else 5, [some (.int t3), some (.int (-1600)), some (.int 1600)], [], mz_up (mz_up (mz_up (mz_up (mz_z m) 65 6 t1) 65 7 t2) 65 6 (t1 - (((t1 * 10) / 100) / 1))) 65 7 (t2 - (((t2 * 10) / 100) / 1)))) rfl ?_
                  refine mz_ifT h1 ?_
                  refine mz_go 3 (c' := (if t3 ≤ 1600 then 18 else 14, [some (.int t3), some (.int (-1600)), some (.int 1600)], [], mz_up (mz_up (mz_up (mz_up (mz_z m) 65 6 t1) 65 7 t2) 65 6 (t1 - (((t1 * 10) / 100) / 1))) 65 7 (t2 - (((t2 * 10) / 100) / 1)))) rfl ?_
                  refine mz_ifT h2 ?_
                  refine mz_go 1 (c' := (19, [some (.int t3), some (.int (-1600)), some (.int 1600)], [.int t3], mz_up (mz_up (mz_up (mz_up (mz_z m) 65 6 t1) 65 7 t2) 65 6 (t1 - (((t1 * 10) / 100) / 1))) 65 7 (t2 - (((t2 * 10) / 100) / 1)))) rfl ?_
                  exact mz_ret rfl
                refine mz_go 5 (c' := (243, [some (.ref 65), some (.int 1), some (.int 10), some (.int t3), some (.int t4)], [.int 1600, .int (-1600), .int t4, .ref 65], mz_up (mz_up (mz_up (mz_up (mz_up (mz_z m) 65 6 t1) 65 7 t2) 65 6 (t1 - (((t1 * 10) / 100) / 1))) 65 7 (t2 - (((t2 * 10) / 100) / 1))) 65 4 t3)) rfl ?_
                refine mz_do (R := mz_r130) (as := [.int t4, .int (-1600), .int 1600]) (rest := [.ref 65]) (r1 := some (.int 1600)) (m1 := mz_up (mz_up (mz_up (mz_up (mz_up (mz_z m) 65 6 t1) 65 7 t2) 65 6 (t1 - (((t1 * 10) / 100) / 1))) 65 7 (t2 - (((t2 * 10) / 100) / 1))) 65 4 t3) rfl ⟨?_, rfl⟩ ?_
                · refine mz_go 3 (c' := (if (-1600) ≤ t4 then 9 else 5, [some (.int t4), some (.int (-1600)), some (.int 1600)], [], mz_up (mz_up (mz_up (mz_up (mz_up (mz_z m) 65 6 t1) 65 7 t2) 65 6 (t1 - (((t1 * 10) / 100) / 1))) 65 7 (t2 - (((t2 * 10) / 100) / 1))) 65 4 t3)) rfl ?_
                  refine mz_ifT h3 ?_
                  refine mz_go 3 (c' := (if t4 ≤ 1600 then 18 else 14, [some (.int t4), some (.int (-1600)), some (.int 1600)], [], mz_up (mz_up (mz_up (mz_up (mz_up (mz_z m) 65 6 t1) 65 7 t2) 65 6 (t1 - (((t1 * 10) / 100) / 1))) 65 7 (t2 - (((t2 * 10) / 100) / 1))) 65 4 t3)) rfl ?_
                  refine mz_ifF h4 ?_
                  refine mz_go 2 (c' := (19, [some (.int t4), some (.int (-1600)), some (.int 1600)], [.int 1600], mz_up (mz_up (mz_up (mz_up (mz_up (mz_z m) 65 6 t1) 65 7 t2) 65 6 (t1 - (((t1 * 10) / 100) / 1))) 65 7 (t2 - (((t2 * 10) / 100) / 1))) 65 4 t3)) rfl ?_
                  exact mz_ret rfl
                refine mz_go 6 (c' := (if t3 = t3 then 258 else 265, [some (.ref 65), some (.int 1), some (.int 10), some (.int t3), some (.int t4)], [.ref 65], mz_up (mz_up (mz_up (mz_up (mz_up (mz_up (mz_z m) 65 6 t1) 65 7 t2) 65 6 (t1 - (((t1 * 10) / 100) / 1))) 65 7 (t2 - (((t2 * 10) / 100) / 1))) 65 4 t3) 65 5 1600)) rfl ?_
                refine mz_ifF h8 ?_
                refine mz_go 7 (c' := (if 1600 = t4 then 279 else 286, [some (.ref 65), some (.int 1), some (.int 10), some (.int t3), some (.int t4)], [.ref 65], mz_up (mz_up (mz_up (mz_up (mz_up (mz_up (mz_up (mz_z m) 65 6 t1) 65 7 t2) 65 6 (t1 - (((t1 * 10) / 100) / 1))) 65 7 (t2 - (((t2 * 10) / 100) / 1))) 65 4 t3) 65 5 1600) 65 6 0)) rfl ?_
                refine mz_ifT h10 ?_
                refine mz_go 10 (c' := (300, [some (.ref 65), some (.int 1), some (.int 10), some (.int t3), some (.int t4)], [], mz_up (mz_up (mz_up (mz_up (mz_up (mz_up (mz_up (mz_up (mz_up (mz_z m) 65 6 t1) 65 7 t2) 65 6 (t1 - (((t1 * 10) / 100) / 1))) 65 7 (t2 - (((t2 * 10) / 100) / 1))) 65 4 t3) 65 5 1600) 65 6 0) 65 7 (t2 - (((t2 * 10) / 100) / 1))) 65 8 (((mz_z m) 65 8) + 1))) rfl ?_
                exact mz_ret rfl
            · refine ⟨mz_up (mz_up (mz_up (mz_up (mz_up (mz_up (mz_up (mz_up (mz_up (mz_z m) 65 6 t1) 65 7 t2) 65 6 (t1 - (((t1 * 10) / 100) / 1))) 65 7 (t2 - (((t2 * 10) / 100) / 1))) 65 4 t3) 65 5 1600) 65 6 0) 65 7 0) 65 8 (((mz_z m) 65 8) + 1), fun i hi => by simp only [mz_up_ne hi], rfl, ⟨?_, rfl⟩⟩
              · refine mz_go 24 (c' := (123, [some (.ref 65), some (.int 1), some (.int 0), none, none], [], mz_up (mz_z m) 65 6 t1)) rfl ?_
                refine mz_go 17 (c' := (151, [some (.ref 65), some (.int 1), some (.int 0), none, none], [.ref 65], mz_up (mz_up (mz_z m) 65 6 t1) 65 7 t2)) rfl ?_
                refine mz_do (R := mz_r151) (as := [.ref 65]) (rest := []) (r1 := some (.int 10)) (m1 := mz_up (mz_up (mz_z m) 65 6 t1) 65 7 t2) rfl ⟨?_, rfl⟩ ?_
                · refine mz_go 2 (c' := (2, [some (.ref 65), none], [.int 1, .ref 65], mz_up (mz_up (mz_z m) 65 6 t1) 65 7 t2)) rfl ?_
                  refine mz_do (R := mz_r169) (as := [.ref 65, .int 1]) (rest := []) (r1 := some (.int 0)) (m1 := mz_up (mz_up (mz_z m) 65 6 t1) 65 7 t2) rfl ⟨?_, rfl⟩ ?_
                  · refine mz_go 10 (c' := (21, [some (.ref 65), some (.int 1)], [.int 0], mz_up (mz_up (mz_z m) 65 6 t1) 65 7 t2)) rfl ?_
                    exact mz_ret rfl
                  refine mz_go 5 (c' := (15, [some (.ref 65), none], [.int 10], mz_up (mz_up (mz_z m) 65 6 t1) 65 7 t2)) rfl ?_
                  exact mz_ret rfl
                refine mz_go 24 (c' := (190, [some (.ref 65), some (.int 1), some (.int 10), none, none], [.int 1, .int ((t2 * 10) / 100), .int t2, .ref 65], mz_up (mz_up (mz_up (mz_z m) 65 6 t1) 65 7 t2) 65 6 (t1 - (((t1 * 10) / 100) / 1)))) rfl ?_
                refine mz_go 23 (c' := (228, [some (.ref 65), some (.int 1), some (.int 10), some (.int t3), some (.int t4)], [.int 1600, .int (-1600), .int t3, .ref 65], mz_up (mz_up (mz_up (mz_up (mz_z m) 65 6 t1) 65 7 t2) 65 6 (t1 - (((t1 * 10) / 100) / 1))) 65 7 (t2 - (((t2 * 10) / 100) / 1)))) rfl ?_
                refine mz_do (R := mz_r130) (as := [.int t3, .int (-1600), .int 1600]) (rest := [.ref 65]) (r1 := some (.int t3)) (m1 := mz_up (mz_up (mz_up (mz_up (mz_z m) 65 6 t1) 65 7 t2) 65 6 (t1 - (((t1 * 10) / 100) / 1))) 65 7 (t2 - (((t2 * 10) / 100) / 1))) rfl ⟨?_, rfl⟩ ?_
                · refine mz_go 3 (c' := (if (-1600) ≤ t3 then 9 else 5, [some (.int t3), some (.int (-1600)), some (.int 1600)], [], mz_up (mz_up (mz_up (mz_up (mz_z m) 65 6 t1) 65 7 t2) 65 6 (t1 - (((t1 * 10) / 100) / 1))) 65 7 (t2 - (((t2 * 10) / 100) / 1)))) rfl ?_
                  refine mz_ifT h1 ?_
                  refine mz_go 3 (c' := (if t3 ≤ 1600 then 18 else 14, [some (.int t3), some (.int (-1600)), some (.int 1600)], [], mz_up (mz_up (mz_up (mz_up (mz_z m) 65 6 t1) 65 7 t2) 65 6 (t1 - (((t1 * 10) / 100) / 1))) 65 7 (t2 - (((t2 * 10) / 100) / 1)))) rfl ?_
                  refine mz_ifT h2 ?_
                  refine mz_go 1 (c' := (19, [some (.int t3), some (.int (-1600)), some (.int 1600)], [.int t3], mz_up (mz_up (mz_up (mz_up (mz_z m) 65 6 t1) 65 7 t2) 65 6 (t1 - (((t1 * 10) / 100) / 1))) 65 7 (t2 - (((t2 * 10) / 100) / 1)))) rfl ?_
                  exact mz_ret rfl
                refine mz_go 5 (c' := (243, [some (.ref 65), some (.int 1), some (.int 10), some (.int t3), some (.int t4)], [.int 1600, .int (-1600), .int t4, .ref 65], mz_up (mz_up (mz_up (mz_up (mz_up (mz_z m) 65 6 t1) 65 7 t2) 65 6 (t1 - (((t1 * 10) / 100) / 1))) 65 7 (t2 - (((t2 * 10) / 100) / 1))) 65 4 t3)) rfl ?_
                refine mz_do (R := mz_r130) (as := [.int t4, .int (-1600), .int 1600]) (rest := [.ref 65]) (r1 := some (.int 1600)) (m1 := mz_up (mz_up (mz_up (mz_up (mz_up (mz_z m) 65 6 t1) 65 7 t2) 65 6 (t1 - (((t1 * 10) / 100) / 1))) 65 7 (t2 - (((t2 * 10) / 100) / 1))) 65 4 t3) rfl ⟨?_, rfl⟩ ?_
                · refine mz_go 3 (c' := (if (-1600) ≤ t4 then 9 else 5, [some (.int t4), some (.int (-1600)), some (.int 1600)], [], mz_up (mz_up (mz_up (mz_up (mz_up (mz_z m) 65 6 t1) 65 7 t2) 65 6 (t1 - (((t1 * 10) / 100) / 1))) 65 7 (t2 - (((t2 * 10) / 100) / 1))) 65 4 t3)) rfl ?_
                  refine mz_ifT h3 ?_
                  refine mz_go 3 (c' := (if t4 ≤ 1600 then 18 else 14, [some (.int t4), some (.int (-1600)), some (.int 1600)], [], mz_up (mz_up (mz_up (mz_up (mz_up (mz_z m) 65 6 t1) 65 7 t2) 65 6 (t1 - (((t1 * 10) / 100) / 1))) 65 7 (t2 - (((t2 * 10) / 100) / 1))) 65 4 t3)) rfl ?_
                  refine mz_ifF h4 ?_
                  refine mz_go 2 (c' := (19, [some (.int t4), some (.int (-1600)), some (.int 1600)], [.int 1600], mz_up (mz_up (mz_up (mz_up (mz_up (mz_z m) 65 6 t1) 65 7 t2) 65 6 (t1 - (((t1 * 10) / 100) / 1))) 65 7 (t2 - (((t2 * 10) / 100) / 1))) 65 4 t3)) rfl ?_
                  exact mz_ret rfl
                refine mz_go 6 (c' := (if t3 = t3 then 258 else 265, [some (.ref 65), some (.int 1), some (.int 10), some (.int t3), some (.int t4)], [.ref 65], mz_up (mz_up (mz_up (mz_up (mz_up (mz_up (mz_z m) 65 6 t1) 65 7 t2) 65 6 (t1 - (((t1 * 10) / 100) / 1))) 65 7 (t2 - (((t2 * 10) / 100) / 1))) 65 4 t3) 65 5 1600)) rfl ?_
                refine mz_ifF h8 ?_
                refine mz_go 7 (c' := (if 1600 = t4 then 279 else 286, [some (.ref 65), some (.int 1), some (.int 10), some (.int t3), some (.int t4)], [.ref 65], mz_up (mz_up (mz_up (mz_up (mz_up (mz_up (mz_up (mz_z m) 65 6 t1) 65 7 t2) 65 6 (t1 - (((t1 * 10) / 100) / 1))) 65 7 (t2 - (((t2 * 10) / 100) / 1))) 65 4 t3) 65 5 1600) 65 6 0)) rfl ?_
                refine mz_ifF h10 ?_
                refine mz_go 8 (c' := (300, [some (.ref 65), some (.int 1), some (.int 10), some (.int t3), some (.int t4)], [], mz_up (mz_up (mz_up (mz_up (mz_up (mz_up (mz_up (mz_up (mz_up (mz_z m) 65 6 t1) 65 7 t2) 65 6 (t1 - (((t1 * 10) / 100) / 1))) 65 7 (t2 - (((t2 * 10) / 100) / 1))) 65 4 t3) 65 5 1600) 65 6 0) 65 7 0) 65 8 (((mz_z m) 65 8) + 1))) rfl ?_
                exact mz_ret rfl
      · by_cases h11 : t3 = t3
        · by_cases h12 : (-1600) = t4
          · refine ⟨mz_up (mz_up (mz_up (mz_up (mz_up (mz_up (mz_up (mz_up (mz_up (mz_z m) 65 6 t1) 65 7 t2) 65 6 (t1 - (((t1 * 10) / 100) / 1))) 65 7 (t2 - (((t2 * 10) / 100) / 1))) 65 4 t3) 65 5 (-1600)) 65 6 (t1 - (((t1 * 10) / 100) / 1))) 65 7 (t2 - (((t2 * 10) / 100) / 1))) 65 8 (((mz_z m) 65 8) + 1), fun i hi => by simp only [mz_up_ne hi], rfl, ⟨?_, rfl⟩⟩
            · refine mz_go 24 (c' := (123, [some (.ref 65), some (.int 1), some (.int 0), none, none], [], mz_up (mz_z m) 65 6 t1)) rfl ?_
              refine mz_go 17 (c' := (151, [some (.ref 65), some (.int 1), some (.int 0), none, none], [.ref 65], mz_up (mz_up (mz_z m) 65 6 t1) 65 7 t2)) rfl ?_
              refine mz_do (R := mz_r151) (as := [.ref 65]) (rest := []) (r1 := some (.int 10)) (m1 := mz_up (mz_up (mz_z m) 65 6 t1) 65 7 t2) rfl ⟨?_, rfl⟩ ?_
              · refine mz_go 2 (c' := (2, [some (.ref 65), none], [.int 1, .ref 65], mz_up (mz_up (mz_z m) 65 6 t1) 65 7 t2)) rfl ?_
                refine mz_do (R := mz_r169) (as := [.ref 65, .int 1]) (rest := []) (r1 := some (.int 0)) (m1 := mz_up (mz_up (mz_z m) 65 6 t1) 65 7 t2) rfl ⟨?_, rfl⟩ ?_
                · refine mz_go 10 (c' := (21, [some (.ref 65), some (.int 1)], [.int 0], mz_up (mz_up (mz_z m) 65 6 t1) 65 7 t2)) rfl ?_
                  exact mz_ret rfl
                refine mz_go 5 (c' := (15, [some (.ref 65), none], [.int 10], mz_up (mz_up (mz_z m) 65 6 t1) 65 7 t2)) rfl ?_
                exact mz_ret rfl
              refine mz_go 24 (c' := (190, [some (.ref 65), some (.int 1), some (.int 10), none, none], [.int 1, .int ((t2 * 10) / 100), .int t2, .ref 65], mz_up (mz_up (mz_up (mz_z m) 65 6 t1) 65 7 t2) 65 6 (t1 - (((t1 * 10) / 100) / 1)))) rfl ?_
              refine mz_go 23 (c' := (228, [some (.ref 65), some (.int 1), some (.int 10), some (.int t3), some (.int t4)], [.int 1600, .int (-1600), .int t3, .ref 65], mz_up (mz_up (mz_up (mz_up (mz_z m) 65 6 t1) 65 7 t2) 65 6 (t1 - (((t1 * 10) / 100) / 1))) 65 7 (t2 - (((t2 * 10) / 100) / 1)))) rfl ?_
              refine mz_do (R := mz_r130) (as := [.int t3, .int (-1600), .int 1600]) (rest := [.ref 65]) (r1 := some (.int t3)) (m1 := mz_up (mz_up (mz_up (mz_up (mz_z m) 65 6 t1) 65 7 t2) 65 6 (t1 - (((t1 * 10) / 100) / 1))) 65 7 (t2 - (((t2 * 10) / 100) / 1))) rfl ⟨?_, rfl⟩ ?_
              · refine mz_go 3 (c' := (if (-1600) ≤ t3 then 9 else 5, [some (.int t3), some (.int (-1600)), some (.int 1600)], [], mz_up (mz_up (mz_up (mz_up (mz_z m) 65 6 t1) 65 7 t2) 65 6 (t1 - (((t1 * 10) / 100) / 1))) 65 7 (t2 - (((t2 * 10) / 100) / 1)))) rfl ?_
                refine mz_ifT h1 ?_
                refine mz_go 3 (c' := (if t3 ≤ 1600 then 18 else 14, [some (.int t3), some (.int (-1600)), some (.int 1600)], [], mz_up (mz_up (mz_up (mz_up (mz_z m) 65 6 t1) 65 7 t2) 65 6 (t1 - (((t1 * 10) / 100) / 1))) 65 7 (t2 - (((t2 * 10) / 100) / 1)))) rfl ?_
                refine mz_ifT h2 ?_
                refine mz_go 1 (c' := (19, [some (.int t3), some (.int (-1600)), some (.int 1600)], [.int t3], mz_up (mz_up (mz_up (mz_up (mz_z m) 65 6 t1) 65 7 t2) 65 6 (t1 - (((t1 * 10) / 100) / 1))) 65 7 (t2 - (((t2 * 10) / 100) / 1)))) rfl ?_
                exact mz_ret rfl
              refine mz_go 5 (c' := (243, [some (.ref 65), some (.int 1), some (.int 10), some (.int t3), some (.int t4)], [.int 1600, .int (-1600), .int t4, .ref 65], mz_up (mz_up (mz_up (mz_up (mz_up (mz_z m) 65 6 t1) 65 7 t2) 65 6 (t1 - (((t1 * 10) / 100) / 1))) 65 7 (t2 - (((t2 * 10) / 100) / 1))) 65 4 t3)) rfl ?_
              refine mz_do (R := mz_r130) (as := [.int t4, .int (-1600), .int 1600]) (rest := [.ref 65]) (r1 := some (.int (-1600))) (m1 := mz_up (mz_up (mz_up (mz_up (mz_up (mz_z m) 65 6 t1) 65 7 t2) 65 6 (t1 - (((t1 * 10) / 100) / 1))) 65 7 (t2 - (((t2 * 10) / 100) / 1))) 65 4 t3) rfl ⟨?_, rfl⟩ ?_
              · refine mz_go 3 (c' := (if (-1600) ≤ t4 then 9 else 5, [some (.int t4), some (.int (-1600)), some (.int 1600)], [], mz_up (mz_up (mz_up (mz_up (mz_up (mz_z m) 65 6 t1) 65 7 t2) 65 6 (t1 - (((t1 * 10) / 100) / 1))) 65 7 (t2 - (((t2 * 10) / 100) / 1))) 65 4 t3)) rfl ?_
                refine mz_ifF h3 ?_
                refine mz_go 2 (c' := (19, [some (.int t4), some (.int (-1600)), some (.int 1600)], [.int (-1600)], mz_up (mz_up (mz_up (mz_up (mz_up (mz_z m) 65 6 t1) 65 7 t2) 65 6 (t1 - (((t1 * 10) / 100) / 1))) 65 7 (t2 - (((t2 * 10) / 100) / 1))) 65 4 t3)) rfl ?_
                exact mz_ret rfl
              refine mz_go 6 (c' := (if t3 = t3 then 258 else 265, [some (.ref 65), some (.int 1), some (.int 10), some (.int t3), some (.int t4)], [.ref 65], mz_up (mz_up (mz_up (mz_up (mz_up (mz_up (mz_z m) 65 6 t1) 65 7 t2) 65 6 (t1 - (((t1 * 10) / 100) / 1))) 65 7 (t2 - (((t2 * 10) / 100) / 1))) 65 4 t3) 65 5 (-1600))) rfl ?_
              refine mz_ifT h11 ?_
              refine mz_go 9 (c' := (if (-1600) = t4 then 279 else 286, [some (.ref 65), some (.int 1), some (.int 10), some (.int t3), some (.int t4)], [.ref 65], mz_up (mz_up (mz_up (mz_up (mz_up (mz_up (mz_up (mz_z m) 65 6 t1) 65 7 t2) 65 6 (t1 - (((t1 * 10) / 100) / 1))) 65 7 (t2 - (((t2 * 10) / 100) / 1))) 65 4 t3) 65 5 (-1600)) 65 6 (t1 - (((t1 * 10) / 100) / 1)))) rfl ?_
              refine mz_ifT h12 ?_
              refine mz_go 10 (c' := (300, [some (.ref 65), some (.int 1), some (.int 10), some (.int t3), some (.int t4)], [], mz_up (mz_up (mz_up (mz_up (mz_up (mz_up (mz_up (mz_up (mz_up (mz_z m) 65 6 t1) 65 7 t2) 65 6 (t1 - (((t1 * 10) / 100) / 1))) 65 7 (t2 - (((t2 * 10) / 100) / 1))) 65 4 t3) 65 5 (-1600)) 65 6 (t1 - (((t1 * 10) / 100) / 1))) 65 7 (t2 - (((t2 * 10) / 100) / 1))) 65 8 (((mz_z m) 65 8) + 1))) rfl ?_
              exact mz_ret rfl
          · refine ⟨mz_up (mz_up (mz_up (mz_up (mz_up (mz_up (mz_up (mz_up (mz_up (mz_z m) 65 6 t1) 65 7 t2) 65 6 (t1 - (((t1 * 10) / 100) / 1))) 65 7 (t2 - (((t2 * 10) / 100) / 1))) 65 4 t3) 65 5 (-1600)) 65 6 (t1 - (((t1 * 10) / 100) / 1))) 65 7 0) 65 8 (((mz_z m) 65 8) + 1), fun i hi => by simp only [mz_up_ne hi], rfl, ⟨?_, rfl⟩⟩
            · refine mz_go 24 (c' := (123, [some (.ref 65), some (.int 1), some (.int 0), none, none], [], mz_up (mz_z m) 65 6 t1)) rfl ?_
              refine mz_go 17 (c' := (151, [some (.ref 65), some (.int 1), some (.int 0), none, none], [.ref 65], mz_up (mz_up (mz_z m) 65 6 t1) 65 7 t2)) rfl ?_
              refine mz_do (R := mz_r151) (as := [.ref 65]) (rest := []) (r1 := some (.int 10)) (m1 := mz_up (mz_up (mz_z m) 65 6 t1) 65 7 t2) rfl ⟨?_, rfl⟩ ?_
              · refine mz_go 2 (c' := (2, [some (.ref 65), none], [.int 1, .ref 65], mz_up (mz_up (mz_z m) 65 6 t1) 65 7 t2)) rfl ?_
                refine mz_do (R := mz_r169) (as := [.ref 65, .int 1]) (rest := []) (r1 := some (.int 0)) (m1 := mz_up (mz_up (mz_z m) 65 6 t1) 65 7 t2) rfl ⟨?_, rfl⟩ ?_
                · refine mz_go 10 (c' := (21, [some (.ref 65), some (.int 1)], [.int 0], mz_up (mz_up (mz_z m) 65 6 t1) 65 7 t2)) rfl ?_
                  exact mz_ret rfl
                refine mz_go 5 (c' := (15, [some (.ref 65), none], [.int 10], mz_up (mz_up (mz_z m) 65 6 t1) 65 7 t2)) rfl ?_
                exact mz_ret rfl
              refine mz_go 24 (c' := (190, [some (.ref 65), some (.int 1), some (.int 10), none, none], [.int 1, .int ((t2 * 10) / 100), .int t2, .ref 65], mz_up (mz_up (mz_up (mz_z m) 65 6 t1) 65 7 t2) 65 6 (t1 - (((t1 * 10) / 100) / 1)))) rfl ?_
              refine mz_go 23 (c' := (228, [some (.ref 65), some (.int 1), some (.int 10), some (.int t3), some (.int t4)], [.int 1600, .int (-1600), .int t3, .ref 65], mz_up (mz_up (mz_up (mz_up (mz_z m) 65 6 t1) 65 7 t2) 65 6 (t1 - (((t1 * 10) / 100) / 1))) 65 7 (t2 - (((t2 * 10) / 100) / 1)))) rfl ?_
              refine mz_do (R := mz_r130) (as := [.int t3, .int (-1600), .int 1600]) (rest := [.ref 65]) (r1 := some (.int t3)) (m1 := mz_up (mz_up (mz_up (mz_up (mz_z m) 65 6 t1) 65 7 t2) 65 6 (t1 - (((t1 * 10) / 100) / 1))) 65 7 (t2 - (((t2 * 10) / 100) / 1))) rfl ⟨?_, rfl⟩ ?_
              · refine mz_go 3 (c' := (if (-1600) ≤ t3 then 9 else 5, [some (.int t3), some (.int (-1600)), some (.int 1600)], [], mz_up (mz_up (mz_up (mz_up (mz_z m) 65 6 t1) 65 7 t2) 65 6 (t1 - (((t1 * 10) / 100) / 1))) 65 7 (t2 - (((t2 * 10) / 100) / 1)))) rfl ?_
                refine mz_ifT h1 ?_
                refine mz_go 3 (c' := (if t3 ≤ 1600 then 18 else 14, [some (.int t3), some (.int (-1600)), some (.int 1600)], [], mz_up (mz_up (mz_up (mz_up (mz_z m) 65 6 t1) 65 7 t2) 65 6 (t1 - (((t1 * 10) / 100) / 1))) 65 7 (t2 - (((t2 * 10) / 100) / 1)))) rfl ?_
                refine mz_ifT h2 ?_
                refine mz_go 1 (c' := (19, [some (.int t3), some (.int (-1600)), some (.int 1600)], [.int t3], mz_up (mz_up (mz_up (mz_up (mz_z m) 65 6 t1) 65 7 t2) 65 6 (t1 - (((t1 * 10) / 100) / 1))) 65 7 (t2 - (((t2 * 10) / 100) / 1)))) rfl ?_
                exact mz_ret rfl
              refine mz_go 5 (c' := (243, [some (.ref 65), some (.int 1), some (.int 10), some (.int t3), some (.int t4)], [.int 1600, .int (-1600), .int t4, .ref 65], mz_up (mz_up (mz_up (mz_up (mz_up (mz_z m) 65 6 t1) 65 7 t2) 65 6 (t1 - (((t1 * 10) / 100) / 1))) 65 7 (t2 - (((t2 * 10) / 100) / 1))) 65 4 t3)) rfl ?_
              refine mz_do (R := mz_r130) (as := [.int t4, .int (-1600), .int 1600]) (rest := [.ref 65]) (r1 := some (.int (-1600))) (m1 := mz_up (mz_up (mz_up (mz_up (mz_up (mz_z m) 65 6 t1) 65 7 t2) 65 6 (t1 - (((t1 * 10) / 100) / 1))) 65 7 (t2 - (((t2 * 10) / 100) / 1))) 65 4 t3) rfl ⟨?_, rfl⟩ ?_
              · refine mz_go 3 (c' := (if (-1600) ≤ t4 then 9 else 5, [some (.int t4), some (.int (-1600)), some (.int 1600)], [], mz_up (mz_up (mz_up (mz_up (mz_up (mz_z m) 65 6 t1) 65 7 t2) 65 6 (t1 - (((t1 * 10) / 100) / 1))) 65 7 (t2 - (((t2 * 10) / 100) / 1))) 65 4 t3)) rfl ?_
                refine mz_ifF h3 ?_
                refine mz_go 2 (c' := (19, [some (.int t4), some (.int (-1600)), some (.int 1600)], [.int (-1600)], mz_up (mz_up (mz_up (mz_up (mz_up (mz_z m) 65 6 t1) 65 7 t2) 65 6 (t1 - (((t1 * 10) / 100) / 1))) 65 7 (t2 - (((t2 * 10) / 100) / 1))) 65 4 t3)) rfl ?_
                exact mz_ret rfl
              refine mz_go 6 (c' := (if t3 = t3 then 258 else 265, [some (.ref 65), some (.int 1), some (.int 10), some (.int t3), some (.int t4)], [.ref 65], mz_up (mz_up (mz_up (mz_up (mz_up (mz_up (mz_z m) 65 6 t1) 65 7 t2) 65 6 (t1 - (((t1 * 10) / 100) / 1))) 65 7 (t2 - (((t2 * 10) / 100) / 1))) 65 4 t3) 65 5 (-1600))) rfl ?_
              refine mz_ifT h11 ?_
              refine mz_go 9 (c' := (if (-1600) = t4 then 279 else 286, [some (.ref 65), some (.int 1), some (.int 10), some (.int t3), some (.int t4)], [.ref 65], mz_up (mz_up (mz_up (mz_up (mz_up (mz_up (mz_up (mz_z m) 65 6 t1) 65 7 t2) 65 6 (t1 - (((t1 * 10) / 100) / 1))) 65 7 (t2 - (((t2 * 10) / 100) / 1))) 65 4 t3) 65 5 (-1600)) 65 6 (t1 - (((t1 * 10) / 100) / 1)))) rfl ?_
              refine mz_ifF h12 ?_
              refine mz_go 8 (c' := (300, [some (.ref 65), some (.int 1), some (.int 10), some (.int t3), some (.int t4)], [], mz_up (mz_up (mz_up (mz_up (mz_up (mz_up (mz_up (mz_up (mz_up (mz_z m) 65 6 t1) 65 7 t2) 65 6 (t1 - (((t1 * 10) / 100) / 1))) 65 7 (t2 - (((t2 * 10) / 100) / 1))) 65 4 t3) 65 5 (-1600)) 65 6 (t1 - (((t1 * 10) / 100) / 1))) 65 7 0) 65 8 (((mz_z m) 65 8) + 1))) rfl ?_
              exact mz_ret rfl
        · by_cases h13 : (-1600) = t4
          · refine ⟨mz_up (mz_up (mz_up (mz_up (mz_up (mz_up (mz_up (mz_up (mz_up (mz_z m) 65 6 t1) 65 7 t2) 65 6 (t1 - (((t1 * 10) / 100) / 1))) 65 7 (t2 - (((t2 * 10) / 100) / 1))) 65 4 t3) 65 5 (-1600)) 65 6 0) 65 7 (t2 - (((t2 * 10) / 100) / 1))) 65 8 (((mz_z m) 65 8) + 1), fun i hi => by simp only [mz_up_ne hi], rfl, ⟨?_, rfl⟩⟩
            · refine mz_go 24 (c' := (123, [some (.ref 65), some (.int 1), some (.int 0), none, none], [], mz_up (mz_z m) 65 6 t1)) rfl ?_
              refine mz_go 17 (c' := (151, [some (.ref 65), some (.int 1), some (.int 0), none, none], [.ref 65], mz_up (mz_up (mz_z m) 65 6 t1) 65 7 t2)) rfl ?_
              refine mz_do (R := mz_r151) (as := [.ref 65]) (rest := []) (r1 := some (.int 10)) (m1 := mz_up (mz_up (mz_z m) 65 6 t1) 65 7 t2) rfl ⟨?_, rfl⟩ ?_
              · refine mz_go 2 (c' := (2, [some (.ref 65), none], [.int 1, .ref 65], mz_up (mz_up (mz_z m) 65 6 t1) 65 7 t2)) rfl ?_
                refine mz_do (R := mz_r169) (as := [.ref 65, .int 1]) (rest := []) (r1 := some (.int 0)) (m1 := mz_up (mz_up (mz_z m) 65 6 t1) 65 7 t2) rfl ⟨?_, rfl⟩ ?_
                · refine mz_go 10 (c' := (21, [some (.ref 65), some (.int 1)], [.int 0], mz_up (mz_up (mz_z m) 65 6 t1) 65 7 t2)) rfl ?_
                  exact mz_ret rfl
                refine mz_go 5 (c' := (15, [some (.ref 65), none], [.int 10], mz_up (mz_up (mz_z m) 65 6 t1) 65 7 t2)) rfl ?_
                exact mz_ret rfl
              refine mz_go 24 (c' := (190, [some (.ref 65), some (.int 1), some (.int 10), none, none], [.int 1, .int ((t2 * 10) / 100), .int t2, .ref 65], mz_up (mz_up (mz_up (mz_z m) 65 6 t1) 65 7 t2) 65 6 (t1 - (((t1 * 10) / 100) / 1)))) rfl ?_
              refine mz_go 23 (c' := (228, [some (.ref 65), some (.int 1), some (.int 10), some (.int t3), some (.int t4)], [.int 1600, .int (-1600), .int t3, .ref 65], mz_up (mz_up (mz_up (mz_up (mz_z m) 65 6 t1) 65 7 t2) 65 6 (t1 - (((t1 * 10) / 100) / 1))) 65 7 (t2 - (((t2 * 10) / 100) / 1)))) rfl ?_
              refine mz_do (R := mz_r130) (as := [.int t3, .int (-1600), .int 1600]) (rest := [.ref 65]) (r1 := some (.int t3)) (m1 := mz_up (mz_up (mz_up (mz_up (mz_z m) 65 6 t1) 65 7 t2) 65 6 (t1 - (((t1 * 10) / 100) / 1))) 65 7 (t2 - (((t2 * 10) / 100) / 1))) rfl ⟨?_, rfl⟩ ?_
              · refine mz_go 3 (c' := (if (-1600) ≤ t3 then 9 else 5, [some (.int t3), some (.int (-1600)), some (.int 1600)], [], mz_up (mz_up (mz_up (mz_up (mz_z m) 65 6 t1) 65 7 t2) 65 6 (t1 - (((t1 * 10) / 100) / 1))) 65 7 (t2 - (((t2 * 10) / 100) / 1)))) rfl ?_
                refine mz_ifT h1 ?_
                refine mz_go 3 (c' := (if t3 ≤ 1600 then 18 else 14, [some (.int t3), some (.int (-1600)), some (.int 1600)], [], mz_up (mz_up (mz_up (mz_up (mz_z m) 65 6 t1) 65 7 t2) 65 6 (t1 - (((t1 * 10) / 100) / 1))) 65 7 (t2 - (((t2 * 10) / 100) / 1)))) rfl ?_
                refine mz_ifT h2 ?_
                refine mz_go 1 (c' := (19, [some (.int t3), some (.int (-1600)), some (.int 1600)], [.int t3], mz_up (mz_up (mz_up (mz_up (mz_z m) 65 6 t1) 65 7 t2) 65 6 (t1 - (((t1 * 10) / 100) / 1))) 65 7 (t2 - (((t2 * 10) / 100) / 1)))) rfl ?_
                exact mz_ret rfl
              refine mz_go 5 (c' := (243, [some (.ref 65), some (.int 1), some (.int 10), some (.int t3), some (.int t4)], [.int 1600, .int (-1600), .int t4, .ref 65], mz_up (mz_up (mz_up (mz_up (mz_up (mz_z m) 65 6 t1) 65 7 t2) 65 6 (t1 - (((t1 * 10) / 100) / 1))) 65 7 (t2 - (((t2 * 10) / 100) / 1))) 65 4 t3)) rfl ?_
              refine mz_do (R := mz_r130) (as := [.int t4, .int (-1600), .int 1600]) (rest := [.ref 65]) (r1 := some (.int (-1600))) (m1 := mz_up (mz_up (mz_up (mz_up (mz_up (mz_z m) 65 6 t1) 65 7 t2) 65 6 (t1 - (((t1 * 10) / 100) / 1))) 65 7 (t2 - (((t2 * 10) / 100) / 1))) 65 4 t3) rfl ⟨?_, rfl⟩ ?_
              · refine mz_go 3 (c' := (if (-1600) ≤ t4 then 9 else 5, [some (.int t4), some (.int (-1600)), some (.int 1600)], [], mz_up (mz_up (mz_up (mz_up (mz_up (mz_z m) 65 6 t1) 65 7 t2) 65 6 (t1 - (((t1 * 10) / 100) / 1))) 65 7 (t2 - (((t2 * 10) / 100) / 1))) 65 4 t3)) rfl ?_
                refine mz_ifF h3 ?_
                refine mz_go 2 (c' := (19, [some (.int t4), some (.int (-1600)), some (.int 1600)], [.int (-1600)], mz_up (mz_up (mz_up (mz_up (mz_up (mz_z m) 65 6 t1) 65 7 t2) 65 6 (t1 - (((t1 * 10) / 100) / 1))) 65 7 (t2 - (((t2 * 10) / 100) / 1))) 65 4 t3)) rfl ?_
                exact mz_ret rfl
              refine mz_go 6 (c' := (if t3 = t3 then 258 else 265, [some (.ref 65), some (.int 1), some (.int 10), some (.int t3), some (.int t4)], [.ref 65], mz_up (mz_up (mz_up (mz_up (mz_up (mz_up (mz_z m) 65 6 t1) 65 7 t2) 65 6 (t1 - (((t1 * 10) / 100) / 1))) 65 7 (t2 - (((t2 * 10) / 100) / 1))) 65 4 t3) 65 5 (-1600))) rfl ?_
              refine mz_ifF h11 ?_
              refine mz_go 7 (c' := (if (-1600) = t4 then 279 else 286, [some (.ref 65), some (.int 1), some (.int 10), some (.int t3), some (.int t4)], [.ref 65], mz_up (mz_up (mz_up (mz_up (mz_up (mz_up (mz_up (mz_z m) 65 6 t1) 65 7 t2) 65 6 (t1 - (((t1 * 10) / 100) / 1))) 65 7 (t2 - (((t2 * 10) / 100) / 1))) 65 4 t3) 65 5 (-1600)) 65 6 0)) rfl ?_
              refine mz_ifT h13 ?_
              refine mz_go 10 (c' := (300, [some (.ref 65), some (.int 1), some (.int 10), some (.int t3), some (.int t4)], [], mz_up (mz_up (mz_up (mz_up (mz_up (mz_up (mz_up (mz_up (mz_up (mz_z m) 65 6 t1) 65 7 t2) 65 6 (t1 - (((t1 * 10) / 100) / 1))) 65 7 (t2 - (((t2 * 10) / 100) / 1))) 65 4 t3) 65 5 (-1600)) 65 6 0) 65 7 (t2 - (((t2 * 10) / 100) / 1))) 65 8 (((mz_z m) 65 8) + 1))) rfl ?_
              exact mz_ret rfl
          · refine ⟨mz_up (mz_up (mz_up (mz_up (mz_up (mz_up (mz_up (mz_up (mz_up (mz_z m) 65 6 t1) 65 7 t2) 65 6 (t1 - (((t1 * 10) / 100) / 1))) 65 7 (t2 - (((t2 * 10) / 100) / 1))) 65 4 t3) 65 5 (-1600)) 65 6 0) 65 7 0) 65 8 (((mz_z m) 65 8) + 1), fun i hi => by simp only [mz_up_ne hi], rfl, ⟨?_, rfl⟩⟩
            · refine mz_go 24 (c' := (123, [some (.ref 65), some (.int 1), some (.int 0), none, none], [], mz_up (mz_z m) 65 6 t1)) rfl ?_
              refine mz_go 17 (c' := (151, [some (.ref 65), some (.int 1), some (.int 0), none, none], [.ref 65], mz_up (mz_up (mz_z m) 65 6 t1) 65 7 t2)) rfl ?_
              refine mz_do (R := mz_r151) (as := [.ref 65]) (rest := []) (r1 := some (.int 10)) (m1 := mz_up (mz_up (mz_z m) 65 6 t1) 65 7 t2) rfl ⟨?_, rfl⟩ ?_
              · refine mz_go 2 (c' := (2, [some (.ref 65), none], [.int 1, .ref 65], mz_up (mz_up (mz_z m) 65 6 t1) 65 7 t2)) rfl ?_
                refine mz_do (R := mz_r169) (as := [.ref 65, .int 1]) (rest := []) (r1 := some (.int 0)) (m1 := mz_up (mz_up (mz_z m) 65 6 t1) 65 7 t2) rfl ⟨?_, rfl⟩ ?_
                · refine mz_go 10 (c' := (21, [some (.ref 65), some (.int 1)], [.int 0], mz_up (mz_up (mz_z m) 65 6 t1) 65 7 t2)) rfl ?_
                  exact mz_ret rfl
                refine mz_go 5 (c' := (15, [some (.ref 65), none], [.int 10], mz_up (mz_up (mz_z m) 65 6 t1) 65 7 t2)) rfl ?_
                exact mz_ret rfl
              refine mz_go 24 (c' := (190, [some (.ref 65), some (.int 1), some (.int 10), none, none], [.int 1, .int ((t2 * 10) / 100), .int t2, .ref 65], mz_up (mz_up (mz_up (mz_z m) 65 6 t1) 65 7 t2) 65 6 (t1 - (((t1 * 10) / 100) / 1)))) rfl ?_
              refine mz_go 23 (c' := (228, [some (.ref 65), some (.int 1), some (.int 10), some (.int t3), some (.int t4)], [.int 1600, .int (-1600), .int t3, .ref 65], mz_up (mz_up (mz_up (mz_up (mz_z m) 65 6 t1) 65 7 t2) 65 6 (t1 - (((t1 * 10) / 100) / 1))) 65 7 (t2 - (((t2 * 10) / 100) / 1)))) rfl ?_
              refine mz_do (R := mz_r130) (as := [.int t3, .int (-1600), .int 1600]) (rest := [.ref 65]) (r1 := some (.int t3)) (m1 := mz_up (mz_up (mz_up (mz_up (mz_z m) 65 6 t1) 65 7 t2) 65 6 (t1 - (((t1 * 10) / 100) / 1))) 65 7 (t2 - (((t2 * 10) / 100) / 1))) rfl ⟨?_, rfl⟩ ?_
              · refine mz_go 3 (c' := (if (-1600) ≤ t3 then 9 else 5, [some (.int t3), some (.int (-1600)), some (.int 1600)], [], mz_up (mz_up (mz_up (mz_up (mz_z m) 65 6 t1) 65 7 t2) 65 6 (t1 - (((t1 * 10) / 100) / 1))) 65 7 (t2 - (((t2 * 10) / 100) / 1)))) rfl ?_
                refine mz_ifT h1 ?_
                refine mz_go 3 (c' := (if t3 ≤ 1600 then 18 else 14, [some (.int t3), some (.int (-1600)), some (.int 1600)], [], mz_up (mz_up (mz_up (mz_up (mz_z m) 65 6 t1) 65 7 t2) 65 6 (t1 - (((t1 * 10) / 100) / 1))) 65 7 (t2 - (((t2 * 10) / 100) / 1)))) rfl ?_
                refine mz_ifT h2 ?_
                refine mz_go 1 (c' := (19, [some (.int t3), some (.int (-1600)), some (.int 1600)], [.int t3], mz_up (mz_up (mz_up (mz_up (mz_z m) 65 6 t1) 65 7 t2) 65 6 (t1 - (((t1 * 10) / 100) / 1))) 65 7 (t2 - (((t2 * 10) / 100) / 1)))) rfl ?_
                exact mz_ret rfl
              refine mz_go 5 (c' := (243, [some (.ref 65), some (.int 1), some (.int 10), some (.int t3), some (.int t4)], [.int 1600, .int (-1600), .int t4, .ref 65], mz_up (mz_up (mz_up (mz_up (mz_up (mz_z m) 65 6 t1) 65 7 t2) 65 6 (t1 - (((t1 * 10) / 100) / 1))) 65 7 (t2 - (((t2 * 10) / 100) / 1))) 65 4 t3)) rfl ?_
              refine mz_do (R := mz_r130) (as := [.int t4, .int (-1600), .int 1600]) (rest := [.ref 65]) (r1 := some (.int (-1600))) (m1 := mz_up (mz_up (mz_up (mz_up (mz_up (mz_z m) 65 6 t1) 65 7 t2) 65 6 (t1 - (((t1 * 10) / 100) / 1))) 65 7 (t2 - (((t2 * 10) / 100) / 1))) 65 4 t3) rfl ⟨?_, rfl⟩ ?_
              · refine mz_go 3 (c' := (if (-1600) ≤ t4 then 9 else 5, [some (.int t4), some (.int (-1600)), some (.int 1600)], [], mz_up (mz_up (mz_up (mz_up (mz_up (mz_z m) 65 6 t1) 65 7 t2) 65 6 (t1 - (((t1 * 10) / 100) / 1))) 65 7 (t2 - (((t2 * 10) / 100) / 1))) 65 4 t3)) rfl ?_
                refine mz_ifF h3 ?_
                refine mz_go 2 (c' := (19, [some (.int t4), some (.int (-1600)), some (.int 1600)], [.int (-1600)], mz_up (mz_up (mz_up (mz_up (mz_up (mz_z m) 65 6 t1) 65 7 t2) 65 6 (t1 - (((t1 * 10) / 100) / 1))) 65 7 (t2 - (((t2 * 10) / 100) / 1))) 65 4 t3)) rfl ?_
                exact mz_ret rfl
              refine mz_go 6 (c' := (if t3 = t3 then 258 else 265, [some (.ref 65), some (.int 1), some (.int 10), some (.int t3), some (.int t4)], [.ref 65], mz_up (mz_up (mz_up (mz_up (mz_up (mz_up (mz_z m) 65 6 t1) 65 7 t2) 65 6 (t1 - (((t1 * 10) / 100) / 1))) 65 7 (t2 - (((t2 * 10) / 100) / 1))) 65 4 t3) 65 5 (-1600))) rfl ?_
              refine mz_ifF h11 ?_
              refine mz_go 7 (c' := (if (-1600) = t4 then 279 else 286, [some (.ref 65), some (.int 1), some (.int 10), some (.int t3), some (.int t4)], [.ref 65], mz_up (mz_up (mz_up (mz_up (mz_up (mz_up (mz_up (mz_z m) 65 6 t1) 65 7 t2) 65 6 (t1 - (((t1 * 10) / 100) / 1))) 65 7 (t2 - (((t2 * 10) / 100) / 1))) 65 4 t3) 65 5 (-1600)) 65 6 0)) rfl ?_
              refine mz_ifF h13 ?_
              refine mz_go 8 (c' := (300, [some (.ref 65), some (.int 1), some (.int 10), some (.int t3), some (.int t4)], [], mz_up (mz_up (mz_up (mz_up (mz_up (mz_up (mz_up (mz_up (mz_up (mz_z m) 65 6 t1) 65 7 t2) 65 6 (t1 - (((t1 * 10) / 100) / 1))) 65 7 (t2 - (((t2 * 10) / 100) / 1))) 65 4 t3) 65 5 (-1600)) 65 6 0) 65 7 0) 65 8 (((mz_z m) 65 8) + 1))) rfl ?_
              exact mz_ret rfl
    · by_cases h14 : (-1600) ≤ t4
      · by_cases h15 : t4 ≤ 1600
        · by_cases h16 : 1600 = t3
          · by_cases h17 : t4 = t4
            · refine ⟨mz_up (mz_up (mz_up (mz_up (mz_up (mz_up (mz_up (mz_up (mz_up (mz_z m) 65 6 t1) 65 7 t2) 65 6 (t1 - (((t1 * 10) / 100) / 1))) 65 7 (t2 - (((t2 * 10) / 100) / 1))) 65 4 1600) 65 5 t4) 65 6 (t1 - (((t1 * 10) / 100) / 1))) 65 7 (t2 - (((t2 * 10) / 100) / 1))) 65 8 (((mz_z m) 65 8) + 1), fun i hi => by simp only [mz_up_ne hi], rfl, ⟨?_, rfl⟩⟩
              · refine mz_go 24 (c' := (123, [some (.ref 65), some (.int 1), some (.int 0), none, none], [], mz_up (mz_z m) 65 6 t1)) rfl ?_
                refine mz_go 17 (c' := (151, [some (.ref 65), some (.int 1), some (.int 0), none, none], [.ref 65], mz_up (mz_up (mz_z m) 65 6 t1) 65 7 t2)) rfl ?_
                refine mz_do (R := mz_r151) (as := [.ref 65]) (rest := []) (r1 := some (.int 10)) (m1 := mz_up (mz_up (mz_z m) 65 6 t1) 65 7 t2) rfl ⟨?_, rfl⟩ ?_
                · refine mz_go 2 (c' := (2, [some (.ref 65), none], [.int 1, .ref 65], mz_up (mz_up (mz_z m) 65 6 t1) 65 7 t2)) rfl ?_
                  refine mz_do (R := mz_r169) (as := [.ref 65, .int 1]) (rest := []) (r1 := some (.int 0)) (m1 := mz_up (mz_up (mz_z m) 65 6 t1) 65 7 t2) rfl ⟨?_, rfl⟩ ?_
                  · refine mz_go 10 (c' := (21, [some (.ref 65), some (.int 1)], [.int 0], mz_up (mz_up (mz_z m) 65 6 t1) 65 7 t2)) rfl ?_
                    exact mz_ret rfl
                  refine mz_go 5 (c' := (15, [some (.ref 65), none], [.int 10], mz_up (mz_up (mz_z m) 65 6 t1) 65 7 t2)) rfl ?_
                  exact mz_ret rfl
                refine mz_go 24 (c' := (190, [some (.ref 65), some (.int 1), some (.int 10), none, none], [.int 1, .int ((t2 * 10) / 100), .int t2, .ref 65], mz_up (mz_up (mz_up (mz_z m) 65 6 t1) 65 7 t2) 65 6 (t1 - (((t1 * 10) / 100) / 1)))) rfl ?_
                refine mz_go 23 (c' := (228, [some (.ref 65), some (.int 1), some (.int 10), some (.int t3), some (.int t4)], [.int 1600, .int (-1600), .int t3, .ref 65], mz_up (mz_up (mz_up (mz_up (mz_z m) 65 6 t1) 65 7 t2) 65 6 (t1 - (((t1 * 10) / 100) / 1))) 65 7 (t2 - (((t2 * 10) / 100) / 1)))) rfl ?_
                refine mz_do (R := mz_r130) (as := [.int t3, .int (-1600), .int 1600]) (rest := [.ref 65]) (r1 := some (.int 1600)) (m1 := mz_up (mz_up (mz_up (mz_up (mz_z m) 65 6 t1) 65 7 t2) 65 6 (t1 - (((t1 * 10) / 100) / 1))) 65 7 (t2 - (((t2 * 10) / 100) / 1))) rfl ⟨?_, rfl⟩ ?_
                · refine mz_go 3 (c' := (if (-1600) ≤ t3 then 9 else 5, [some (.int t3), some (.int (-1600)), some (.int 1600)], [], mz_up (mz_up (mz_up (mz_up (mz_z m) 65 6 t1) 65 7 t2) 65 6 (t1 - (((t1 * 10) / 100) / 1))) 65 7 (t2 - (((t2 * 10) / 100) / 1)))) rfl ?_
                  refine mz_ifT h1 ?_
                  refine mz_go 3 (c' := (if t3 ≤ 1600 then 18 else 14, [some (.int t3), some (.int (-1600)), some (.int 1600)], [], mz_up (mz_up (mz_up (mz_up (mz_z m) 65 6 t1) 65 7 t2) 65 6 (t1 - (((t1 * 10) / 100) / 1))) 65 7 (t2 - (((t2 * 10) / 100) / 1)))) rfl ?_
                  refine mz_ifF h2 ?_
                  refine mz_go 2 (c' := (19, [some (.int t3), some (.int (-1600)), some (.int 1600)], [.int 1600], mz_up (mz_up (mz_up (mz_up (mz_z m) 65 6 t1) 65 7 t2) 65 6 (t1 - (((t1 * 10) / 100) / 1))) 65 7 (t2 - (((t2 * 10) / 100) / 1)))) rfl ?_
                  exact mz_ret rfl
                refine mz_go 5 (c' := (243, [some (.ref 65), some (.int 1), some (.int 10), some (.int t3), some (.int t4)], [.int 1600, .int (-1600), .int t4, .ref 65], mz_up (mz_up (mz_up (mz_up (mz_up (mz_z m) 65 6 t1) 65 7 t2) 65 6 (t1 - (((t1 * 10) / 100) / 1))) 65 7 (t2 - (((t2 * 10) / 100) / 1))) 65 4 1600)) rfl ?_
                refine mz_do (R := mz_r130) (as := [.int t4, .int (-1600), .int 1600]) (rest := [.ref 65]) (r1 := some (.int t4)) (m1 := mz_up (mz_up (mz_up (mz_up (mz_up (mz_z m) 65 6 t1) 65 7 t2) 65 6 (t1 - (((t1 * 10) / 100) / 1))) 65 7 (t2 - (((t2 * 10) / 100) / 1))) 65 4 1600) rfl ⟨?_, rfl⟩ ?_
                · refine mz_go 3 (c' := (if (-1600) ≤ t4 then 9 else 5, [some (.int t4), some (.int (-1600)), some (.int 1600)], [], mz_up (mz_up (mz_up (mz_up (mz_up (mz_z m) 65 6 t1) 65 7 t2) 65 6 (t1 - (((t1 * 10) / 100) / 1))) 65 7 (t2 - (((t2 * 10) / 100) / 1))) 65 4 1600)) rfl ?_
                  refine mz_ifT h14 ?_
                  refine mz_go 3 (c' := (if t4 ≤ 1600 then 18 else 14, [some (.int t4), some (.int (-1600)), some (.int 1600)], [], mz_up (mz_up (mz_up (mz_up (mz_up (mz_z m) 65 6 t1) 65 7 t2) 65 6 (t1 - (((t1 * 10) / 100) / 1))) 65 7 (t2 - (((t2 * 10) / 100) / 1))) 65 4 1600)) rfl ?_
                  refine mz_ifT h15 ?_
                  refine mz_go 1 (c' := (19, [some (.int t4), some (.int (-1600)), some (.int 1600)], [.int t4], mz_up (mz_up (mz_up (mz_up (mz_up (mz_z m) 65 6 t1) 65 7 t2) 65 6 (t1 - (((t1 * 10) / 100) / 1))) 65 7 (t2 - (((t2 * 10) / 100) / 1))) 65 4 1600)) rfl ?_
                  exact mz_ret rfl
                refine mz_go 6 (c' := (if 1600 = t3 then 258 else 265, [some (.ref 65), some (.int 1), some (.int 10), some (.int t3), some (.int t4)], [.ref 65], mz_up (mz_up (mz_up (mz_up (mz_up (mz_up (mz_z m) 65 6 t1) 65 7 t2) 65 6 (t1 - (((t1 * 10) / 100) / 1))) 65 7 (t2 - (((t2 * 10) / 100) / 1))) 65 4 1600) 65 5 t4)) rfl ?_
                refine mz_ifT h16 ?_
                refine mz_go 9 (c' := (if t4 = t4 then 279 else 286, [some (.ref 65), some (.int 1), some (.int 10), some (.int t3), some (.int t4)], [.ref 65], mz_up (mz_up (mz_up (mz_up (mz_up (mz_up (mz_up (mz_z m) 65 6 t1) 65 7 t2) 65 6 (t1 - (((t1 * 10) / 100) / 1))) 65 7 (t2 - (((t2 * 10) / 100) / 1))) 65 4 1600) 65 5 t4) 65 6 (t1 - (((t1 * 10) / 100) / 1)))) rfl ?_
                refine mz_ifT h17 ?_
                refine mz_go 10 (c' := (300, [some (.ref 65), some (.int 1), some (.int 10), some (.int t3), some (.int t4)], [], mz_up (mz_up (mz_up (mz_up (mz_up (mz_up (mz_up (mz_up (mz_up (mz_z m) 65 6 t1) 65 7 t2) 65 6 (t1 - (((t1 * 10) / 100) / 1))) 65 7 (t2 - (((t2 * 10) / 100) / 1))) 65 4 1600) 65 5 t4) 65 6 (t1 - (((t1 * 10) / 100) / 1))) 65 7 (t2 - (((t2 * 10) / 100) / 1))) 65 8 (((mz_z m) 65 8) + 1))) rfl ?_
                exact mz_ret rfl
            · refine ⟨mz_up (mz_up (mz_up (mz_up (mz_up (mz_up (mz_up (mz_up (mz_up (mz_z m) 65 6 t1) 65 7 t2) 65 6 (t1 - (((t1 * 10) / 100) / 1))) 65 7 (t2 - (((t2 * 10) / 100) / 1))) 65 4 1600) 65 5 t4) 65 6 (t1 - (((t1 * 10) / 100) / 1))) 65 7 0) 65 8 (((mz_z m) 65 8) + 1), fun i hi => by simp only [mz_up_ne hi], rfl, ⟨?_, rfl⟩⟩
              · refine mz_go 24 (c' := (123, [some (.ref 65), some (.int 1), some (.int 0), none, none], [], mz_up (mz_z m) 65 6 t1)) rfl ?_
                refine mz_go 17 (c' := (151, [some (.ref 65), some (.int 1), some (.int 0), none, none], [.ref 65], mz_up (mz_up (mz_z m) 65 6 t1) 65 7 t2)) rfl ?_
                refine mz_do (R := mz_r151) (as := [.ref 65]) (rest := []) (r1 := some (.int 10)) (m1 := mz_up (mz_up (mz_z m) 65 6 t1) 65 7 t2) rfl ⟨?_, rfl⟩ ?_
                · refine mz_go 2 (c' := (2, [some (.ref 65), none], [.int 1, .ref 65], mz_up (mz_up (mz_z m) 65 6 t1) 65 7 t2)) rfl ?_
                  refine mz_do (R := mz_r169) (as := [.ref 65, .int 1]) (rest := []) (r1 := some (.int 0)) (m1 := mz_up (mz_up (mz_z m) 65 6 t1) 65 7 t2) rfl ⟨?_, rfl⟩ ?_
                  · refine mz_go 10 (c' := (21, [some (.ref 65), some (.int 1)], [.int 0], mz_up (mz_up (mz_z m) 65 6 t1) 65 7 t2)) rfl ?_
                    exact mz_ret rfl
                  refine mz_go 5 (c' := (15, [some (.ref 65), none], [.int 10], mz_up (mz_up (mz_z m) 65 6 t1) 65 7 t2)) rfl ?_
                  exact mz_ret rfl
                refine mz_go 24 (c' := (190, [some (.ref 65), some (.int 1), some (.int 10), none, none], [.int 1, .int ((t2 * 10) / 100), .int t2, .ref 65], mz_up (mz_up (mz_up (mz_z m) 65 6 t1) 65 7 t2) 65 6 (t1 - (((t1 * 10) / 100) / 1)))) rfl ?_
                refine mz_go 23 (c' := (228, [some (.ref 65), some (.int 1), some (.int 10), some (.int t3), some (.int t4)], [.int 1600, .int (-1600), .int t3, .ref 65], mz_up (mz_up (mz_up (mz_up (mz_z m) 65 6 t1) 65 7 t2) 65 6 (t1 - (((t1 * 10) / 100) / 1))) 65 7 (t2 - (((t2 * 10) / 100) / 1)))) rfl ?_
                refine mz_do (R := mz_r130) (as := [.int t3, .int (-1600), .int 1600]) (rest := [.ref 65]) (r1 := some (.int 1600)) (m1 := mz_up (mz_up (mz_up (mz_up (mz_z m) 65 6 t1) 65 7 t2) 65 6 (t1 - (((t1 * 10) / 100) / 1))) 65 7 (t2 - (((t2 * 10) / 100) / 1))) rfl ⟨?_, rfl⟩ ?_
                · refine mz_go 3 (c' := (if (-1600) ≤ t3 then 9 else 5, [some (.int t3), some (.int (-1600)), some (.int 1600)], [], mz_up (mz_up (mz_up (mz_up (mz_z m) 65 6 t1) 65 7 t2) 65 6 (t1 - (((t1 * 10) / 100) / 1))) 65 7 (t2 - (((t2 * 10) / 100) / 1)))) rfl ?_
                  refine mz_ifT h1 ?_
                  refine mz_go 3 (c' := (if t3 ≤ 1600 then 18 else 14, [some (.int t3), some (.int (-1600)), some (.int 1600)], [], mz_up (mz_up (mz_up (mz_up (mz_z m) 65 6 t1) 65 7 t2) 65 6 (t1 - (((t1 * 10) / 100) / 1))) 65 7 (t2 - (((t2 * 10) / 100) / 1)))) rfl ?_
                  refine mz_ifF h2 ?_
                  refine mz_go 2 (c' := (19, [some (.int t3), some (.int (-1600)), some (.int 1600)], [.int 1600], mz_up (mz_up (mz_up (mz_up (mz_z m) 65 6 t1) 65 7 t2) 65 6 (t1 - (((t1 * 10) / 100) / 1))) 65 7 (t2 - (((t2 * 10) / 100) / 1)))) rfl ?_
                  exact mz_ret rfl
                refine mz_go 5 (c' := (243, [some (.ref 65), some (.int 1), some (.int 10), some (.int t3), some (.int t4)], [.int 1600, .int (-1600), .int t4, .ref 65], mz_up (mz_up (mz_up (mz_up (mz_up (mz_z m) 65 6 t1) 65 7 t2) 65 6 (t1 - (((t1 * 10) / 100) / 1))) 65 7 (t2 - (((t2 * 10) / 100) / 1))) 65 4 1600)) rfl ?_
                refine mz_do (R := mz_r130) (as := [.int t4, .int (-1600), .int 1600]) (rest := [.ref 65]) (r1 := some (.int t4)) (m1 := mz_up (mz_up (mz_up (mz_up (mz_up (mz_z m) 65 6 t1) 65 7 t2) 65 6 (t1 - (((t1 * 10) / 100) / 1))) 65 7 (t2 - (((t2 * 10) / 100) / 1))) 65 4 1600) rfl ⟨?_, rfl⟩ ?_
                · refine mz_go 3 (c' := (if (-1600) ≤ t4 then 9 else 5, [some (.int t4), some (.int (-1600)), some (.int 1600)], [], mz_up (mz_up (mz_up (mz_up (mz_up (mz_z m) 65 6 t1) 65 7 t2) 65 6 (t1 - (((t1 * 10) / 100) / 1))) 65 7 (t2 - (((t2 * 10) / 100) / 1))) 65 4 1600)) rfl ?_
                  refine mz_ifT h14 ?_
                  refine mz_go 3 (c' := (if t4 ≤ 1600 then 18 else 14, [some (.int t4), some (.int (-1600)), some (.int 1600)], [], mz_up (mz_up (mz_up (mz_up (mz_up (mz_z m) 65 6 t1) 65 7 t2) 65 6 (t1 - (((t1 * 10) / 100) / 1))) 65 7 (t2 - (((t2 * 10) / 100) / 1))) 65 4 1600)) rfl ?_
                  refine mz_ifT h15 ?_
                  refine mz_go 1 (c' := (19, [some (.int t4), some (.int (-1600)), some (.int 1600)], [.int t4], mz_up (mz_up (mz_up (mz_up (mz_up (mz_z m) 65 6 t1) 65 7 t2) 65 6 (t1 - (((t1 * 10) / 100) / 1))) 65 7 (t2 - (((t2 * 10) / 100) / 1))) 65 4 1600)) rfl ?_
                  exact mz_ret rfl
                refine mz_go 6 (c' := (if 1600 = t3 then 258 else 265, [some (.ref 65), some (.int 1), some (.int 10), some (.int t3), some (.int t4)], [.ref 65], mz_up (mz_up (mz_up (mz_up (mz_up (mz_up (mz_z m) 65 6 t1) 65 7 t2) 65 6 (t1 - (((t1 * 10) / 100) / 1))) 65 7 (t2 - (((t2 * 10) / 100) / 1))) 65 4 1600) 65 5 t4)) rfl ?_
                refine mz_ifT h16 ?_
                refine mz_go 9 (c' := (if t4 = t4 then 279 else 286, [some (.ref 65), some (.int 1), some (.int 10), some (.int t3), some (.int t4)], [.ref 65], mz_up (mz_up (mz_up (mz_up (mz_up (mz_up (mz_up (mz_z m) 65 6 t1) 65 7 t2) 65 6 (t1 - (((t1 * 10) / 100) / 1))) 65 7 (t2 - (((t2 * 10) / 100) / 1))) 65 4 1600) 65 5 t4) 65 6 (t1 - (((t1 * 10) / 100) / 1)))) rfl ?_
                refine mz_ifF h17 ?_
                refine mz_go 8 (c' := (300, [some (.ref 65), some (.int 1), some (.int 10), some (.int t3), some (.int t4)], [], mz_up (mz_up (mz_up (mz_up (mz_up (mz_up (mz_up (mz_up (mz_up (mz_z m) 65 6 t1) 65 7 t2) 65 6 (t1 - (((t1 * 10) / 100) / 1))) 65 7 (t2 - (((t2 * 10) / 100) / 1))) 65 4 1600) 65 5 t4) 65 6 (t1 - (((t1 * 10) / 100) / 1))) 65 7 0) 65 8 (((mz_z m) 65 8) + 1))) rfl ?_
                exact mz_ret rfl
          · by_cases h18 : t4 = t4
            · refine ⟨mz_up (mz_up (mz_up (mz_up (mz_up (mz_up (mz_up (mz_up (mz_up (mz_z m) 65 6 t1) 65 7 t2) 65 6 (t1 - (((t1 * 10) / 100) / 1))) 65 7 (t2 - (((t2 * 10) / 100) / 1))) 65 4 1600) 65 5 t4) 65 6 0) 65 7 (t2 - (((t2 * 10) / 100) / 1))) 65 8 (((mz_z m) 65 8) + 1), fun i hi => by simp only [mz_up_ne hi], rfl, ⟨?_, rfl⟩⟩
              · refine mz_go 24 (c' := (123, [some (.ref 65), some (.int 1), some (.int 0), none, none], [], mz_up (mz_z m) 65 6 t1)) rfl ?_
                refine mz_go 17 (c' := (151, [some (.ref 65), some (.int 1), some (.int 0), none, none], [.ref 65], mz_up (mz_up (mz_z m) 65 6 t1) 65 7 t2)) rfl ?_
                refine mz_do (R := mz_r151) (as := [.ref 65]) (rest := []) (r1 := some (.int 10)) (m1 := mz_up (mz_up (mz_z m) 65 6 t1) 65 7 t2) rfl ⟨?_, rfl⟩ ?_
                · refine mz_go 2 (c' := (2, [some (.ref 65), none], [.int 1, .ref 65], mz_up (mz_up (mz_z m) 65 6 t1) 65 7 t2)) rfl ?_
                  refine mz_do (R := mz_r169) (as := [.ref 65, .int 1]) (rest := []) (r1 := some (.int 0)) (m1 := mz_up (mz_up (mz_z m) 65 6 t1) 65 7 t2) rfl ⟨?_, rfl⟩ ?_
                  · refine mz_go 10 (c' := (21, [some (.ref 65), some (.int 1)], [.int 0], mz_up (mz_up (mz_z m) 65 6 t1) 65 7 t2)) rfl ?_
                    exact mz_ret rfl
                  refine mz_go 5 (c' := (15, [some (.ref 65), none], [.int 10], mz_up (mz_up (mz_z m) 65 6 t1) 65 7 t2)) rfl ?_
                  exact mz_ret rfl
                refine mz_go 24 (c' := (190, [some (.ref 65), some (.int 1), some (.int 10), none, none], [.int 1, .int ((t2 * 10) / 100), .int t2, .ref 65], mz_up (mz_up (mz_up (mz_z m) 65 6 t1) 65 7 t2) 65 6 (t1 - (((t1 * 10) / 100) / 1)))) rfl ?_
                refine mz_go 23 (c' := (228, [some (.ref 65), some (.int 1), some (.int 10), some (.int t3), some (.int t4)], [.int 1600, .int (-1600), .int t3, .ref 65], mz_up (mz_up (mz_up (mz_up (mz_z m) 65 6 t1) 65 7 t2) 65 6 (t1 - (((t1 * 10) / 100) / 1))) 65 7 (t2 - (((t2 * 10) / 100) / 1)))) rfl ?_
                refine mz_do (R := mz_r130) (as := [.int t3, .int (-1600), .int 1600]) (rest := [.ref 65]) (r1 := some (.int 1600)) (m1 := mz_up (mz_up (mz_up (mz_up (mz_z m) 65 6 t1) 65 7 t2) 65 6 (t1 - (((t1 * 10) / 100) / 1))) 65 7 (t2 - (((t2 * 10) / 100) / 1))) rfl ⟨?_, rfl⟩ ?_
                · refine mz_go 3 (c' := (if (-1600) ≤ t3 then 9 else 5, [some (.int t3), some (.int (-1600)), some (.int 1600)], [], mz_up (mz_up (mz_up (mz_up (mz_z m) 65 6 t1) 65 7 t2) 65 6 (t1 - (((t1 * 10) / 100) / 1))) 65 7 (t2 - (((t2 * 10) / 100) / 1)))) rfl ?_
                  refine mz_ifT h1 ?_
                  refine mz_go 3 (c' := (if t3 ≤ 1600 then 18 else 14, [some (.int t3), some (.int (-1600)), some (.int 1600)], [], mz_up (mz_up (mz_up (mz_up (mz_z m) 65 6 t1) 65 7 t2) 65 6 (t1 - (((t1 * 10) / 100) / 1))) 65 7 (t2 - (((t2 * 10) / 100) / 1)))) rfl ?_
                  refine mz_ifF h2 ?_
                  refine mz_go 2 (c' := (19, [some (.int t3), some (.int (-1600)), some (.int 1600)], [.int 1600], mz_up (mz_up (mz_up (mz_up (mz_z m) 65 6 t1) 65 7 t2) 65 6 (t1 - (((t1 * 10) / 100) / 1))) 65 7 (t2 - (((t2 * 10) / 100) / 1)))) rfl ?_
                  exact mz_ret rfl
                refine mz_go 5 (c' := (243, [some (.ref 65), some (.int 1), some (.int 10), some (.int t3), some (.int t4)], [.int 1600, .int (-1600), .int t4, .ref 65], mz_up (mz_up (mz_up (mz_up (mz_up (mz_z m) 65 6 t1) 65 7 t2) 65 6 (t1 - (((t1 * 10) / 100) / 1))) 65 7 (t2 - (((t2 * 10) / 100) / 1))) 65 4 1600)) rfl ?_
                refine mz_do (R := mz_r130) (as := [.int t4, .int (-1600), .int 1600]) (rest := [.ref 65]) (r1 := some (.int t4)) (m1 := mz_up (mz_up (mz_up (mz_up (mz_up (mz_z m) 65 6 t1) 65 7 t2) 65 6 (t1 - (((t1 * 10) / 100) / 1))) 65 7 (t2 - (((t2 * 10) / 100) / 1))) 65 4 1600) rfl ⟨?_, rfl⟩ ?_
                · refine mz_go 3 (c' := (if (-1600) ≤ t4 then 9 else 5, [some (.int t4), some (.int (-1600)), some (.int 1600)], [], mz_up (mz_up (mz_up (mz_up (mz_up (mz_z m) 65 6 t1) 65 7 t2) 65 6 (t1 - (((t1 * 10) / 100) / 1))) 65 7 (t2 - (((t2 * 10) / 100) / 1))) 65 4 1600)) rfl ?_
                  refine mz_ifT h14 ?_
                  refine mz_go 3 (c' := (if t4 ≤ 1600 then 18 else 14, [some (.int t4), some (.int (-1600)), some (.int 1600)], [], mz_up (mz_up (mz_up (mz_up (mz_up (mz_z m) 65 6 t1) 65 7 t2) 65 6 (t1 - (((t1 * 10) / 100) / 1))) 65 7 (t2 - (((t2 * 10) / 100) / 1))) 65 4 1600)) rfl ?_
                  refine mz_ifT h15 ?_
                  refine mz_go 1 (c' := (19, [some (.int t4), some (.int (-1600)), some (.int 1600)], [.int t4], mz_up (mz_up (mz_up (mz_up (mz_up (mz_z m) 65 6 t1) 65 7 t2) 65 6 (t1 - (((t1 * 10) / 100) / 1))) 65 7 (t2 - (((t2 * 10) / 100) / 1))) 65 4 1600)) rfl ?_
                  exact mz_ret rfl
                refine mz_go 6 (c' := (if 1600 = t3 then 258 else 265, [some (.ref 65), some (.int 1), some (.int 10), some (.int t3), some (.int t4)], [.ref 65], mz_up (mz_up (mz_up (mz_up (mz_up (mz_up (mz_z m) 65 6 t1) 65 7 t2) 65 6 (t1 - (((t1 * 10) / 100) / 1))) 65 7 (t2 - (((t2 * 10) / 100) / 1))) 65 4 1600) 65 5 t4)) rfl ?_
                refine mz_ifF h16 ?_
                refine mz_go 7 (c' := (if t4 = t4 then 279 else 286, [some (.ref 65), some (.int 1), some (.int 10), some (.int t3), some (.int t4)], [.ref 65], mz_up (mz_up (mz_up (mz_up (mz_up (mz_up (mz_up (mz_z m) 65 6 t1) 65 7 t2) 65 6 (t1 - (((t1 * 10) / 100) / 1))) 65 7 (t2 - (((t2 * 10) / 100) / 1))) 65 4 1600) 65 5 t4) 65 6 0)) rfl ?_
                refine mz_ifT h18 ?_
                refine mz_go 10 (c' := (300, [some (.ref 65), some (.int 1), some (.int 10), some (.int t3), some (.int t4)], [], mz_up (mz_up (mz_up (mz_up (mz_up (mz_up (mz_up (mz_up (mz_up (mz_z m) 65 6 t1) 65 7 t2) 65 6 (t1 - (((t1 * 10) / 100) / 1))) 65 7 (t2 - (((t2 * 10) / 100) / 1))) 65 4 1600) 65 5 t4) 65 6 0) 65 7 (t2 - (((t2 * 10) / 100) / 1))) 65 8 (((mz_z m) 65 8) + 1))) rfl ?_
                exact mz_ret rfl
            · refine ⟨mz_up (mz_up (mz_up (mz_up (mz_up (mz_up (mz_up (mz_up (mz_up (mz_z m) 65 6 t1) 65 7 t2) 65 6 (t1 - (((t1 * 10) / 100) / 1))) 65 7 (t2 - (((t2 * 10) / 100) / 1))) 65 4 1600) 65 5 t4) 65 6 0) 65 7 0) 65 8 (((mz_z m) 65 8) + 1), fun i hi => by simp only [mz_up_ne hi], rfl, ⟨?_, rfl⟩⟩
              · refine mz_go 24 (c' := (123, [some (.ref 65), some (.int 1), some (.int 0), none, none], [], mz_up (mz_z m) 65 6 t1)) rfl ?_
                refine mz_go 17 (c' := (151, [some (.ref 65), some (.int 1), some (.int 0), none, none], [.ref 65], mz_up (mz_up (mz_z m) 65 6 t1) 65 7 t2)) rfl ?_
                refine mz_do (R := mz_r151) (as := [.ref 65]) (rest := []) (r1 := some (.int 10)) (m1 := mz_up (mz_up (mz_z m) 65 6 t1) 65 7 t2) rfl ⟨?_, rfl⟩ ?_
                · refine mz_go 2 (c' := (2, [some (.ref 65), none], [.int 1, .ref 65], mz_up (mz_up (mz_z m) 65 6 t1) 65 7 t2)) rfl ?_
                  refine mz_do (R := mz_r169) (as := [.ref 65, .int 1]) (rest := []) (r1 := some (.int 0)) (m1 := mz_up (mz_up (mz_z m) 65 6 t1) 65 7 t2) rfl ⟨?_, rfl⟩ ?_
                  · refine mz_go 10 (c' := (21, [some (.ref 65), some (.int 1)], [.int 0], mz_up (mz_up (mz_z m) 65 6 t1) 65 7 t2)) rfl ?_
                    exact mz_ret rfl
                  refine mz_go 5 (c' := (15, [some (.ref 65), none], [.int 10], mz_up (mz_up (mz_z m) 65 6 t1) 65 7 t2)) rfl ?_
                  exact mz_ret rfl
                refine mz_go 24 (c' := (190, [some (.ref 65), some (.int 1), some (.int 10), none, none], [.int 1, .int ((t2 * 10) / 100), .int t2, .ref 65], mz_up (mz_up (mz_up (mz_z m) 65 6 t1) 65 7 t2) 65 6 (t1 - (((t1 * 10) / 100) / 1)))) rfl ?_
                refine mz_go 23 (c' := (228, [some (.ref 65), some (.int 1), some (.int 10), some (.int t3), some (.int t4)], [.int 1600, .int (-1600), .int t3, .ref 65], mz_up (mz_up (mz_up (mz_up (mz_z m) 65 6 t1) 65 7 t2) 65 6 (t1 - (((t1 * 10) / 100) / 1))) 65 7 (t2 - (((t2 * 10) / 100) / 1)))) rfl ?_
                refine mz_do (R := mz_r130) (as := [.int t3, .int (-1600), .int 1600]) (rest := [.ref 65]) (r1 := some (.int 1600)) (m1 := mz_up (mz_up (mz_up (mz_up (mz_z m) 65 6 t1) 65 7 t2) 65 6 (t1 - (((t1 * 10) / 100) / 1))) 65 7 (t2 - (((t2 * 10) / 100) / 1))) rfl ⟨?_, rfl⟩ ?_
                · refine mz_go 3 (c' := (if (-1600) ≤ t3 then 9 else 5, [some (.int t3), some (.int (-1600)), some (.int 1600)], [], mz_up (mz_up (mz_up (mz_up (mz_z m) 65 6 t1) 65 7 t2) 65 6 (t1 - (((t1 * 10) / 100) / 1))) 65 7 (t2 - (((t2 * 10) / 100) / 1)))) rfl ?_
                  refine mz_ifT h1 ?_
                  refine mz_go 3 (c' := (if t3 ≤ 1600 then 18 else 14, [some (.int t3), some (.int (-1600)), some (.int 1600)], [], mz_up (mz_up (mz_up (mz_up (mz_z m) 65 6 t1) 65 7 t2) 65 6 (t1 - (((t1 * 10) / 100) / 1))) 65 7 (t2 - (((t2 * 10) / 100) / 1)))) rfl ?_
                  refine mz_ifF h2 ?_
                  refine mz_go 2 (c' := (19, [some (.int t3), some (.int (-1600)), some (.int 1600)], [.int 1600], mz_up (mz_up (mz_up (mz_up (mz_z m) 65 6 t1) 65 7 t2) 65 6 (t1 - (((t1 * 10) / 100) / 1))) 65 7 (t2 - (((t2 * 10) / 100) / 1)))) rfl ?_
                  exact mz_ret rfl
                refine mz_go 5 (c' := (243, [some (.ref 65), some (.int 1), some (.int 10), some (.int t3), some (.int t4)], [.int 1600, .int (-1600), .int t4, .ref 65], mz_up (mz_up (mz_up (mz_up (mz_up (mz_z m) 65 6 t1) 65 7 t2) 65 6 (t1 - (((t1 * 10) / 100) / 1))) 65 7 (t2 - (((t2 * 10) / 100) / 1))) 65 4 1600)) rfl ?_
                refine mz_do (R := mz_r130) (as := [.int t4, .int (-1600), .int 1600]) (rest := [.ref 65]) (r1 := some (.int t4)) (m1 := mz_up (mz_up (mz_up (mz_up (mz_up (mz_z m) 65 6 t1) 65 7 t2) 65 6 (t1 - (((t1 * 10) / 100) / 1))) 65 7 (t2 - (((t2 * 10) / 100) / 1))) 65 4 1600) rfl ⟨?_, rfl⟩ ?_
                · refine mz_go 3 (c' := (if (-1600) ≤ t4 then 9 else 5, [some (.int t4), some (.int (-1600)), some (.int 1600)], [], mz_up (mz_up (mz_up (mz_up (mz_up (mz_z m) 65 6 t1) 65 7 t2) 65 6 (t1 - (((t1 * 10) / 100) / 1))) 65 7 (t2 - (((t2 * 10) / 100) / 1))) 65 4 1600)) rfl ?_
                  refine mz_ifT h14 ?_
                  refine mz_go 3 (c' := (if t4 ≤ 1600 then 18 else 14, [some (.int t4), some (.int (-1600)), some (.int 1600)], [], mz_up (mz_up (mz_up (mz_up (mz_up (mz_z m) 65 6 t1) 65 7 t2) 65 6 (t1 - (((t1 * 10) / 100) / 1))) 65 7 (t2 - (((t2 * 10) / 100) / 1))) 65 4 1600)) rfl ?_
                  refine mz_ifT h15 ?_
                  refine mz_go 1 (c' := (19, [some (.int t4), some (.int (-1600)), some (.int 1600)], [.int t4], mz_up (mz_up (mz_up (mz_up (mz_up (mz_z m) 65 6 t1) 65 7 t2) 65 6 (t1 - (((t1 * 10) / 100) / 1))) 65 7 (t2 - (((t2 * 10) / 100) / 1))) 65 4 1600)) rfl ?_
                  exact mz_ret rfl
                refine mz_go 6 (c' := (if 1600 = t3 then 258 else 265, [some (.ref 65), some (.int 1), some (.int 10), some (.int t3), some (.int t4)], [.ref 65], mz_up (mz_up (mz_up (mz_up (mz_up (mz_up (mz_z m) 65 6 t1) 65 7 t2) 65 6 (t1 - (((t1 * 10) / 100) / 1))) 65 7 (t2 - (((t2 * 10) / 100) / 1))) 65 4 1600) 65 5 t4)) rfl ?_
                refine mz_ifF h16 ?_
                refine mz_go 7 (c' := (if t4 = t4 then 279 else 286, [some (.ref 65), some (.int 1), some (.int 10), some (.int t3), some (.int t4)], [.ref 65], mz_up (mz_up (mz_up (mz_up (mz_up (mz_up (mz_up (mz_z m) 65 6 t1) 65 7 t2) 65 6 (t1 - (((t1 * 10) / 100) / 1))) 65 7 (t2 - (((t2 * 10) / 100) / 1))) 65 4 1600) 65 5 t4) 65 6 0)) rfl ?_
                refine mz_ifF h18 ?_
                refine mz_go 8 (c' := (300, [some (.ref 65), some (.int 1), some (.int 10), some (.int t3), some (.int t4)], [], mz_up (mz_up (mz_up (mz_up (mz_up (mz_up (mz_up (mz_up (mz_up (mz_z m) 65 6 t1) 65 7 t2) 65 6 (t1 - (((t1 * 10) / 100) / 1))) 65 7 (t2 - (((t2 * 10) / 100) / 1))) 65 4 1600) 65 5 t4) 65 6 0) 65 7 0) 65 8 (((mz_z m) 65 8) + 1))) rfl ?_
                exact mz_ret rfl
        · by_cases h19 : 1600 = t3
          · by_cases h20 : 1600 = t4
            · refine ⟨mz_up (mz_up (mz_up (mz_up (mz_up (mz_up (mz_up (mz_up (mz_up (mz_z m) 65 6 t1) 65 7 t2) 65 6 (t1 - (((t1 * 10) / 100) / 1))) 65 7 (t2 - (((t2 * 10) / 100) / 1))) 65 4 1600) 65 5 1600) 65 6 (t1 - (((t1 * 10) / 100) / 1))) 65 7 (t2 - (((t2 * 10) / 100) / 1))) 65 8 (((mz_z m) 65 8) + 1), fun i hi => by simp only [mz_up_ne hi], rfl, ⟨?_, rfl⟩⟩
              · refine mz_go 24 (c' := (123, [some (.ref 65), some (.int 1), some (.int 0), none, none], [], mz_up (mz_z m) 65 6 t1)) rfl ?_
                refine mz_go 17 (c' := (151, [some (.ref 65), some (.int 1), some (.int 0), none, none], [.ref 65], mz_up (mz_up (mz_z m) 65 6 t1) 65 7 t2)) rfl ?_
                refine mz_do (R := mz_r151) (as := [.ref 65]) (rest := []) (r1 := some (.int 10)) (m1 := mz_up (mz_up (mz_z m) 65 6 t1) 65 7 t2) rfl ⟨?_, rfl⟩ ?_
                · refine mz_go 2 (c' := (2, [some (.ref 65), none], [.int 1, .ref 65], mz_up (mz_up (mz_z m) 65 6 t1) 65 7 t2)) rfl ?_
                  refine mz_do (R := mz_r169) (as := [.ref 65, .int 1]) (rest := []) (r1 := some (.int 0)) (m1 := mz_up (mz_up (mz_z m) 65 6 t1) 65 7 t2) rfl ⟨?_, rfl⟩ ?_
                  · refine mz_go 10 (c' := (21, [some (.ref 65), some (.int 1)], [.int 0], mz_up (mz_up (mz_z m) 65 6 t1) 65 7 t2)) rfl ?_
                    exact mz_ret rfl
                  refine mz_go 5 (c' := (15, [some (.ref 65), none], [.int 10], mz_up (mz_up (mz_z m) 65 6 t1) 65 7 t2)) rfl ?_
                  exact mz_ret rfl
                refine mz_go 24 (c' := (190, [some (.ref 65), some (.int 1), some (.int 10), none, none], [.int 1, .int ((t2 * 10) / 100), .int t2, .ref 65], mz_up (mz_up (mz_up (mz_z m) 65 6 t1) 65 7 t2) 65 6 (t1 - (((t1 * 10) / 100) / 1)))) rfl ?_
                refine mz_go 23 (c' := (228, [some (.ref 65), some (.int 1), some (.int 10), some (.int t3), some (.int t4)], [.int 1600, .int (-1600), .int t3, .ref 65], mz_up (mz_up (mz_up (mz_up (mz_z m) 65 6 t1) 65 7 t2) 65 6 (t1 - (((t1 * 10) / 100) / 1))) 65 7 (t2 - (((t2 * 10) / 100) / 1)))) rfl ?_
                refine mz_do (R := mz_r130) (as := [.int t3, .int (-1600), .int 1600]) (rest := [.ref 65]) (r1 := some (.int 1600)) (m1 := mz_up (mz_up (mz_up (mz_up (mz_z m) 65 6 t1) 65 7 t2) 65 6 (t1 - (((t1 * 10) / 100) / 1))) 65 7 (t2 - (((t2 * 10) / 100) / 1))) rfl ⟨?_, rfl⟩ ?_
                · refine mz_go 3 (c' := (if (-1600) ≤ t3 then 9 else 5, [some (.int t3), some (.int (-1600)), some (.int 1600)], [], mz_up (mz_up (mz_up (mz_up (mz_z m) 65 6 t1) 65 7 t2) 65 6 (t1 - (((t1 * 10) / 100) / 1))) 65 7 (t2 - (((t2 * 10) / 100) / 1)))) rfl ?_
                  refine mz_ifT h1 ?_
                  refine mz_go 3 (c' := (if t3 ≤ 1600 then 18 else 14, [some (.int t3), some (.int (-1600)), some (.int 1600)], [], mz_up (mz_up (mz_up (mz_up (mz_z m) 65 6 t1) 65 7 t2) 65 6 (t1 - (((t1 * 10) / 100) / 1))) 65 7 (t2 - (((t2 * 10) / 100) / 1)))) rfl ?_
                  refine mz_ifF h2 ?_
                  refine mz_go 2 (c' := (19, [some (.int t3), some (.int (-1600)), some (.int 1600)], [.int 1600], mz_up (mz_up (mz_up (mz_up (mz_z m) 65 6 t1) 65 7 t2) 65 6 (t1 - (((t1 * 10) / 100) / 1))) 65 7 (t2 - (((t2 * 10) / 100) / 1)))) rfl ?_
                  exact mz_ret rfl
                refine mz_go 5 (c' := (243, [some (.ref 65), some (.int 1), some (.int 10), some (.int t3), some (.int t4)], [.int 1600, .int (-1600), .int t4, .ref 65], mz_up (mz_up (mz_up (mz_up (mz_up (mz_z m) 65 6 t1) 65 7 t2) 65 6 (t1 - (((t1 * 10) / 100) / 1))) 65 7 (t2 - (((t2 * 10) / 100) / 1))) 65 4 1600)) rfl ?_
                refine mz_do (R := mz_r130) (as := [.int t4, .int (-1600), .int 1600]) (rest := [.ref 65]) (r1 := some (.int 1600)) (m1 := mz_up (mz_up (mz_up (mz_up (mz_up (mz_z m) 65 6 t1) 65 7 t2) 65 6 (t1 - (((t1 * 10) / 100) / 1))) 65 7 (t2 - (((t2 * 10) / 100) / 1))) 65 4 1600) rfl ⟨?_, rfl⟩ ?_
                · refine mz_go 3 (c' := (if (-1600) ≤ t4 then 9 else 5, [some (.int t4), some (.int (-1600)), some (.int 1600)], [], mz_up (mz_up (mz_up (mz_up (mz_up (mz_z m) 65 6 t1) 65 7 t2) 65 6 (t1 - (((t1 * 10) / 100) / 1))) 65 7 (t2 - (((t2 * 10) / 100) / 1))) 65 4 1600)) rfl ?_
                  refine mz_ifT h14 ?_
                  refine mz_go 3 (c' := (if t4 ≤ 1600 then 18 else 14, [some (.int t4), some (.int (-1600)), some (.int 1600)], [], mz_up (mz_up (mz_up (mz_up (mz_up (mz_z m) 65 6 t1) 65 7 t2) 65 6 (t1 - (((t1 * 10) / 100) / 1))) 65 7 (t2 - (((t2 * 10) / 100) / 1))) 65 4 1600)) rfl ?_
                  refine mz_ifF h15 ?_
                  refine mz_go 2 (c' := (19, [some (.int t4), some (.int (-1600)), some (.int 1600)], [.int 1600], mz_up (mz_up (mz_up (mz_up (mz_up (mz_z m) 65 6 t1) 65 7 t2) 65 6 (t1 - (((t1 * 10) / 100) / 1))) 65 7 (t2 - (((t2 * 10) / 100) / 1))) 65 4 1600)) rfl ?_
                  exact mz_ret rfl
                refine mz_go 6 (c' := (if 1600 = t3 then 258 else 265, [some (.ref 65), some (.int 1), some (.int 10), some (.int t3), some (.int t4)], [.ref 65], mz_up (mz_up (mz_up (mz_up (mz_up (mz_up (mz_z m) 65 6 t1) 65 7 t2) 65 6 (t1 - (((t1 * 10) / 100) / 1))) 65 7 (t2 - (((t2 * 10) / 100) / 1))) 65 4 1600) 65 5 1600)) rfl ?_
                refine mz_ifT h19 ?_
                refine mz_go 9 (c' := (if 1600 = t4 then 279 else 286, [some (.ref 65), some (.int 1), some (.int 10), some (.int t3), some (.int t4)], [.ref 65], mz_up (mz_up (mz_up (mz_up (mz_up (mz_up (mz_up (mz_z m) 65 6 t1) 65 7 t2) 65 6 (t1 - (((t1 * 10) / 100) / 1))) 65 7 (t2 - (((t2 * 10) / 100) / 1))) 65 4 1600) 65 5 1600) 65 6 (t1 - (((t1 * 10) / 100) / 1)))) rfl ?_
                refine mz_ifT h20 ?_
                refine mz_go 10 (c' := (300, [some (.ref 65), some (.int 1), some (.int 10), some (.int t3), some (.int t4)], [], mz_up (mz_up (mz_up (mz_up (mz_up (mz_up (mz_up (mz_up (mz_up (mz_z m) 65 6 t1) 65 7 t2) 65 6 (t1 - (((t1 * 10) / 100) / 1))) 65 7 (t2 - (((t2 * 10) / 100) / 1))) 65 4 1600) 65 5 1600) 65 6 (t1 - (((t1 * 10) / 100) / 1))) 65 7 (t2 - (((t2 * 10) / 100) / 1))) 65 8 (((mz_z m) 65 8) + 1))) rfl ?_
                exact mz_ret rfl
            · refine ⟨mz_up (mz_up (mz_up (mz_up (mz_up (mz_up (mz_up (mz_up (mz_up (mz_z m) 65 6 t1) 65 7 t2) 65 6 (t1 - (((t1 * 10) / 100) / 1))) 65 7 (t2 - (((t2 * 10) / 100) / 1))) 65 4 1600) 65 5 1600) 65 6 (t1 - (((t1 * 10) / 100) / 1))) 65 7 0) 65 8 (((mz_z m) 65 8) + 1), fun i hi => by simp only [mz_up_ne hi], rfl, ⟨?_, rfl⟩⟩
              · refine mz_go 24 (c' := (123, [some (.ref 65), some (.int 1), some (.int 0), none, none], [], mz_up (mz_z m) 65 6 t1)) rfl ?_
                refine mz_go 17 (c' := (151, [some (.ref 65), some (.int 1), some (.int 0), none, none], [.ref 65], mz_up (mz_up (mz_z m) 65 6 t1) 65 7 t2)) rfl ?_
                refine mz_do (R := mz_r151) (as := [.ref 65]) (rest := []) (r1 := some (.int 10)) (m1 := mz_up (mz_up (mz_z m) 65 6 t1) 65 7 t2) rfl ⟨?_, rfl⟩ ?_
                · refine mz_go 2 (c' := (2, [some (.ref 65), none], [.int 1, .ref 65], mz_up (mz_up (mz_z m) 65 6 t1) 65 7 t2)) rfl ?_
                  refine mz_do (R := mz_r169) (as := [.ref 65, .int 1]) (rest := []) (r1 := some (.int 0)) (m1 := mz_up (mz_up (mz_z m) 65 6 t1) 65 7 t2) rfl ⟨?_, rfl⟩ ?_
                  · refine mz_go 10 (c' := (21, [some (.ref 65), some (.int 1)], [.int 0], mz_up (mz_up (mz_z m) 65 6 t1) 65 7 t2)) rfl ?_
                    exact mz_ret rfl
                  refine mz_go 5 (c' := (15, [some (.ref 65), none], [.int 10], mz_up (mz_up (mz_z m) 65 6 t1) 65 7 t2)) rfl ?_
                  exact mz_ret rfl
                refine mz_go 24 (c' := (190, [some (.ref 65), some (.int 1), some (.int 10), none, none], [.int 1, .int ((t2 * 10) / 100), .int t2, .ref 65], mz_up (mz_up (mz_up (mz_z m) 65 6 t1) 65 7 t2) 65 6 (t1 - (((t1 * 10) / 100) / 1)))) rfl ?_
                refine mz_go 23 (c' := (228, [some (.ref 65), some (.int 1), some (.int 10), some (.int t3), some (.int t4)], [.int 1600, .int (-1600), .int t3, .ref 65], mz_up (mz_up (mz_up (mz_up (mz_z m) 65 6 t1) 65 7 t2) 65 6 (t1 - (((t1 * 10) / 100) / 1))) 65 7 (t2 - (((t2 * 10) / 100) / 1)))) rfl ?_
                refine mz_do (R := mz_r130) (as := [.int t3, .int (-1600), .int 1600]) (rest := [.ref 65]) (r1 := some (.int 1600)) (m1 := mz_up (mz_up (mz_up (mz_up (mz_z m) 65 6 t1) 65 7 t2) 65 6 (t1 - (((t1 * 10) / 100) / 1))) 65 7 (t2 - (((t2 * 10) / 100) / 1))) rfl ⟨?_, rfl⟩ ?_
                · refine mz_go 3 (c' := (if (-1600) ≤ t3 then 9 else 5, [some (.int t3), some (.int (-1600)), some (.int 1600)], [], mz_up (mz_up (mz_up (mz_up (mz_z m) 65 6 t1) 65 7 t2) 65 6 (t1 - (((t1 * 10) / 100) / 1))) 65 7 (t2 - (((t2 * 10) / 100) / 1)))) rfl ?_
                  refine mz_ifT h1 ?_
                  refine mz_go 3 (c' := (if t3 ≤ 1600 then 18 else 14, [some (.int t3), some (.int (-1600)), some (.int 1600)], [], mz_up (mz_up (mz_up (mz_up (mz_z m) 65 6 t1) 65 7 t2) 65 6 (t1 - (((t1 * 10) / 100) / 1))) 65 7 (t2 - (((t2 * 10) / 100) / 1)))) rfl ?_
                  refine mz_ifF h2 ?_
                  refine mz_go 2 (c' := (19, [some (.int t3), some (.int (-1600)), some (.int 1600)], [.int 1600], mz_up (mz_up (mz_up (mz_up (mz_z m) 65 6 t1) 65 7 t2) 65 6 (t1 - (((t1 * 10) / 100) / 1))) 65 7 (t2 - (((t2 * 10) / 100) / 1)))) rfl ?_
                  exact mz_ret rfl
                refine mz_go 5 (c' := (243, [some (.ref 65), some (.int 1), some (.int 10), some (.int t3), some (.int t4)], [.int 1600, .int (-1600), .int t4, .ref 65], mz_up (mz_up (mz_up (mz_up (mz_up (mz_z m) 65 6 t1) 65 7 t2) 65 6 (t1 - (((t1 * 10) / 100) / 1))) 65 7 (t2 - (((t2 * 10) / 100) / 1))) 65 4 1600)) rfl ?_
                refine mz_do (R := mz_r130) (as := [.int t4, .int (-1600), .int 1600]) (rest := [.ref 65]) (r1 := some (.int 1600)) (m1 := mz_up (mz_up (mz_up (mz_up (mz_up (mz_z m) 65 6 t1) 65 7 t2) 65 6 (t1 - (((t1 * 10) / 100) / 1))) 65 7 (t2 - (((t2 * 10) / 100) / 1))) 65 4 1600) rfl ⟨?_, rfl⟩ ?_
                · refine mz_go 3 (c' := (if (-1600) ≤ t4 then 9 else 5, [some (.int t4), some (.int (-1600)), some (.int 1600)], [], mz_up (mz_up (mz_up (mz_up (mz_up (mz_z m) 65 6 t1) 65 7 t2) 65 6 (t1 - (((t1 * 10) / 100) / 1))) 65 7 (t2 - (((t2 * 10) / 100) / 1))) 65 4 1600)) rfl ?_
                  refine mz_ifT h14 ?_
                  refine mz_go 3 (c' := (if t4 ≤ 1600 then 18 else 14, [some (.int t4), some (.int (-1600)), some (.int 1600)], [], mz_up (mz_up (mz_up (mz_up (mz_up (mz_z m) 65 6 t1) 65 7 t2) 65 6 (t1 - (((t1 * 10) / 100) / 1))) 65 7 (t2 - (((t2 * 10) / 100) / 1))) 65 4 1600)) rfl ?_
                  refine mz_ifF h15 ?_
                  refine mz_go 2 (c' := (19, [some (.int t4), some (.int (-1600)), some (.int 1600)], [.int 1600], mz_up (mz_up (mz_up (mz_up (mz_up (mz_z m) 65 6 t1) 65 7 t2) 65 6 (t1 - (((t1 * 10) / 100) / 1))) 65 7 (t2 - (((t2 * 10) / 100) / 1))) 65 4 1600)) rfl ?_
                  exact mz_ret rfl
                refine mz_go 6 (c' := (if 1600 = t3 then 258 else 265, [some (.ref 65), some (.int 1), some (.int 10), some (.int t3), some (.int t4)], [.ref 65], mz_up (mz_up (mz_up (mz_up (mz_up (mz_up (mz_z m) 65 6 t1) 65 7 t2) 65 6 (t1 - (((t1 * 10) / 100) / 1))) 65 7 (t2 - (((t2 * 10) / 100) / 1))) 65 4 1600) 65 5 1600)) rfl ?_
                refine mz_ifT h19 ?_
                refine mz_go 9 (c' := (if 1600 = t4 then 279 else 286, [some (.ref 65), some (.int 1), some (.int 10), some (.int t3), some (.int t4)], [.ref 65], mz_up (mz_up (mz_up (mz_up (mz_up (mz_up (mz_up (mz_z m) 65 6 t1) 65 7 t2) 65 6 (t1 - (((t1 * 10) / 100) / 1))) 65 7 (t2 - (((t2 * 10) / 100) / 1))) 65 4 1600) 65 5 1600) 65 6 (t1 - (((t1 * 10) / 100) / 1)))) rfl ?_
                refine mz_ifF h20 ?_
                refine mz_go 8 (c' := (300, [some (.ref 65), some (.int 1), some (.int 10), some (.int t3), some (.int t4)], [], mz_up (mz_up (mz_up (mz_up (mz_up (mz_up (mz_up (mz_up (mz_up (mz_z m) 65 6 t1) 65 7 t2) 65 6 (t1 - (((t1 * 10) / 100) / 1))) 65 7 (t2 - (((t2 * 10) / 100) / 1))) 65 4 1600) 65 5 1600) 65 6 (t1 - (((t1 * 10) / 100) / 1))) 65 7 0) 65 8 (((mz_z m) 65 8) + 1))) rfl ?_
                exact mz_ret rfl
          · by_cases h21 : 1600 = t4
            · refine ⟨mz_up (mz_up (mz_up (mz_up (mz_up (mz_up (mz_up (mz_up (mz_up (mz_z m) 65 6 t1) 65 7 t2) 65 6 (t1 - (((t1 * 10) / 100) / 1))) 65 7 (t2 - (((t2 * 10) / 100) / 1))) 65 4 1600) 65 5 1600) 65 6 0) 65 7 (t2 - (((t2 * 10) / 100) / 1))) 65 8 (((mz_z m) 65 8) + 1), fun i hi => by simp only [mz_up_ne hi], rfl, ⟨?_, rfl⟩⟩
              · refine mz_go 24 (c' := (123, [some (.ref 65), some (.int 1), some (.int 0), none, none], [], mz_up (mz_z m) 65 6 t1)) rfl ?_
                refine mz_go 17 (c' := (151, [some (.ref 65), some (.int 1), some (.int 0), none, none], [.ref 65], mz_up (mz_up (mz_z m) 65 6 t1) 65 7 t2)) rfl ?_
                refine mz_do (R := mz_r151) (as := [.ref 65]) (rest := []) (r1 := some (.int 10)) (m1 := mz_up (mz_up (mz_z m) 65 6 t1) 65 7 t2) rfl ⟨?_, rfl⟩ ?_
                · refine mz_go 2 (c' := (2, [some (.ref 65), none], [.int 1, .ref 65], mz_up (mz_up (mz_z m) 65 6 t1) 65 7 t2)) rfl ?_
                  refine mz_do (R := mz_r169) (as := [.ref 65, .int 1]) (rest := []) (r1 := some (.int 0)) (m1 := mz_up (mz_up (mz_z m) 65 6 t1) 65 7 t2) rfl ⟨?_, rfl⟩ ?_
                  · refine mz_go 10 (c' := (21, [some (.ref 65), some (.int 1)], [.int 0], mz_up (mz_up (mz_z m) 65 6 t1) 65 7 t2)) rfl ?_
                    exact mz_ret rfl
                  refine mz_go 5 (c' := (15, [some (.ref 65), none], [.int 10], mz_up (mz_up (mz_z m) 65 6 t1) 65 7 t2)) rfl ?_
                  exact mz_ret rfl
                refine mz_go 24 (c' := (190, [some (.ref 65), some (.int 1), some (.int 10), none, none], [.int 1, .int ((t2 * 10) / 100), .int t2, .ref 65], mz_up (mz_up (mz_up (mz_z m) 65 6 t1) 65 7 t2) 65 6 (t1 - (((t1 * 10) / 100) / 1)))) rfl ?_
                refine mz_go 23 (c' := (228, [some (.ref 65), some (.int 1), some (.int 10), some (.int t3), some (.int t4)], [.int 1600, .int (-1600), .int t3, .ref 65], mz_up (mz_up (mz_up (mz_up (mz_z m) 65 6 t1) 65 7 t2) 65 6 (t1 - (((t1 * 10) / 100) / 1))) 65 7 (t2 - (((t2 * 10) / 100) / 1)))) rfl ?_
                refine mz_do (R := mz_r130) (as := [.int t3, .int (-1600), .int 1600]) (rest := [.ref 65]) (r1 := some (.int 1600)) (m1 := mz_up (mz_up (mz_up (mz_up (mz_z m) 65 6 t1) 65 7 t2) 65 6 (t1 - (((t1 * 10) / 100) / 1))) 65 7 (t2 - (((t2 * 10) / 100) / 1))) rfl ⟨?_, rfl⟩ ?_
                · refine mz_go 3 (c' := (if (-1600) ≤ t3 then 9 else 5, [some (.int t3), some (.int (-1600)), some (.int 1600)], [], mz_up (mz_up (mz_up (mz_up (mz_z m) 65 6 t1) 65 7 t2) 65 6 (t1 - (((t1 * 10) / 100) / 1))) 65 7 (t2 - (((t2 * 10) / 100) / 1)))) rfl ?_
                  refine mz_ifT h1 ?_
                  refine mz_go 3 (c' := (if t3 ≤ 1600 then 18 else 14, [some (.int t3), some (.int (-1600)), some (.int 1600)], [], mz_up (mz_up (mz_up (mz_up (mz_z m) 65 6 t1) 65 7 t2) 65 6 (t1 - (((t1 * 10) / 100) / 1))) 65 7 (t2 - (((t2 * 10) / 100) / 1)))) rfl ?_
                  refine mz_ifF h2 ?_
                  refine mz_go 2 (c' := (19, [some (.int t3), some (.int (-1600)), some (.int 1600)], [.int 1600], mz_up (mz_up (mz_up (mz_up (mz_z m) 65 6 t1) 65 7 t2) 65 6 (t1 - (((t1 * 10) / 100) / 1))) 65 7 (t2 - (((t2 * 10) / 100) / 1)))) rfl ?_
                  exact mz_ret rfl
                refine mz_go 5 (c' := (243, [some (.ref 65), some (.int 1), some (.int 10), some (.int t3), some (.int t4)], [.int 1600, .int (-1600), .int t4, .ref 65], mz_up (mz_up (mz_up (mz_up (mz_up (mz_z m) 65 6 t1) 65 7 t2) 65 6 (t1 - (((t1 * 10) / 100) / 1))) 65 7 (t2 - (((t2 * 10) / 100) / 1))) 65 4 1600)) rfl ?_
                refine mz_do (R := mz_r130) (as := [.int t4, .int (-1600), .int 1600]) (rest := [.ref 65]) (r1 := some (.int 1600)) (m1 := mz_up (mz_up (mz_up (mz_up (mz_up (mz_z m) 65 6 t1) 65 7 t2) 65 6 (t1 - (((t1 * 10) / 100) / 1))) 65 7 (t2 - (((t2 * 10) / 100) / 1))) 65 4 1600) rfl ⟨?_, rfl⟩ ?_
                · refine mz_go 3 (c' := (if (-1600) ≤ t4 then 9 else 5, [some (.int t4), some (.int (-1600)), some (.int 1600)], [], mz_up (mz_up (mz_up (mz_up (mz_up (mz_z m) 65 6 t1) 65 7 t2) 65 6 (t1 - (((t1 * 10) / 100) / 1))) 65 7 (t2 - (((t2 * 10) / 100) / 1))) 65 4 1600)) rfl ?_
                  refine mz_ifT h14 ?_
                  refine mz_go 3 (c' := (if t4 ≤ 1600 then 18 else 14, [some (.int t4), some (.int (-1600)), some (.int 1600)], [], mz_up (mz_up (mz_up (mz_up (mz_up (mz_z m) 65 6 t1) 65 7 t2) 65 6 (t1 - (((t1 * 10) / 100) / 1))) 65 7 (t2 - (((t2 * 10) / 100) / 1))) 65 4 1600)) rfl ?_
                  refine mz_ifF h15 ?_
                  refine mz_go 2 (c' := (19, [some (.int t4), some (.int (-1600)), some (.int 1600)], [.int 1600], mz_up (mz_up (mz_up (mz_up (mz_up (mz_z m) 65 6 t1) 65 7 t2) 65 6 (t1 - (((t1 * 10) / 100) / 1))) 65 7 (t2 - (((t2 * 10) / 100) / 1))) 65 4 1600)) rfl ?_
                  exact mz_ret rfl
                refine mz_go 6 (c' := (if 1600 = t3 then 258 else 265, [some (.ref 65), some (.int 1), some (.int 10), some (.int t3), some (.int t4)], [.ref 65], mz_up (mz_up (mz_up (mz_up (mz_up (mz_up (mz_z m) 65 6 t1) 65 7 t2) 65 6 (t1 - (((t1 * 10) / 100) / 1))) 65 7 (t2 - (((t2 * 10) / 100) / 1))) 65 4 1600) 65 5 1600)) rfl ?_
                refine mz_ifF h19 ?_
                refine mz_go 7 (c' := (if 1600 = t4 then 279 else 286, [some (.ref 65), some (.int 1), some (.int 10), some (.int t3), some (.int t4)], [.ref 65], mz_up (mz_up (mz_up (mz_up (mz_up (mz_up (mz_up (mz_z m) 65 6 t1) 65 7 t2) 65 6 (t1 - (((t1 * 10) / 100) / 1))) 65 7 (t2 - (((t2 * 10) / 100) / 1))) 65 4 1600) 65 5 1600) 65 6 0)) rfl ?_
                refine mz_ifT h21 ?_
                refine mz_go 10 (c' := (300, [some (.ref 65), some (.int 1), some (.int 10), some (.int t3), some (.int t4)], [], mz_up (mz_up (mz_up (mz_up (mz_up (mz_up (mz_up (mz_up (mz_up (mz_z m) 65 6 t1) 65 7 t2) 65 6 (t1 - (((t1 * 10) / 100) / 1))) 65 7 (t2 - (((t2 * 10) / 100) / 1))) 65 4 1600) 65 5 1600) 65 6 0) 65 7 (t2 - (((t2 * 10) / 100) / 1))) 65 8 (((mz_z m) 65 8) + 1))) rfl ?_
                exact mz_ret rfl
            · refine ⟨mz_up (mz_up (mz_up (mz_up (mz_up (mz_up (mz_up (mz_up (mz_up (mz_z m) 65 6 t1) 65 7 t2) 65 6 (t1 - (((t1 * 10) / 100) / 1))) 65 7 (t2 - (((t2 * 10) / 100) / 1))) 65 4 1600) 65 5 1600) 65 6 0) 65 7 0) 65 8 (((mz_z m) 65 8) + 1), fun i hi => by simp only [mz_up_ne hi], rfl, ⟨?_, rfl⟩⟩
              · refine mz_go 24 (c' := (123, [some (.ref 65), some (.int 1), some (.int 0), none, none], [], mz_up (mz_z m) 65 6 t1)) rfl ?_
                refine mz_go 17 (c' := (151, [some (.ref 65), some (.int 1), some (.int 0), none, none], [.ref 65], mz_up (mz_up (mz_z m) 65 6 t1) 65 7 t2)) rfl ?_
                refine mz_do (R := mz_r151) (as := [.ref 65]) (rest := []) (r1 := some (.int 10)) (m1 := mz_up (mz_up (mz_z m) 65 6 t1) 65 7 t2) rfl ⟨?_, rfl⟩ ?_
                · refine mz_go 2 (c' := (2, [some (.ref 65), none], [.int 1, .ref 65], mz_up (mz_up (mz_z m) 65 6 t1) 65 7 t2)) rfl ?_
                  refine mz_do (R := mz_r169) (as := [.ref 65, .int 1]) (rest := []) (r1 := some (.int 0)) (m1 := mz_up (mz_up (mz_z m) 65 6 t1) 65 7 t2) rfl ⟨?_, rfl⟩ ?_
                  · refine mz_go 10 (c' := (21, [some (.ref 65), some (.int 1)], [.int 0], mz_up (mz_up (mz_z m) 65 6 t1) 65 7 t2)) rfl ?_
                    exact mz_ret rfl
                  refine mz_go 5 (c' := (15, [some (.ref 65), none], [.int 10], mz_up (mz_up (mz_z m) 65 6 t1) 65 7 t2)) rfl ?_
                  exact mz_ret rfl
                refine mz_go 24 (c' := (190, [some (.ref 65), some (.int 1), some (.int 10), none, none], [.int 1, .int ((t2 * 10) / 100), .int t2, .ref 65], mz_up (mz_up (mz_up (mz_z m) 65 6 t1) 65 7 t2) 65 6 (t1 - (((t1 * 10) / 100) / 1)))) rfl ?_
                refine mz_go 23 (c' := (228, [some (.ref 65), some (.int 1), some (.int 10), some (.int t3), some (.int t4)], [.int 1600, .int (-1600), .int t3, .ref 65], mz_up (mz_up (mz_up (mz_up (mz_z m) 65 6 t1) 65 7 t2) 65 6 (t1 - (((t1 * 10) / 100) / 1))) 65 7 (t2 - (((t2 * 10) / 100) / 1)))) rfl ?_
                refine mz_do (R := mz_r130) (as := [.int t3, .int (-1600), .int 1600]) (rest := [.ref 65]) (r1 := some (.int 1600)) (m1 := mz_up (mz_up (mz_up (mz_up (mz_z m) 65 6 t1) 65 7 t2) 65 6 (t1 - (((t1 * 10) / 100) / 1))) 65 7 (t2 - (((t2 * 10) / 100) / 1))) rfl ⟨?_, rfl⟩ ?_
                · refine mz_go 3 (c' := (if (-1600) ≤ t3 then 9 else 5, [some (.int t3), some (.int (-1600)), some (.int 1600)], [], mz_up (mz_up (mz_up (mz_up (mz_z m) 65 6 t1) 65 7 t2) 65 6 (t1 - (((t1 * 10) / 100) / 1))) 65 7 (t2 - (((t2 * 10) / 100) / 1)))) rfl ?_
                  refine mz_ifT h1 ?_
                  refine mz_go 3 (c' := (if t3 ≤ 1600 then 18 else 14, [some (.int t3), some (.int (-1600)), some (.int 1600)], [], mz_up (mz_up (mz_up (mz_up (mz_z m) 65 6 t1) 65 7 t2) 65 6 (t1 - (((t1 * 10) / 100) / 1))) 65 7 (t2 - (((t2 * 10) / 100) / 1)))) rfl ?_
                  refine mz_ifF h2 ?_
                  refine mz_go 2 (c' := (19, [some (.int t3), some (.int (-1600)), some (.int 1600)], [.int 1600], mz_up (mz_up (mz_up (mz_up (mz_z m) 65 6 t1) 65 7 t2) 65 6 (t1 - (((t1 * 10) / 100) / 1))) 65 7 (t2 - (((t2 * 10) / 100) / 1)))) rfl ?_
                  exact mz_ret rfl
                refine mz_go 5 (c' := (243, [some (.ref 65), some (.int 1), some (.int 10), some (.int t3), some (.int t4)], [.int 1600, .int (-1600), .int t4, .ref 65], mz_up (mz_up (mz_up (mz_up (mz_up (mz_z m) 65 6 t1) 65 7 t2) 65 6 (t1 - (((t1 * 10) / 100) / 1))) 65 7 (t2 - (((t2 * 10) / 100) / 1))) 65 4 1600)) rfl ?_
                refine mz_do (R := mz_r130) (as := [.int t4, .int (-1600), .int 1600]) (rest := [.ref 65]) (r1 := some (.int 1600)) (m1 := mz_up (mz_up (mz_up (mz_up (mz_up (mz_z m) 65 6 t1) 65 7 t2) 65 6 (t1 - (((t1 * 10) / 100) / 1))) 65 7 (t2 - (((t2 * 10) / 100) / 1))) 65 4 1600) rfl ⟨?_, rfl⟩ ?_
                · refine mz_go 3 (c' := (if (-1600) ≤ t4 then 9 else 5, [some (.int t4), some (.int (-1600)), some (.int 1600)], [], mz_up (mz_up (mz_up (mz_up (mz_up (mz_z m) 65 6 t1) 65 7 t2) 65 6 (t1 - (((t1 * 10) / 100) / 1))) 65 7 (t2 - (((t2 * 10) / 100) / 1))) 65 4 1600)) rfl ?_
                  refine mz_ifT h14 ?_
                  refine mz_go 3 (c' := (if t4 ≤ 1600 then 18 else 14, [some (.int t4), some (.int (-1600)), some (.int 1600)], [], mz_up (mz_up (mz_up (mz_up (mz_up (mz_z m) 65 6 t1) 65 7 t2) 65 6 (t1 - (((t1 * 10) / 100) / 1))) 65 7 (t2 - (((t2 * 10) / 100) / 1))) 65 4 1600)) rfl ?_
                  refine mz_ifF h15 ?_
                  refine mz_go 2 (c' := (19, [some (.int t4), some (.int (-1600)), some (.int 1600)], [.int 1600], mz_up (mz_up (mz_up (mz_up (mz_up (mz_z m) 65 6 t1) 65 7 t2) 65 6 (t1 - (((t1 * 10) / 100) / 1))) 65 7 (t2 - (((t2 * 10) / 100) / 1))) 65 4 1600)) rfl ?_
                  exact mz_ret rfl
                refine mz_go 6 (c' := (if 1600 = t3 then 258 else 265, [some (.ref 65), some (.int 1), some (.int 10), some (.int t3), some (.int t4)], [.ref 65], mz_up (mz_up (mz_up (mz_up (mz_up (mz_up (mz_z m) 65 6 t1) 65 7 t2) 65 6 (t1 - (((t1 * 10) / 100) / 1))) 65 7 (t2 - (((t2 * 10) / 100) / 1))) 65 4 1600) 65 5 1600)) rfl ?_
                refine mz_ifF h19 ?_
                refine mz_go 7 (c' := (if 1600 = t4 then 279 else 286, [some (.ref 65), some (.int 1), some (.int 10), some (.int t3), some (.int t4)], [.ref 65], mz_up (mz_up (mz_up (mz_up (mz_up (mz_up (mz_up (mz_z m) 65 6 t1) 65 7 t2) 65 6 (t1 - (((t1 * 10) / 100) / 1))) 65 7 (t2 - (((t2 * 10) / 100) / 1))) 65 4 1600) 65 5 1600) 65 6 0)) rfl ?_
                refine mz_ifF h21 ?_
                refine mz_go 8 (c' := (300, [some (.ref 65), some (.int 1), some (.int 10), some (.int t3), some (.int t4)], [], mz_up (mz_up (mz_up (mz_up (mz_up (mz_up (mz_up (mz_up (mz_up (mz_z m) 65 6 t1) 65 7 t2) 65 6 (t1 - (((t1 * 10) / 100) / 1))) 65 7 (t2 - (((t2 * 10) / 100) / 1))) 65 4 1600) 65 5 1600) 65 6 0) 65 7 0) 65 8 (((mz_z m) 65 8) + 1))) rfl ?_
                exact mz_ret rfl
      · by_cases h22 : 1600 = t3
        · by_cases h23 : (-1600) = t4
          · refine ⟨mz_up (mz_up (mz_up (mz_up (mz_up (mz_up (mz_up (mz_up (mz_up (mz_z m) 65 6 t1) 65 7 t2) 65 6 (t1 - (((t1 * 10) / 100) / 1))) 65 7 (t2 - (((t2 * 10) / 100) / 1))) 65 4 1600) 65 5 (-1600)) 65 6 (t1 - (((t1 * 10) / 100) / 1))) 65 7 (t2 - (((t2 * 10) / 100) / 1))) 65 8 (((mz_z m) 65 8) + 1), fun i hi => by simp only [mz_up_ne hi], rfl, ⟨?_, rfl⟩⟩
            · refine mz_go 24 (c' := (123, [some (.ref 65), some (.int 1), some (.int 0), none, none], [], mz_up (mz_z m) 65 6 t1)) rfl ?_
              refine mz_go 17 (c' := (151, [some (.ref 65), some (.int 1), some (.int 0), none, none], [.ref 65], mz_up (mz_up (mz_z m) 65 6 t1) 65 7 t2)) rfl ?_
              refine mz_do (R := mz_r151) (as := [.ref 65]) (rest := []) (r1 := some (.int 10)) (m1 := mz_up (mz_up (mz_z m) 65 6 t1) 65 7 t2) rfl ⟨?_, rfl⟩ ?_
              · refine mz_go 2 (c' := (2, [some (.ref 65), none], [.int 1, .ref 65], mz_up (mz_up (mz_z m) 65 6 t1) 65 7 t2)) rfl ?_
                refine mz_do (R := mz_r169) (as := [.ref 65, .int 1]) (rest := []) (r1 := some (.int 0)) (m1 := mz_up (mz_up (mz_z m) 65 6 t1) 65 7 t2) rfl ⟨?_, rfl⟩ ?_
                · refine mz_go 10 (c' := (21, [some (.ref 65), some (.int 1)], [.int 0], mz_up (mz_up (mz_z m) 65 6 t1) 65 7 t2)) rfl ?_
                  exact mz_ret rfl
                refine mz_go 5 (c' := (15, [some (.ref 65), none], [.int 10], mz_up (mz_up (mz_z m) 65 6 t1) 65 7 t2)) rfl ?_
                exact mz_ret rfl
              refine mz_go 24 (c' := (190, [some (.ref 65), some (.int 1), some (.int 10), none, none], [.int 1, .int ((t2 * 10) / 100), .int t2, .ref 65], mz_up (mz_up (mz_up (mz_z m) 65 6 t1) 65 7 t2) 65 6 (t1 - (((t1 * 10) / 100) / 1)))) rfl ?_
              refine mz_go 23 (c' := (228, [some (.ref 65), some (.int 1), some (.int 10), some (.int t3), some (.int t4)], [.int 1600, .int (-1600), .int t3, .ref 65], mz_up (mz_up (mz_up (mz_up (mz_z m) 65 6 t1) 65 7 t2) 65 6 (t1 - (((t1 * 10) / 100) / 1))) 65 7 (t2 - (((t2 * 10) / 100) / 1)))) rfl ?_
              refine mz_do (R := mz_r130) (as := [.int t3, .int (-1600), .int 1600]) (rest := [.ref 65]) (r1 := some (.int 1600)) (m1 := mz_up (mz_up (mz_up (mz_up (mz_z m) 65 6 t1) 65 7 t2) 65 6 (t1 - (((t1 * 10) / 100) / 1))) 65 7 (t2 - (((t2 * 10) / 100) / 1))) rfl ⟨?_, rfl⟩ ?_
              · refine mz_go 3 (c' := (if (-1600) ≤ t3 then 9 else 5, [some (.int t3), some (.int (-1600)), some (.int 1600)], [], mz_up (mz_up (mz_up (mz_up (mz_z m) 65 6 t1) 65 7 t2) 65 6 (t1 - (((t1 * 10) / 100) / 1))) 65 7 (t2 - (((t2 * 10) / 100) / 1)))) rfl ?_
                refine mz_ifT h1 ?_
                refine mz_go 3 (c' := (if t3 ≤ 1600 then 18 else 14, [some (.int t3), some (.int (-1600)), some (.int 1600)], [], mz_up (mz_up (mz_up (mz_up (mz_z m) 65 6 t1) 65 7 t2) 65 6 (t1 - (((t1 * 10) / 100) / 1))) 65 7 (t2 - (((t2 * 10) / 100) / 1)))) rfl ?_
                refine mz_ifF h2 ?_
                refine mz_go 2 (c' := (19, [some (.int t3), some (.int (-1600)), some (.int 1600)], [.int 1600], mz_up (mz_up (mz_up (mz_up (mz_z m) 65 6 t1) 65 7 t2) 65 6 (t1 - (((t1 * 10) / 100) / 1))) 65 7 (t2 - (((t2 * 10) / 100) / 1)))) rfl ?_
                exact mz_ret rfl
              refine mz_go 5 (c' := (243, [some (.ref 65), some (.int 1), some (.int 10), some (.int t3), some (.int t4)], [.int 1600, .int (-1600), .int t4, .ref 65], mz_up (mz_up (mz_up (mz_up (mz_up (mz_z m) 65 6 t1) 65 7 t2) 65 6 (t1 - (((t1 * 10) / 100) / 1))) 65 7 (t2 - (((t2 * 10) / 100) / 1))) 65 4 1600)) rfl ?_
              refine mz_do (R := mz_r130) (as := [.int t4, .int (-1600), .int 1600]) (rest := [.ref 65]) (r1 := some (.int (-1600))) (m1 := mz_up (mz_up (mz_up (mz_up (mz_up (mz_z m) 65 6 t1) 65 7 t2) 65 6 (t1 - (((t1 * 10) / 100) / 1))) 65 7 (t2 - (((t2 * 10) / 100) / 1))) 65 4 1600) rfl ⟨?_, rfl⟩ ?_
              · refine mz_go 3 (c' := (if (-1600) ≤ t4 then 9 else 5, [some (.int t4), some (.int (-1600)), some (.int 1600)], [], mz_up (mz_up (mz_up (mz_up (mz_up (mz_z m) 65 6 t1) 65 7 t2) 65 6 (t1 - (((t1 * 10) / 100) / 1))) 65 7 (t2 - (((t2 * 10) / 100) / 1))) 65 4 1600)) rfl ?_
                refine mz_ifF h14 ?_
                refine mz_go 2 (c' := (19, [some (.int t4), some (.int (-1600)), some (.int 1600)], [.int (-1600)], mz_up (mz_up (mz_up (mz_up (mz_up (mz_z m) 65 6 t1) 65 7 t2) 65 6 (t1 - (((t1 * 10) / 100) / 1))) 65 7 (t2 - (((t2 * 10) / 100) / 1))) 65 4 1600)) rfl ?_
                exact mz_ret rfl
              refine mz_go 6 (c' := (if 1600 = t3 then 258 else 265, [some (.ref 65), some (.int 1), some (.int 10), some (.int t3), some (.int t4)], [.ref 65], mz_up (mz_up (mz_up (mz_up (mz_up (mz_up (mz_z m) 65 6 t1) 65 7 t2) 65 6 (t1 - (((t1 * 10) / 100) / 1))) 65 7 (t2 - (((t2 * 10) / 100) / 1))) 65 4 1600) 65 5 (-1600))) rfl ?_
              refine mz_ifT h22 ?_
              refine mz_go 9 (c' := (if (-1600) = t4 then 279 else 286, [some (.ref 65), some (.int 1), some (.int 10), some (.int t3), some (.int t4)], [.ref 65], mz_up (mz_up (mz_up (mz_up (mz_up (mz_up (mz_up (mz_z m) 65 6 t1) 65 7 t2) 65 6 (t1 - (((t1 * 10) / 100) / 1))) 65 7 (t2 - (((t2 * 10) / 100) / 1))) 65 4 1600) 65 5 (-1600)) 65 6 (t1 - (((t1 * 10) / 100) / 1)))) rfl ?_
              refine mz_ifT h23 ?_
              refine mz_go 10 (c' := (300, [some (.ref 65), some (.int 1), some (.int 10), some (.int t3), some (.int t4)], [], mz_up (mz_up (mz_up (mz_up (mz_up (mz_up (mz_up (mz_up (mz_up (mz_z m) 65 6 t1) 65 7 t2) 65 6 (t1 - (((t1 * 10) / 100) / 1))) 65 7 (t2 - (((t2 * 10) / 100) / 1))) 65 4 1600) 65 5 (-1600)) 65 6 (t1 - (((t1 * 10) / 100) / 1))) 65 7 (t2 - (((t2 * 10) / 100) / 1))) 65 8 (((mz_z m) 65 8) + 1))) rfl ?_
              exact mz_ret rfl
          · refine ⟨mz_up (mz_up (mz_up (mz_up (mz_up (mz_up (mz_up (mz_up (mz_up (mz_z m) 65 6 t1) 65 7 t2) 65 6 (t1 - (((t1 * 10) / 100) / 1))) 65 7 (t2 - (((t2 * 10) / 100) / 1))) 65 4 1600) 65 5 (-1600)) 65 6 (t1 - (((t1 * 10) / 100) / 1))) 65 7 0) 65 8 (((mz_z m) 65 8) + 1), fun i hi => by simp only [mz_up_ne hi], rfl, ⟨?_, rfl⟩⟩
            · refine mz_go 24 (c' := (123, [some (.ref 65), some (.int 1), some (.int 0), none, none], [], mz_up (mz_z m) 65 6 t1)) rfl ?_
              refine mz_go 17 (c' := (151, [some (.ref 65), some (.int 1), some (.int 0), none, none], [.ref 65], mz_up (mz_up (mz_z m) 65 6 t1) 65 7 t2)) rfl ?_
              refine mz_do (R := mz_r151) (as := [.ref 65]) (rest := []) (r1 := some (.int 10)) (m1 := mz_up (mz_up (mz_z m) 65 6 t1) 65 7 t2) rfl ⟨?_, rfl⟩ ?_
              · refine mz_go 2 (c' := (2, [some (.ref 65), none], [.int 1, .ref 65], mz_up (mz_up (mz_z m) 65 6 t1) 65 7 t2)) rfl ?_
                refine mz_do (R := mz_r169) (as := [.ref 65, .int 1]) (rest := []) (r1 := some (.int 0)) (m1 := mz_up (mz_up (mz_z m) 65 6 t1) 65 7 t2) rfl ⟨?_, rfl⟩ ?_
                · refine mz_go 10 (c' := (21, [some (.ref 65), some (.int 1)], [.int 0], mz_up (mz_up (mz_z m) 65 6 t1) 65 7 t2)) rfl ?_
                  exact mz_ret rfl
                refine mz_go 5 (c' := (15, [some (.ref 65), none], [.int 10], mz_up (mz_up (mz_z m) 65 6 t1) 65 7 t2)) rfl ?_
                exact mz_ret rfl
              refine mz_go 24 (c' := (190, [some (.ref 65), some (.int 1), some (.int 10), none, none], [.int 1, .int ((t2 * 10) / 100), .int t2, .ref 65], mz_up (mz_up (mz_up (mz_z m) 65 6 t1) 65 7 t2) 65 6 (t1 - (((t1 * 10) / 100) / 1)))) rfl ?_
              refine mz_go 23 (c' := (228, [some (.ref 65), some (.int 1), some (.int 10), some (.int t3), some (.int t4)], [.int 1600, .int (-1600), .int t3, .ref 65], mz_up (mz_up (mz_up (mz_up (mz_z m) 65 6 t1) 65 7 t2) 65 6 (t1 - (((t1 * 10) / 100) / 1))) 65 7 (t2 - (((t2 * 10) / 100) / 1)))) rfl ?_
              refine mz_do (R := mz_r130) (as := [.int t3, .int (-1600), .int 1600]) (rest := [.ref 65]) (r1 := some (.int 1600)) (m1 := mz_up (mz_up (mz_up (mz_up (mz_z m) 65 6 t1) 65 7 t2) 65 6 (t1 - (((t1 * 10) / 100) / 1))) 65 7 (t2 - (((t2 * 10) / 100) / 1))) rfl ⟨?_, rfl⟩ ?_
              · refine mz_go 3 (c' := (if (-1600) ≤ t3 then 9 else 5, [some (.int t3), some (.int (-1600)), some (.int 1600)], [], mz_up (mz_up (mz_up (mz_up (mz_z m) 65 6 t1) 65 7 t2) 65 6 (t1 - (((t1 * 10) / 100) / 1))) 65 7 (t2 - (((t2 * 10) / 100) / 1)))) rfl ?_
                refine mz_ifT h1 ?_
                refine mz_go 3 (c' := (if t3 ≤ 1600 then 18 else 14, [some (.int t3), some (.int (-1600)), some (.int 1600)], [], mz_up (mz_up (mz_up (mz_up (mz_z m) 65 6 t1) 65 7 t2) 65 6 (t1 - (((t1 * 10) / 100) / 1))) 65 7 (t2 - (((t2 * 10) / 100) / 1)))) rfl ?_
                refine mz_ifF h2 ?_
                refine mz_go 2 (c' := (19, [some (.int t3), some (.int (-1600)), some (.int 1600)], [.int 1600], mz_up (mz_up (mz_up (mz_up (mz_z m) 65 6 t1) 65 7 t2) 65 6 (t1 - (((t1 * 10) / 100) / 1))) 65 7 (t2 - (((t2 * 10) / 100) / 1)))) rfl ?_
                exact mz_ret rfl
              refine mz_go 5 (c' := (243, [some (.ref 65), some (.int 1), some (.int 10), some (.int t3), some (.int t4)], [.int 1600, .int (-1600), .int t4, .ref 65], mz_up (mz_up (mz_up (mz_up (mz_up (mz_z m) 65 6 t1) 65 7 t2) 65 6 (t1 - (((t1 * 10) / 100) / 1))) 65 7 (t2 - (((t2 * 10) / 100) / 1))) 65 4 1600)) rfl ?_
              refine mz_do (R := mz_r130) (as := [.int t4, .int (-1600), .int 1600]) (rest := [.ref 65]) (r1 := some (.int (-1600))) (m1 := mz_up (mz_up (mz_up (mz_up (mz_up (mz_z m) 65 6 t1) 65 7 t2) 65 6 (t1 - (((t1 * 10) / 100) / 1))) 65 7 (t2 - (((t2 * 10) / 100) / 1))) 65 4 1600) rfl ⟨?_, rfl⟩ ?_
              · refine mz_go 3 (c' := (if (-1600) ≤ t4 then 9 else 5, [some (.int t4), some (.int (-1600)), some (.int 1600)], [], mz_up (mz_up (mz_up (mz_up (mz_up (mz_z m) 65 6 t1) 65 7 t2) 65 6 (t1 - (((t1 * 10) / 100) / 1))) 65 7 (t2 - (((t2 * 10) / 100) / 1))) 65 4 1600)) rfl ?_
                refine mz_ifF h14 ?_
                refine mz_go 2 (c' := (19, [some (.int t4), some (.int (-1600)), some (.int 1600)], [.int (-1600)], mz_up (mz_up (mz_up (mz_up (mz_up (mz_z m) 65 6 t1) 65 7 t2) 65 6 (t1 - (((t1 * 10) / 100) / 1))) 65 7 (t2 - (((t2 * 10) / 100) / 1))) 65 4 1600)) rfl ?_
                exact mz_ret rfl
              refine mz_go 6 (c' := (if 1600 = t3 then 258 else 265, [some (.ref 65), some (.int 1), some (.int 10), some (.int t3), some (.int t4)], [.ref 65], mz_up (mz_up (mz_up (mz_up (mz_up (mz_up (mz_z m) 65 6 t1) 65 7 t2) 65 6 (t1 - (((t1 * 10) / 100) / 1))) 65 7 (t2 - (((t2 * 10) / 100) / 1))) 65 4 1600) 65 5 (-1600))) rfl ?_
              refine mz_ifT h22 ?_
              refine mz_go 9 (c' := (if (-1600) = t4 then 279 else 286, [some (.ref 65), some (.int 1), some (.int 10), some (.int t3), some (.int t4)], [.ref 65], mz_up (mz_up (mz_up (mz_up (mz_up (mz_up (mz_up (mz_z m) 65 6 t1) 65 7 t2) 65 6 (t1 - (((t1 * 10) / 100) / 1))) 65 7 (t2 - (((t2 * 10) / 100) / 1))) 65 4 1600) 65 5 (-1600)) 65 6 (t1 - (((t1 * 10) / 100) / 1)))) rfl ?_
              refine mz_ifF h23 ?_
              refine mz_go 8 (c' := (300, [some (.ref 65), some (.int 1), some (.int 10), some (.int t3), some (.int t4)], [], mz_up (mz_up (mz_up (mz_up (mz_up (mz_up (mz_up (mz_up (mz_up (mz_z m) 65 6 t1) 65 7 t2) 65 6 (t1 - (((t1 * 10) / 100) / 1))) 65 7 (t2 - (((t2 * 10) / 100) / 1))) 65 4 1600) 65 5 (-1600)) 65 6 (t1 - (((t1 * 10) / 100) / 1))) 65 7 0) 65 8 (((mz_z m) 65 8) + 1))) rfl ?_
              exact mz_ret rfl
        · by_cases h24 : (-1600) = t4
          · refine ⟨mz_up (mz_up (mz_up (mz_up (mz_up (mz_up (mz_up (mz_up (mz_up (mz_z m) 65 6 t1) 65 7 t2) 65 6 (t1 - (((t1 * 10) / 100) / 1))) 65 7 (t2 - (((t2 * 10) / 100) / 1))) 65 4 1600) 65 5 (-1600)) 65 6 0) 65 7 (t2 - (((t2 * 10) / 100) / 1))) 65 8 (((mz_z m) 65 8) + 1), fun i hi => by simp only [mz_up_ne hi], rfl, ⟨?_, rfl⟩⟩
            · refine mz_go 24 (c' := (123, [some (.ref 65), some (.int 1), some (.int 0), none, none], [], mz_up (mz_z m) 65 6 t1)) rfl ?_
              refine mz_go 17 (c' := (151, [some (.ref 65), some (.int 1), some (.int 0), none, none], [.ref 65], mz_up (mz_up (mz_z m) 65 6 t1) 65 7 t2)) rfl ?_
              refine mz_do (R := mz_r151) (as := [.ref 65]) (rest := []) (r1 := some (.int 10)) (m1 := mz_up (mz_up (mz_z m) 65 6 t1) 65 7 t2) rfl ⟨?_, rfl⟩ ?_
              · refine mz_go 2 (c' := (2, [some (.ref 65), none], [.int 1, .ref 65], mz_up (mz_up (mz_z m) 65 6 t1) 65 7 t2)) rfl ?_
                refine mz_do (R := mz_r169) (as := [.ref 65, .int 1]) (rest := []) (r1 := some (.int 0)) (m1 := mz_up (mz_up (mz_z m) 65 6 t1) 65 7 t2) rfl ⟨?_, rfl⟩ ?_
                · refine mz_go 10 (c' := (21, [some (.ref 65), some (.int 1)], [.int 0], mz_up (mz_up (mz_z m) 65 6 t1) 65 7 t2)) rfl ?_
                  exact mz_ret rfl
                refine mz_go 5 (c' := (15, [some (.ref 65), none], [.int 10], mz_up (mz_up (mz_z m) 65 6 t1) 65 7 t2)) rfl ?_
                exact mz_ret rfl
              refine mz_go 24 (c' := (190, [some (.ref 65), some (.int 1), some (.int 10), none, none], [.int 1, .int ((t2 * 10) / 100), .int t2, .ref 65], mz_up (mz_up (mz_up (mz_z m) 65 6 t1) 65 7 t2) 65 6 (t1 - (((t1 * 10) / 100) / 1)))) rfl ?_
              refine mz_go 23 (c' := (228, [some (.ref 65), some (.int 1), some (.int 10), some (.int t3), some (.int t4)], [.int 1600, .int (-1600), .int t3, .ref 65], mz_up (mz_up (mz_up (mz_up (mz_z m) 65 6 t1) 65 7 t2) 65 6 (t1 - (((t1 * 10) / 100) / 1))) 65 7 (t2 - (((t2 * 10) / 100) / 1)))) rfl ?_
              refine mz_do (R := mz_r130) (as := [.int t3, .int (-1600), .int 1600]) (rest := [.ref 65]) (r1 := some (.int 1600)) (m1 := mz_up (mz_up (mz_up (mz_up (mz_z m) 65 6 t1) 65 7 t2) 65 6 (t1 - (((t1 * 10) / 100) / 1))) 65 7 (t2 - (((t2 * 10) / 100) / 1))) rfl ⟨?_, rfl⟩ ?_
              · refine mz_go 3 (c' := (if (-1600) ≤ t3 then 9 else 5, [some (.int t3), some (.int (-1600)), some (.int 1600)], [], mz_up (mz_up (mz_up (mz_up (mz_z m) 65 6 t1) 65 7 t2) 65 6 (t1 - (((t1 * 10) / 100) / 1))) 65 7 (t2 - (((t2 * 10) / 100) / 1)))) rfl ?_
                refine mz_ifT h1 ?_
                refine mz_go 3 (c' := (if t3 ≤ 1600 then 18 else 14, [some (.int t3), some (.int (-1600)), some (.int 1600)], [], mz_up (mz_up (mz_up (mz_up (mz_z m) 65 6 t1) 65 7 t2) 65 6 (t1 - (((t1 * 10) / 100) / 1))) 65 7 (t2 - (((t2 * 10) / 100) / 1)))) rfl ?_
                refine mz_ifF h2 ?_
                refine mz_go 2 (c' := (19, [some (.int t3), some (.int (-1600)), some (.int 1600)], [.int 1600], mz_up (mz_up (mz_up (mz_up (mz_z m) 65 6 t1) 65 7 t2) 65 6 (t1 - (((t1 * 10) / 100) / 1))) 65 7 (t2 - (((t2 * 10) / 100) / 1)))) rfl ?_
                exact mz_ret rfl
              refine mz_go 5 (c' := (243, [some (.ref 65), some (.int 1), some (.int 10), some (.int t3), some (.int t4)], [.int 1600, .int (-1600), .int t4, .ref 65], mz_up (mz_up (mz_up (mz_up (mz_up (mz_z m) 65 6 t1) 65 7 t2) 65 6 (t1 - (((t1 * 10) / 100) / 1))) 65 7 (t2 - (((t2 * 10) / 100) / 1))) 65 4 1600)) rfl ?_
              refine mz_do (R := mz_r130) (as := [.int t4, .int (-1600), .int 1600]) (rest := [.ref 65]) (r1 := some (.int (-1600))) (m1 := mz_up (mz_up (mz_up (mz_up (mz_up (mz_z m) 65 6 t1) 65 7 t2) 65 6 (t1 - (((t1 * 10) / 100) / 1))) 65 7 (t2 - (((t2 * 10) / 100) / 1))) 65 4 1600) rfl ⟨?_, rfl⟩ ?_
              · refine mz_go 3 (c' := (if (-1600) ≤ t4 then 9 else 5, [some (.int t4), some (.int (-1600)), some (.int 1600)], [], mz_up (mz_up (mz_up (mz_up (mz_up (mz_z m) 65 6 t1) 65 7 t2) 65 6 (t1 - (((t1 * 10) / 100) / 1))) 65 7 (t2 - (((t2 * 10) / 100) / 1))) 65 4 1600)) rfl ?_
                refine mz_ifF h14 ?_
                refine mz_go 2 (c' := (19, [some (.int t4), some (.int (-1600)), some (.int 1600)], [.int (-1600)], mz_up (mz_up (mz_up (mz_up (mz_up (mz_z m) 65 6 t1) 65 7 t2) 65 6 (t1 - (((t1 * 10) / 100) / 1))) 65 7 (t2 - (((t2 * 10) / 100) / 1))) 65 4 1600)) rfl ?_
                exact mz_ret rfl
              refine mz_go 6 (c' := (if 1600 = t3 then 258 else 265, [some (.ref 65), some (.int 1), some (.int 10), some (.int t3), some (.int t4)], [.ref 65], mz_up (mz_up (mz_up (mz_up (mz_up (mz_up (mz_z m) 65 6 t1) 65 7 t2) 65 6 (t1 - (((t1 * 10) / 100) / 1))) 65 7 (t2 - (((t2 * 10) / 100) / 1))) 65 4 1600) 65 5 (-1600))) rfl ?_
              refine mz_ifF h22 ?_
              refine mz_go 7 (c' := (if (-1600) = t4 then 279 else 286, [some (.ref 65), some (.int 1), some (.int 10), some (.int t3), some (.int t4)], [.ref 65], mz_up (mz_up (mz_up (mz_up (mz_up (mz_up (mz_up (mz_z m) 65 6 t1) 65 7 t2) 65 6 (t1 - (((t1 * 10) / 100) / 1))) 65 7 (t2 - (((t2 * 10) / 100) / 1))) 65 4 1600) 65 5 (-1600)) 65 6 0)) rfl ?_
              refine mz_ifT h24 ?_
              refine mz_go 10 (c' := (300, [some (.ref 65), some (.int 1), some (.int 10), some (.int t3), some (.int t4)], [], mz_up (mz_up (mz_up (mz_up (mz_up (mz_up (mz_up (mz_up (mz_up (mz_z m) 65 6 t1) 65 7 t2) 65 6 (t1 - (((t1 * 10) / 100) / 1))) 65 7 (t2 - (((t2 * 10) / 100) / 1))) 65 4 1600) 65 5 (-1600)) 65 6 0) 65 7 (t2 - (((t2 * 10) / 100) / 1))) 65 8 (((mz_z m) 65 8) + 1))) rfl ?_
              exact mz_ret rfl
          · refine ⟨mz_up (mz_up (mz_up (mz_up (mz_up (mz_up (mz_up (mz_up (mz_up (mz_z m) 65 6 t1) 65 7 t2) 65 6 (t1 - (((t1 * 10) / 100) / 1))) 65 7 (t2 - (((t2 * 10) / 100) / 1))) 65 4 1600) 65 5 (-1600)) 65 6 0) 65 7 0) 65 8 (((mz_z m) 65 8) + 1), fun i hi => by simp only [mz_up_ne hi], rfl, ⟨?_, rfl⟩⟩
            · refine mz_go 24 (c' := (123, [some (.ref 65), some (.int 1), some (.int 0), none, none], [], mz_up (mz_z m) 65 6 t1)) rfl ?_
              refine mz_go 17 (c' := (151, [some (.ref 65), some (.int 1), some (.int 0), none, none], [.ref 65], mz_up (mz_up (mz_z m) 65 6 t1) 65 7 t2)) rfl ?_
              refine mz_do (R := mz_r151) (as := [.ref 65]) (rest := []) (r1 := some (.int 10)) (m1 := mz_up (mz_up (mz_z m) 65 6 t1) 65 7 t2) rfl ⟨?_, rfl⟩ ?_
              · refine mz_go 2 (c' := (2, [some (.ref 65), none], [.int 1, .ref 65], mz_up (mz_up (mz_z m) 65 6 t1) 65 7 t2)) rfl ?_
                refine mz_do (R := mz_r169) (as := [.ref 65, .int 1]) (rest := []) (r1 := some (.int 0)) (m1 := mz_up (mz_up (mz_z m) 65 6 t1) 65 7 t2) rfl ⟨?_, rfl⟩ ?_
                · refine mz_go 10 (c' := (21, [some (.ref 65), some (.int 1)], [.int 0], mz_up (mz_up (mz_z m) 65 6 t1) 65 7 t2)) rfl ?_
                  exact mz_ret rfl
                refine mz_go 5 (c' := (15, [some (.ref 65), none], [.int 10], mz_up (mz_up (mz_z m) 65 6 t1) 65 7 t2)) rfl ?_
                exact mz_ret rfl
              refine mz_go 24 (c' := (190, [some (.ref 65), some (.int 1), some (.int 10), none, none], [.int 1, .int ((t2 * 10) / 100), .int t2, .ref 65], mz_up (mz_up (mz_up (mz_z m) 65 6 t1) 65 7 t2) 65 6 (t1 - (((t1 * 10) / 100) / 1)))) rfl ?_
              refine mz_go 23 (c' := (228, [some (.ref 65), some (.int 1), some (.int 10), some (.int t3), some (.int t4)], [.int 1600, .int (-1600), .int t3, .ref 65], mz_up (mz_up (mz_up (mz_up (mz_z m) 65 6 t1) 65 7 t2) 65 6 (t1 - (((t1 * 10) / 100) / 1))) 65 7 (t2 - (((t2 * 10) / 100) / 1)))) rfl ?_
              refine mz_do (R := mz_r130) (as := [.int t3, .int (-1600), .int 1600]) (rest := [.ref 65]) (r1 := some (.int 1600)) (m1 := mz_up (mz_up (mz_up (mz_up (mz_z m) 65 6 t1) 65 7 t2) 65 6 (t1 - (((t1 * 10) / 100) / 1))) 65 7 (t2 - (((t2 * 10) / 100) / 1))) rfl ⟨?_, rfl⟩ ?_
              · refine mz_go 3 (c' := (if (-1600) ≤ t3 then 9 else 5, [some (.int t3), some (.int (-1600)), some (.int 1600)], [], mz_up (mz_up (mz_up (mz_up (mz_z m) 65 6 t1) 65 7 t2) 65 6 (t1 - (((t1 * 10) / 100) / 1))) 65 7 (t2 - (((t2 * 10) / 100) / 1)))) rfl ?_
                refine mz_ifT h1 ?_
                refine mz_go 3 (c' := (if t3 ≤ 1600 then 18 else 14, [some (.int t3), some (.int (-1600)), some (.int 1600)], [], mz_up (mz_up (mz_up (mz_up (mz_z m) 65 6 t1) 65 7 t2) 65 6 (t1 - (((t1 * 10) / 100) / 1))) 65 7 (t2 - (((t2 * 10) / 100) / 1)))) rfl ?_
                refine mz_ifF h2 ?_
                refine mz_go 2 (c' := (19, [some (.int t3), some (.int (-1600)), some (.int 1600)], [.int 1600], mz_up (mz_up (mz_up (mz_up (mz_z m) 65 6 t1) 65 7 t2) 65 6 (t1 - (((t1 * 10) / 100) / 1))) 65 7 (t2 - (((t2 * 10) / 100) / 1)))) rfl ?_
                exact mz_ret rfl
              refine mz_go 5 (c' := (243, [some (.ref 65), some (.int 1), some (.int 10), some (.int t3), some (.int t4)], [.int 1600, .int (-1600), .int t4, .ref 65], mz_up (mz_up (mz_up (mz_up (mz_up (mz_z m) 65 6 t1) 65 7 t2) 65 6 (t1 - (((t1 * 10) / 100) / 1))) 65 7 (t2 - (((t2 * 10) / 100) / 1))) 65 4 1600)) rfl ?_
              refine mz_do (R := mz_r130) (as := [.int t4, .int (-1600), .int 1600]) (rest := [.ref 65]) (r1 := some (.int (-1600))) (m1 := mz_up (mz_up (mz_up (mz_up (mz_up (mz_z m) 65 6 t1) 65 7 t2) 65 6 (t1 - (((t1 * 10) / 100) / 1))) 65 7 (t2 - (((t2 * 10) / 100) / 1))) 65 4 1600) rfl ⟨?_, rfl⟩ ?_
              · refine mz_go 3 (c' := (if (-1600) ≤ t4 then 9 else 5, [some (.int t4), some (.int (-1600)), some (.int 1600)], [], mz_up (mz_up (mz_up (mz_up (mz_up (mz_z m) 65 6 t1) 65 7 t2) 65 6 (t1 - (((t1 * 10) / 100) / 1))) 65 7 (t2 - (((t2 * 10) / 100) / 1))) 65 4 1600)) rfl ?_
                refine mz_ifF h14 ?_
                refine mz_go 2 (c' := (19, [some (.int t4), some (.int (-1600)), some (.int 1600)], [.int (-1600)], mz_up (mz_up (mz_up (mz_up (mz_up (mz_z m) 65 6 t1) 65 7 t2) 65 6 (t1 - (((t1 * 10) / 100) / 1))) 65 7 (t2 - (((t2 * 10) / 100) / 1))) 65 4 1600)) rfl ?_
                exact mz_ret rfl
              refine mz_go 6 (c' := (if 1600 = t3 then 258 else 265, [some (.ref 65), some (.int 1), some (.int 10), some (.int t3), some (.int t4)], [.ref 65], mz_up (mz_up (mz_up (mz_up (mz_up (mz_up (mz_z m) 65 6 t1) 65 7 t2) 65 6 (t1 - (((t1 * 10) / 100) / 1))) 65 7 (t2 - (((t2 * 10) / 100) / 1))) 65 4 1600) 65 5 (-1600))) rfl ?_
              refine mz_ifF h22 ?_
              refine mz_go 7 (c' := (if (-1600) = t4 then 279 else 286, [some (.ref 65), some (.int 1), some (.int 10), some (.int t3), some (.int t4)], [.ref 65], mz_up (mz_up (mz_up (mz_up (mz_up (mz_up (mz_up (mz_z m) 65 6 t1) 65 7 t2) 65 6 (t1 - (((t1 * 10) / 100) / 1))) 65 7 (t2 - (((t2 * 10) / 100) / 1))) 65 4 1600) 65 5 (-1600)) 65 6 0)) rfl ?_
              refine mz_ifF h24 ?_
              refine mz_go 8 (c' := (300, [some (.ref 65), some (.int 1), some (.int 10), some (.int t3), some (.int t4)], [], mz_up (mz_up (mz_up (mz_up (mz_up (mz_up (mz_up (mz_up (mz_up (mz_z m) 65 6 t1) 65 7 t2) 65 6 (t1 - (((t1 * 10) / 100) / 1))) 65 7 (t2 - (((t2 * 10) / 100) / 1))) 65 4 1600) 65 5 (-1600)) 65 6 0) 65 7 0) 65 8 (((mz_z m) 65 8) + 1))) rfl ?_
              exact mz_ret rfl
  · by_cases h25 : (-1600) ≤ t4
    · by_cases h26 : t4 ≤ 1600
      · by_cases h27 : (-1600) = t3
        · by_cases h28 : t4 = t4
          · refine ⟨mz_up (mz_up (mz_up (mz_up (mz_up (mz_up (mz_up (mz_up (mz_up (mz_z m) 65 6 t1) 65 7 t2) 65 6 (t1 - (((t1 * 10) / 100) / 1))) 65 7 (t2 - (((t2 * 10) / 100) / 1))) 65 4 (-1600)) 65 5 t4) 65 6 (t1 - (((t1 * 10) / 100) / 1))) 65 7 (t2 - (((t2 * 10) / 100) / 1))) 65 8 (((mz_z m) 65 8) + 1), fun i hi => by simp only [mz_up_ne hi], rfl, ⟨?_, rfl⟩⟩
            · refine mz_go 24 (c' := (123, [some (.ref 65), some (.int 1), some (.int 0), none, none], [], mz_up (mz_z m) 65 6 t1)) rfl ?_
              refine mz_go 17 (c' := (151, [some (.ref 65), some (.int 1), some (.int 0), none, none], [.ref 65], mz_up (mz_up (mz_z m) 65 6 t1) 65 7 t2)) rfl ?_
              refine mz_do (R := mz_r151) (as := [.ref 65]) (rest := []) (r1 := some (.int 10)) (m1 := mz_up (mz_up (mz_z m) 65 6 t1) 65 7 t2) rfl ⟨?_, rfl⟩ ?_
              · refine mz_go 2 (c' := (2, [some (.ref 65), none], [.int 1, .ref 65], mz_up (mz_up (mz_z m) 65 6 t1) 65 7 t2)) rfl ?_
                refine mz_do (R := mz_r169) (as := [.ref 65, .int 1]) (rest := []) (r1 := some (.int 0)) (m1 := mz_up (mz_up (mz_z m) 65 6 t1) 65 7 t2) rfl ⟨?_, rfl⟩ ?_
                · refine mz_go 10 (c' := (21, [some (.ref 65), some (.int 1)], [.int 0], mz_up (mz_up (mz_z m) 65 6 t1) 65 7 t2)) rfl ?_
                  exact mz_ret rfl
                refine mz_go 5 (c' := (15, [some (.ref 65), none], [.int 10], mz_up (mz_up (mz_z m) 65 6 t1) 65 7 t2)) rfl ?_
                exact mz_ret rfl
              refine mz_go 24 (c' := (190, [some (.ref 65), some (.int 1), some (.int 10), none, none], [.int 1, .int ((t2 * 10) / 100), .int t2, .ref 65], mz_up (mz_up (mz_up (mz_z m) 65 6 t1) 65 7 t2) 65 6 (t1 - (((t1 * 10) / 100) / 1)))) rfl ?_
              refine mz_go 23 (c' := (228, [some (.ref 65), some (.int 1), some (.int 10), some (.int t3), some (.int t4)], [.int 1600, .int (-1600), .int t3, .ref 65], mz_up (mz_up (mz_up (mz_up (mz_z m) 65 6 t1) 65 7 t2) 65 6 (t1 - (((t1 * 10) / 100) / 1))) 65 7 (t2 - (((t2 * 10) / 100) / 1)))) rfl ?_
              refine mz_do (R := mz_r130) (as := [.int t3, .int (-1600), .int 1600]) (rest := [.ref 65]) (r1 := some (.int (-1600))) (m1 := mz_up (mz_up (mz_up (mz_up (mz_z m) 65 6 t1) 65 7 t2) 65 6 (t1 - (((t1 * 10) / 100) / 1))) 65 7 (t2 - (((t2 * 10) / 100) / 1))) rfl ⟨?_, rfl⟩ ?_
              · refine mz_go 3 (c' := (if (-1600) ≤ t3 then 9 else 5, [some (.int t3), some (.int (-1600)), some (.int 1600)], [], mz_up (mz_up (mz_up (mz_up (mz_z m) 65 6 t1) 65 7 t2) 65 6 (t1 - (((t1 * 10) / 100) / 1))) 65 7 (t2 - (((t2 * 10) / 100) / 1)))) rfl ?_
                refine mz_ifF h1 ?_
                refine mz_go 2 (c' := (19, [some (.int t3), some (.int (-1600)), some (.int 1600)], [.int (-1600)], mz_up (mz_up (mz_up (mz_up (mz_z m) 65 6 t1) 65 7 t2) 65 6 (t1 - (((t1 * 10) / 100) / 1))) 65 7 (t2 - (((t2 * 10) / 100) / 1)))) rfl ?_
                exact mz_ret rfl
              refine mz_go 5 (c' := (243, [some (.ref 65), some (.int 1), some (.int 10), some (.int t3), some (.int t4)], [.int 1600, .int (-1600), .int t4, .ref 65], mz_up (mz_up (mz_up (mz_up (mz_up (mz_z m) 65 6 t1) 65 7 t2) 65 6 (t1 - (((t1 * 10) / 100) / 1))) 65 7 (t2 - (((t2 * 10) / 100) / 1))) 65 4 (-1600))) rfl ?_
              refine mz_do (R := mz_r130) (as := [.int t4, .int (-1600), .int 1600]) (rest := [.ref 65]) (r1 := some (.int t4)) (m1 := mz_up (mz_up (mz_up (mz_up (mz_up (mz_z m) 65 6 t1) 65 7 t2) 65 6 (t1 - (((t1 * 10) / 100) / 1))) 65 7 (t2 - (((t2 * 10) / 100) / 1))) 65 4 (-1600)) rfl ⟨?_, rfl⟩ ?_
              · refine mz_go 3 (c' := (if (-1600) ≤ t4 then 9 else 5, [some (.int t4), some (.int (-1600)), some (.int 1600)], [], mz_up (mz_up (mz_up (mz_up (mz_up (mz_z m) 65 6 t1) 65 7 t2) 65 6 (t1 - (((t1 * 10) / 100) / 1))) 65 7 (t2 - (((t2 * 10) / 100) / 1))) 65 4 (-1600))) rfl ?_
                refine mz_ifT h25 ?_
                refine mz_go 3 (c' := (if t4 ≤ 1600 then 18 else 14, [some (.int t4), some (.int (-1600)), some (.int 1600)], [], mz_up (mz_up (mz_up (mz_up (mz_up (mz_z m) 65 6 t1) 65 7 t2) 65 6 (t1 - (((t1 * 10) / 100) / 1))) 65 7 (t2 - (((t2 * 10) / 100) / 1))) 65 4 (-1600))) rfl ?_
                refine mz_ifT h26 ?_
                refine mz_go 1 (c' := (19, [some (.int t4), some (.int (-1600)), some (.int 1600)], [.int t4], mz_up (mz_up (mz_up (mz_up (mz_up (mz_z m) 65 6 t1) 65 7 t2) 65 6 (t1 - (((t1 * 10) / 100) / 1))) 65 7 (t2 - (((t2 * 10) / 100) / 1))) 65 4 (-1600))) rfl ?_
                exact mz_ret rfl
              refine mz_go 6 (c' := (if (-1600) = t3 then 258 else 265, [some (.ref 65), some (.int 1), some (.int 10), some (.int t3), some (.int t4)], [.ref 65], mz_up (mz_up (mz_up (mz_up (mz_up (mz_up (mz_z m) 65 6 t1) 65 7 t2) 65 6 (t1 - (((t1 * 10) / 100) / 1))) 65 7 (t2 - (((t2 * 10) / 100) / 1))) 65 4 (-1600)) 65 5 t4)) rfl ?_
              refine mz_ifT h27 ?_
              refine mz_go 9 (c' := (if t4 = t4 then 279 else 286, [some (.ref 65), some (.int 1), some (.int 10), some (.int t3), some (.int t4)], [.ref 65], mz_up (mz_up (mz_up (mz_up (mz_up (mz_up (mz_up (mz_z m) 65 6 t1) 65 7 t2) 65 6 (t1 - (((t1 * 10) / 100) / 1))) 65 7 (t2 - (((t2 * 10) / 100) / 1))) 65 4 (-1600)) 65 5 t4) 65 6 (t1 - (((t1 * 10) / 100) / 1)))) rfl ?_
              refine mz_ifT h28 ?_
              refine mz_go 10 (c' := (300, [some (.ref 65), some (.int 1), some (.int 10), some (.int t3), some (.int t4)], [], mz_up (mz_up (mz_up (mz_up (mz_up (mz_up (mz_up (mz_up (mz_up (mz_z m) 65 6 t1) 65 7 t2) 65 6 (t1 - (((t1 * 10) / 100) / 1))) 65 7 (t2 - (((t2 * 10) / 100) / 1))) 65 4 (-1600)) 65 5 t4) 65 6 (t1 - (((t1 * 10) / 100) / 1))) 65 7 (t2 - (((t2 * 10) / 100) / 1))) 65 8 (((mz_z m) 65 8) + 1))) rfl ?_
              exact mz_ret rfl
          · refine ⟨mz_up (mz_up (mz_up (mz_up (mz_up (mz_up (mz_up (mz_up (mz_up (mz_z m) 65 6 t1) 65 7 t2) 65 6 (t1 - (((t1 * 10) / 100) / 1))) 65 7 (t2 - (((t2 * 10) / 100) / 1))) 65 4 (-1600)) 65 5 t4) 65 6 (t1 - (((t1 * 10) / 100) / 1))) 65 7 0) 65 8 (((mz_z m) 65 8) + 1), fun i hi => by simp only [mz_up_ne hi], rfl, ⟨?_, rfl⟩⟩
            · refine mz_go 24 (c' := (123, [some (.ref 65), some (.int 1), some (.int 0), none, none], [], mz_up (mz_z m) 65 6 t1)) rfl ?_
              refine mz_go 17 (c' := (151, [some (.ref 65), some (.int 1), some (.int 0), none, none], [.ref 65], mz_up (mz_up (mz_z m) 65 6 t1) 65 7 t2)) rfl ?_
              refine mz_do (R := mz_r151) (as := [.ref 65]) (rest := []) (r1 := some (.int 10)) (m1 := mz_up (mz_up (mz_z m) 65 6 t1) 65 7 t2) rfl ⟨?_, rfl⟩ ?_
              · refine mz_go 2 (c' := (2, [some (.ref 65), none], [.int 1, .ref 65], mz_up (mz_up (mz_z m) 65 6 t1) 65 7 t2)) rfl ?_
                refine mz_do (R := mz_r169) (as := [.ref 65, .int 1]) (rest := []) (r1 := some (.int 0)) (m1 := mz_up (mz_up (mz_z m) 65 6 t1) 65 7 t2) rfl ⟨?_, rfl⟩ ?_
                · refine mz_go 10 (c' := (21, [some (.ref 65), some (.int 1)], [.int 0], mz_up (mz_up (mz_z m) 65 6 t1) 65 7 t2)) rfl ?_
                  exact mz_ret rfl
                refine mz_go 5 (c' := (15, [some (.ref 65), none], [.int 10], mz_up (mz_up (mz_z m) 65 6 t1) 65 7 t2)) rfl ?_
                exact mz_ret rfl
              refine mz_go 24 (c' := (190, [some (.ref 65), some (.int 1), some (.int 10), none, none], [.int 1, .int ((t2 * 10) / 100), .int t2, .ref 65], mz_up (mz_up (mz_up (mz_z m) 65 6 t1) 65 7 t2) 65 6 (t1 - (((t1 * 10) / 100) / 1)))) rfl ?_
              refine mz_go 23 (c' := (228, [some (.ref 65), some (.int 1), some (.int 10), some (.int t3), some (.int t4)], [.int 1600, .int (-1600), .int t3, .ref 65], mz_up (mz_up (mz_up (mz_up (mz_z m) 65 6 t1) 65 7 t2) 65 6 (t1 - (((t1 * 10) / 100) / 1))) 65 7 (t2 - (((t2 * 10) / 100) / 1)))) rfl ?_
              refine mz_do (R := mz_r130) (as := [.int t3, .int (-1600), .int 1600]) (rest := [.ref 65]) (r1 := some (.int (-1600))) (m1 := mz_up (mz_up (mz_up (mz_up (mz_z m) 65 6 t1) 65 7 t2) 65 6 (t1 - (((t1 * 10) / 100) / 1))) 65 7 (t2 - (((t2 * 10) / 100) / 1))) rfl ⟨?_, rfl⟩ ?_
              · refine mz_go 3 (c' := (if (-1600) ≤ t3 then 9 else 5, [some (.int t3), some (.int (-1600)), some (.int 1600)], [], mz_up (mz_up (mz_up (mz_up (mz_z m) 65 6 t1) 65 7 t2) 65 6 (t1 - (((t1 * 10) / 100) / 1))) 65 7 (t2 - (((t2 * 10) / 100) / 1)))) rfl ?_
                refine mz_ifF h1 ?_
                refine mz_go 2 (c' := (19, [some (.int t3), some (.int (-1600)), some (.int 1600)], [.int (-1600)], mz_up (mz_up (mz_up (mz_up (mz_z m) 65 6 t1) 65 7 t2) 65 6 (t1 - (((t1 * 10) / 100) / 1))) 65 7 (t2 - (((t2 * 10) / 100) / 1)))) rfl ?_
                exact mz_ret rfl
              refine mz_go 5 (c' := (243, [some (.ref 65), some (.int 1), some (.int 10), some (.int t3), some (.int t4)], [.int 1600, .int (-1600), .int t4, .ref 65], mz_up (mz_up (mz_up (mz_up (mz_up (mz_z m) 65 6 t1) 65 7 t2) 65 6 (t1 - (((t1 * 10) / 100) / 1))) 65 7 (t2 - (((t2 * 10) / 100) / 1))) 65 4 (-1600))) rfl ?_
              refine mz_do (R := mz_r130) (as := [.int t4, .int (-1600), .int 1600]) (rest := [.ref 65]) (r1 := some (.int t4)) (m1 := mz_up (mz_up (mz_up (mz_up (mz_up (mz_z m) 65 6 t1) 65 7 t2) 65 6 (t1 - (((t1 * 10) / 100) / 1))) 65 7 (t2 - (((t2 * 10) / 100) / 1))) 65 4 (-1600)) rfl ⟨?_, rfl⟩ ?_
              · refine mz_go 3 (c' := (if (-1600) ≤ t4 then 9 else 5, [some (.int t4), some (.int (-1600)), some (.int 1600)], [], mz_up (mz_up (mz_up (mz_up (mz_up (mz_z m) 65 6 t1) 65 7 t2) 65 6 (t1 - (((t1 * 10) / 100) / 1))) 65 7 (t2 - (((t2 * 10) / 100) / 1))) 65 4 (-1600))) rfl ?_
                refine mz_ifT h25 ?_
                refine mz_go 3 (c' := (if t4 ≤ 1600 then 18 else 14, [some (.int t4), some (.int (-1600)), some (.int 1600)], [], mz_up (mz_up (mz_up (mz_up (mz_up (mz_z m) 65 6 t1) 65 7 t2) 65 6 (t1 - (((t1 * 10) / 100) / 1))) 65 7 (t2 - (((t2 * 10) / 100) / 1))) 65 4 (-1600))) rfl ?_
                refine mz_ifT h26 ?_
                refine mz_go 1 (c' := (19, [some (.int t4), some (.int (-1600)), some (.int 1600)], [.int t4], mz_up (mz_up (mz_up (mz_up (mz_up (mz_z m) 65 6 t1) 65 7 t2) 65 6 (t1 - (((t1 * 10) / 100) / 1))) 65 7 (t2 - (((t2 * 10) / 100) / 1))) 65 4 (-1600))) rfl ?_
                exact mz_ret rfl
              refine mz_go 6 (c' := (if (-1600) = t3 then 258 else 265, [some (.ref 65), some (.int 1), some (.int 10), some (.int t3), some (.int t4)], [.ref 65], mz_up (mz_up (mz_up (mz_up (mz_up (mz_up (mz_z m) 65 6 t1) 65 7 t2) 65 6 (t1 - (((t1 * 10) / 100) / 1))) 65 7 (t2 - (((t2 * 10) / 100) / 1))) 65 4 (-1600)) 65 5 t4)) rfl ?_
              refine mz_ifT h27 ?_
              refine mz_go 9 (c' := (if t4 = t4 then 279 else 286, [some (.ref 65), some (.int 1), some (.int 10), some (.int t3), some (.int t4)], [.ref 65], mz_up (mz_up (mz_up (mz_up (mz_up (mz_up (mz_up (mz_z m) 65 6 t1) 65 7 t2) 65 6 (t1 - (((t1 * 10) / 100) / 1))) 65 7 (t2 - (((t2 * 10) / 100) / 1))) 65 4 (-1600)) 65 5 t4) 65 6 (t1 - (((t1 * 10) / 100) / 1)))) rfl ?_
              refine mz_ifF h28 ?_
              refine mz_go 8 (c' := (300, [some (.ref 65), some (.int 1), some (.int 10), some (.int t3), some (.int t4)], [], mz_up (mz_up (mz_up (mz_up (mz_up (mz_up (mz_up (mz_up (mz_up (mz_z m) 65 6 t1) 65 7 t2) 65 6 (t1 - (((t1 * 10) / 100) / 1))) 65 7 (t2 - (((t2 * 10) / 100) / 1))) 65 4 (-1600)) 65 5 t4) 65 6 (t1 - (((t1 * 10) / 100) / 1))) 65 7 0) 65 8 (((mz_z m) 65 8) + 1))) rfl ?_
              exact mz_ret rfl
        · by_cases h29 : t4 = t4
          · refine ⟨mz_up (mz_up (mz_up (mz_up (mz_up (mz_up (mz_up (mz_up (mz_up (mz_z m) 65 6 t1) 65 7 t2) 65 6 (t1 - (((t1 * 10) / 100) / 1))) 65 7 (t2 - (((t2 * 10) / 100) / 1))) 65 4 (-1600)) 65 5 t4) 65 6 0) 65 7 (t2 - (((t2 * 10) / 100) / 1))) 65 8 (((mz_z m) 65 8) + 1), fun i hi => by simp only [mz_up_ne hi], rfl, ⟨?_, rfl⟩⟩
            · refine mz_go 24 (c' := (123, [some (.ref 65), some (.int 1), some (.int 0), none, none], [], mz_up (mz_z m) 65 6 t1)) rfl ?_
              refine mz_go 17 (c' := (151, [some (.ref 65), some (.int 1), some (.int 0), none, none], [.ref 65], mz_up (mz_up (mz_z m) 65 6 t1) 65 7 t2)) rfl ?_
              refine mz_do (R := mz_r151) (as := [.ref 65]) (rest := []) (r1 := some (.int 10)) (m1 := mz_up (mz_up (mz_z m) 65 6 t1) 65 7 t2) rfl ⟨?_, rfl⟩ ?_
              · refine mz_go 2 (c' := (2, [some (.ref 65), none], [.int 1, .ref 65], mz_up (mz_up (mz_z m) 65 6 t1) 65 7 t2)) rfl ?_
                refine mz_do (R := mz_r169) (as := [.ref 65, .int 1]) (rest := []) (r1 := some (.int 0)) (m1 := mz_up (mz_up (mz_z m) 65 6 t1) 65 7 t2) rfl ⟨?_, rfl⟩ ?_
                · refine mz_go 10 (c' := (21, [some (.ref 65), some (.int 1)], [.int 0], mz_up (mz_up (mz_z m) 65 6 t1) 65 7 t2)) rfl ?_
                  exact mz_ret rfl
                refine mz_go 5 (c' := (15, [some (.ref 65), none], [.int 10], mz_up (mz_up (mz_z m) 65 6 t1) 65 7 t2)) rfl ?_
                exact mz_ret rfl
              refine mz_go 24 (c' := (190, [some (.ref 65), some (.int 1), some (.int 10), none, none], [.int 1, .int ((t2 * 10) / 100), .int t2, .ref 65], mz_up (mz_up (mz_up (mz_z m) 65 6 t1) 65 7 t2) 65 6 (t1 - (((t1 * 10) / 100) / 1)))) rfl ?_
              refine mz_go 23 (c' := (228, [some (.ref 65), some (.int 1), some (.int 10), some (.int t3), some (.int t4)], [.int 1600, .int (-1600), .int t3, .ref 65], mz_up (mz_up (mz_up (mz_up (mz_z m) 65 6 t1) 65 7 t2) 65 6 (t1 - (((t1 * 10) / 100) / 1))) 65 7 (t2 - (((t2 * 10) / 100) / 1)))) rfl ?_
              refine mz_do (R := mz_r130) (as := [.int t3, .int (-1600), .int 1600]) (rest := [.ref 65]) (r1 := some (.int (-1600))) (m1 := mz_up (mz_up (mz_up (mz_up (mz_z m) 65 6 t1) 65 7 t2) 65 6 (t1 - (((t1 * 10) / 100) / 1))) 65 7 (t2 - (((t2 * 10) / 100) / 1))) rfl ⟨?_, rfl⟩ ?_
              · refine mz_go 3 (c' := (if (-1600) ≤ t3 then 9 else 5, [some (.int t3), some (.int (-1600)), some (.int 1600)], [], mz_up (mz_up (mz_up (mz_up (mz_z m) 65 6 t1) 65 7 t2) 65 6 (t1 - (((t1 * 10) / 100) / 1))) 65 7 (t2 - (((t2 * 10) / 100) / 1)))) rfl ?_
                refine mz_ifF h1 ?_
                refine mz_go 2 (c' := (19, [some (.int t3), some (.int (-1600)), some (.int 1600)], [.int (-1600)], mz_up (mz_up (mz_up (mz_up (mz_z m) 65 6 t1) 65 7 t2) 65 6 (t1 - (((t1 * 10) / 100) / 1))) 65 7 (t2 - (((t2 * 10) / 100) / 1)))) rfl ?_
                exact mz_ret rfl
              refine mz_go 5 (c' := (243, [some (.ref 65), some (.int 1), some (.int 10), some (.int t3), some (.int t4)], [.int 1600, .int (-1600), .int t4, .ref 65], mz_up (mz_up (mz_up (mz_up (mz_up (mz_z m) 65 6 t1) 65 7 t2) 65 6 (t1 - (((t1 * 10) / 100) / 1))) 65 7 (t2 - (((t2 * 10) / 100) / 1))) 65 4 (-1600))) rfl ?_
              refine mz_do (R := mz_r130) (as := [.int t4, .int (-1600), .int 1600]) (rest := [.ref 65]) (r1 := some (.int t4)) (m1 := mz_up (mz_up (mz_up (mz_up (mz_up (mz_z m) 65 6 t1) 65 7 t2) 65 6 (t1 - (((t1 * 10) / 100) / 1))) 65 7 (t2 - (((t2 * 10) / 100) / 1))) 65 4 (-1600)) rfl ⟨?_, rfl⟩ ?_
              · refine mz_go 3 (c' := (if (-1600) ≤ t4 then 9 else 5, [some (.int t4), some (.int (-1600)), some (.int 1600)], [], mz_up (mz_up (mz_up (mz_up (mz_up (mz_z m) 65 6 t1) 65 7 t2) 65 6 (t1 - (((t1 * 10) / 100) / 1))) 65 7 (t2 - (((t2 * 10) / 100) / 1))) 65 4 (-1600))) rfl ?_
                refine mz_ifT h25 ?_
                refine mz_go 3 (c' := (if t4 ≤ 1600 then 18 else 14, [some (.int t4), some (.int (-1600)), some (.int 1600)], [], mz_up (mz_up (mz_up (mz_up (mz_up (mz_z m) 65 6 t1) 65 7 t2) 65 6 (t1 - (((t1 * 10) / 100) / 1))) 65 7 (t2 - (((t2 * 10) / 100) / 1))) 65 4 (-1600))) rfl ?_
                refine mz_ifT h26 ?_
                refine mz_go 1 (c' := (19, [some (.int t4), some (.int (-1600)), some (.int 1600)], [.int t4], mz_up (mz_up (mz_up (mz_up (mz_up (mz_z m) 65 6 t1) 65 7 t2) 65 6 (t1 - (((t1 * 10) / 100) / 1))) 65 7 (t2 - (((t2 * 10) / 100) / 1))) 65 4 (-1600))) rfl ?_
                exact mz_ret rfl
              refine mz_go 6 (c' := (if (-1600) = t3 then 258 else 265, [some (.ref 65), some (.int 1), some (.int 10), some (.int t3), some (.int t4)], [.ref 65], mz_up (mz_up (mz_up (mz_up (mz_up (mz_up (mz_z m) 65 6 t1) 65 7 t2) 65 6 (t1 - (((t1 * 10) / 100) / 1))) 65 7 (t2 - (((t2 * 10) / 100) / 1))) 65 4 (-1600)) 65 5 t4)) rfl ?_
              refine mz_ifF h27 ?_
              refine mz_go 7 (c' := (if t4 = t4 then 279 else 286, [some (.ref 65), some (.int 1), some (.int 10), some (.int t3), some (.int t4)], [.ref 65], mz_up (mz_up (mz_up (mz_up (mz_up (mz_up (mz_up (mz_z m) 65 6 t1) 65 7 t2) 65 6 (t1 - (((t1 * 10) / 100) / 1))) 65 7 (t2 - (((t2 * 10) / 100) / 1))) 65 4 (-1600)) 65 5 t4) 65 6 0)) rfl ?_
              refine mz_ifT h29 ?_
              refine mz_go 10 (c' := (300, [some (.ref 65), some (.int 1), some (.int 10), some (.int t3), some (.int t4)], [], mz_up (mz_up (mz_up (mz_up (mz_up (mz_up (mz_up (mz_up (mz_up (mz_z m) 65 6 t1) 65 7 t2) 65 6 (t1 - (((t1 * 10) / 100) / 1))) 65 7 (t2 - (((t2 * 10) / 100) / 1))) 65 4 (-1600)) 65 5 t4) 65 6 0) 65 7 (t2 - (((t2 * 10) / 100) / 1))) 65 8 (((mz_z m) 65 8) + 1))) rfl ?_
              exact mz_ret rfl
          · refine ⟨mz_up (mz_up (mz_up (mz_up (mz_up (mz_up (mz_up (mz_up (mz_up (mz_z m) 65 6 t1) 65 7 t2) 65 6 (t1 - (((t1 * 10) / 100) / 1))) 65 7 (t2 - (((t2 * 10) / 100) / 1))) 65 4 (-1600)) 65 5 t4) 65 6 0) 65 7 0) 65 8 (((mz_z m) 65 8) + 1), fun i hi => by simp only [mz_up_ne hi], rfl, ⟨?_, rfl⟩⟩
            · refine mz_go 24 (c' := (123, [some (.ref 65), some (.int 1), some (.int 0), none, none], [], mz_up (mz_z m) 65 6 t1)) rfl ?_
              refine mz_go 17 (c' := (151, [some (.ref 65), some (.int 1), some (.int 0), none, none], [.ref 65], mz_up (mz_up (mz_z m) 65 6 t1) 65 7 t2)) rfl ?_
              refine mz_do (R := mz_r151) (as := [.ref 65]) (rest := []) (r1 := some (.int 10)) (m1 := mz_up (mz_up (mz_z m) 65 6 t1) 65 7 t2) rfl ⟨?_, rfl⟩ ?_
              · refine mz_go 2 (c' := (2, [some (.ref 65), none], [.int 1, .ref 65], mz_up (mz_up (mz_z m) 65 6 t1) 65 7 t2)) rfl ?_
                refine mz_do (R := mz_r169) (as := [.ref 65, .int 1]) (rest := []) (r1 := some (.int 0)) (m1 := mz_up (mz_up (mz_z m) 65 6 t1) 65 7 t2) rfl ⟨?_, rfl⟩ ?_
                · refine mz_go 10 (c' := (21, [some (.ref 65), some (.int 1)], [.int 0], mz_up (mz_up (mz_z m) 65 6 t1) 65 7 t2)) rfl ?_
                  exact mz_ret rfl
                refine mz_go 5 (c' := (15, [some (.ref 65), none], [.int 10], mz_up (mz_up (mz_z m) 65 6 t1) 65 7 t2)) rfl ?_
                exact mz_ret rfl
              refine mz_go 24 (c' := (190, [some (.ref 65), some (.int 1), some (.int 10), none, none], [.int 1, .int ((t2 * 10) / 100), .int t2, .ref 65], mz_up (mz_up (mz_up (mz_z m) 65 6 t1) 65 7 t2) 65 6 (t1 - (((t1 * 10) / 100) / 1)))) rfl ?_
              refine mz_go 23 (c' := (228, [some (.ref 65), some (.int 1), some (.int 10), some (.int t3), some (.int t4)], [.int 1600, .int (-1600), .int t3, .ref 65], mz_up (mz_up (mz_up (mz_up (mz_z m) 65 6 t1) 65 7 t2) 65 6 (t1 - (((t1 * 10) / 100) / 1))) 65 7 (t2 - (((t2 * 10) / 100) / 1)))) rfl ?_
              refine mz_do (R := mz_r130) (as := [.int t3, .int (-1600), .int 1600]) (rest := [.ref 65]) (r1 := some (.int (-1600))) (m1 := mz_up (mz_up (mz_up (mz_up (mz_z m) 65 6 t1) 65 7 t2) 65 6 (t1 - (((t1 * 10) / 100) / 1))) 65 7 (t2 - (((t2 * 10) / 100) / 1))) rfl ⟨?_, rfl⟩ ?_
              · refine mz_go 3 (c' := (if (-1600) ≤ t3 then 9 else 5, [some (.int t3), some (.int (-1600)), some (.int 1600)], [], mz_up (mz_up (mz_up (mz_up (mz_z m) 65 6 t1) 65 7 t2) 65 6 (t1 - (((t1 * 10) / 100) / 1))) 65 7 (t2 - (((t2 * 10) / 100) / 1)))) rfl ?_
                refine mz_ifF h1 ?_
                refine mz_go 2 (c' := (19, [some (.int t3), some (.int (-1600)), some (.int 1600)], [.int (-1600)], mz_up (mz_up (mz_up (mz_up (mz_z m) 65 6 t1) 65 7 t2) 65 6 (t1 - (((t1 * 10) / 100) / 1))) 65 7 (t2 - (((t2 * 10) / 100) / 1)))) rfl ?_
                exact mz_ret rfl
              refine mz_go 5 (c' := (243, [some (.ref 65), some (.int 1), some (.int 10), some (.int t3), some (.int t4)], [.int 1600, .int (-1600), .int t4, .ref 65], mz_up (mz_up (mz_up (mz_up (mz_up (mz_z m) 65 6 t1) 65 7 t2) 65 6 (t1 - (((t1 * 10) / 100) / 1))) 65 7 (t2 - (((t2 * 10) / 100) / 1))) 65 4 (-1600))) rfl ?_
              refine mz_do (R := mz_r130) (as := [.int t4, .int (-1600), .int 1600]) (rest := [.ref 65]) (r1 := some (.int t4)) (m1 := mz_up (mz_up (mz_up (mz_up (mz_up (mz_z m) 65 6 t1) 65 7 t2) 65 6 (t1 - (((t1 * 10) / 100) / 1))) 65 7 (t2 - (((t2 * 10) / 100) / 1))) 65 4 (-1600)) rfl ⟨?_, rfl⟩ ?_
              · refine mz_go 3 (c' := (if (-1600) ≤ t4 then 9 else 5, [some (.int t4), some (.int (-1600)), some (.int 1600)], [], mz_up (mz_up (mz_up (mz_up (mz_up (mz_z m) 65 6 t1) 65 7 t2) 65 6 (t1 - (((t1 * 10) / 100) / 1))) 65 7 (t2 - (((t2 * 10) / 100) / 1))) 65 4 (-1600))) rfl ?_
                refine mz_ifT h25 ?_
                refine mz_go 3 (c' := (if t4 ≤ 1600 then 18 else 14, [some (.int t4), some (.int (-1600)), some (.int 1600)], [], mz_up (mz_up (mz_up (mz_up (mz_up (mz_z m) 65 6 t1) 65 7 t2) 65 6 (t1 - (((t1 * 10) / 100) / 1))) 65 7 (t2 - (((t2 * 10) / 100) / 1))) 65 4 (-1600))) rfl ?_
                refine mz_ifT h26 ?_
                refine mz_go 1 (c' := (19, [some (.int t4), some (.int (-1600)), some (.int 1600)], [.int t4], mz_up (mz_up (mz_up (mz_up (mz_up (mz_z m) 65 6 t1) 65 7 t2) 65 6 (t1 - (((t1 * 10) / 100) / 1))) 65 7 (t2 - (((t2 * 10) / 100) / 1))) 65 4 (-1600))) rfl ?_
                exact mz_ret rfl
              refine mz_go 6 (c' := (if (-1600) = t3 then 258 else 265, [some (.ref 65), some (.int 1), some (.int 10), some (.int t3), some (.int t4)], [.ref 65], mz_up (mz_up (mz_up (mz_up (mz_up (mz_up (mz_z m) 65 6 t1) 65 7 t2) 65 6 (t1 - (((t1 * 10) / 100) / 1))) 65 7 (t2 - (((t2 * 10) / 100) / 1))) 65 4 (-1600)) 65 5 t4)) rfl ?_
              refine mz_ifF h27 ?_
              refine mz_go 7 (c' := (if t4 = t4 then 279 else 286, [some (.ref 65), some (.int 1), some (.int 10), some (.int t3), some (.int t4)], [.ref 65], mz_up (mz_up (mz_up (mz_up (mz_up (mz_up (mz_up (mz_z m) 65 6 t1) 65 7 t2) 65 6 (t1 - (((t1 * 10) / 100) / 1))) 65 7 (t2 - (((t2 * 10) / 100) / 1))) 65 4 (-1600)) 65 5 t4) 65 6 0)) rfl ?_
              refine mz_ifF h29 ?_
              refine mz_go 8 (c' := (300, [some (.ref 65), some (.int 1), some (.int 10), some (.int t3), some (.int t4)], [], mz_up (mz_up (mz_up (mz_up (mz_up (mz_up (mz_up (mz_up (mz_up (mz_z m) 65 6 t1) 65 7 t2) 65 6 (t1 - (((t1 * 10) / 100) / 1))) 65 7 (t2 - (((t2 * 10) / 100) / 1))) 65 4 (-1600)) 65 5 t4) 65 6 0) 65 7 0) 65 8 (((mz_z m) 65 8) + 1))) rfl ?_
              exact mz_ret rfl
      · by_cases h30 : (-1600) = t3
        · by_cases h31 : 1600 = t4
          · refine ⟨mz_up (mz_up (mz_up (mz_up (mz_up (mz_up (mz_up (mz_up (mz_up (mz_z m) 65 6 t1) 65 7 t2) 65 6 (t1 - (((t1 * 10) / 100) / 1))) 65 7 (t2 - (((t2 * 10) / 100) / 1))) 65 4 (-1600)) 65 5 1600) 65 6 (t1 - (((t1 * 10) / 100) / 1))) 65 7 (t2 - (((t2 * 10) / 100) / 1))) 65 8 (((mz_z m) 65 8) + 1), fun i hi => by simp only [mz_up_ne hi], rfl, ⟨?_, rfl⟩⟩
            · refine mz_go 24 (c' := (123, [some (.ref 65), some (.int 1), some (.int 0), none, none], [], mz_up (mz_z m) 65 6 t1)) rfl ?_
              refine mz_go 17 (c' := (151, [some (.ref 65), some (.int 1), some (.int 0), none, none], [.ref 65], mz_up (mz_up (mz_z m) 65 6 t1) 65 7 t2)) rfl ?_
              refine mz_do (R := mz_r151) (as := [.ref 65]) (rest := []) (r1 := some (.int 10)) (m1 := mz_up (mz_up (mz_z m) 65 6 t1) 65 7 t2) rfl ⟨?_, rfl⟩ ?_
              · refine mz_go 2 (c' := (2, [some (.ref 65), none], [.int 1, .ref 65], mz_up (mz_up (mz_z m) 65 6 t1) 65 7 t2)) rfl ?_
                refine mz_do (R := mz_r169) (as := [.ref 65, .int 1]) (rest := []) (r1 := some (.int 0)) (m1 := mz_up (mz_up (mz_z m) 65 6 t1) 65 7 t2) rfl ⟨?_, rfl⟩ ?_
                · refine mz_go 10 (c' := (21, [some (.ref 65), some (.int 1)], [.int 0], mz_up (mz_up (mz_z m) 65 6 t1) 65 7 t2)) rfl ?_
                  exact mz_ret rfl
                refine mz_go 5 (c' := (15, [some (.ref 65), none], [.int 10], mz_up (mz_up (mz_z m) 65 6 t1) 65 7 t2)) rfl ?_
                exact mz_ret rfl
              refine mz_go 24 (c' := (190, [some (.ref 65), some (.int 1), some (.int 10), none, none], [.int 1, .int ((t2 * 10) / 100), .int t2, .ref 65], mz_up (mz_up (mz_up (mz_z m) 65 6 t1) 65 7 t2) 65 6 (t1 - (((t1 * 10) / 100) / 1)))) rfl ?_
              refine mz_go 23 (c' := (228, [some (.ref 65), some (.int 1), some (.int 10), some (.int t3), some (.int t4)], [.int 1600, .int (-1600), .int t3, .ref 65], mz_up (mz_up (mz_up (mz_up (mz_z m) 65 6 t1) 65 7 t2) 65 6 (t1 - (((t1 * 10) / 100) / 1))) 65 7 (t2 - (((t2 * 10) / 100) / 1)))) rfl ?_
              refine mz_do (R := mz_r130) (as := [.int t3, .int (-1600), .int 1600]) (rest := [.ref 65]) (r1 := some (.int (-1600))) (m1 := mz_up (mz_up (mz_up (mz_up (mz_z m) 65 6 t1) 65 7 t2) 65 6 (t1 - (((t1 * 10) / 100) / 1))) 65 7 (t2 - (((t2 * 10) / 100) / 1))) rfl ⟨?_, rfl⟩ ?_
              · refine mz_go 3 (c' := (if (-1600) ≤ t3 then 9 else 5, [some (.int t3), some (.int (-1600)), some (.int 1600)], [], mz_up (mz_up (mz_up (mz_up (mz_z m) 65 6 t1) 65 7 t2) 65 6 (t1 - (((t1 * 10) / 100) / 1))) 65 7 (t2 - (((t2 * 10) / 100) / 1)))) rfl ?_
                refine mz_ifF h1 ?_
                refine mz_go 2 (c' := (19, [some (.int t3), some (.int (-1600)), some (.int 1600)], [.int (-1600)], mz_up (mz_up (mz_up (mz_up (mz_z m) 65 6 t1) 65 7 t2) 65 6 (t1 - (((t1 * 10) / 100) / 1))) 65 7 (t2 - (((t2 * 10) / 100) / 1)))) rfl ?_
                exact mz_ret rfl
              refine mz_go 5 (c' := (243, [some (.ref 65), some (.int 1), some (.int 10), some (.int t3), some (.int t4)], [.int 1600, .int (-1600), .int t4, .ref 65], mz_up (mz_up (mz_up (mz_up (mz_up (mz_z m) 65 6 t1) 65 7 t2) 65 6 (t1 - (((t1 * 10) / 100) / 1))) 65 7 (t2 - (((t2 * 10) / 100) / 1))) 65 4 (-1600))) rfl ?_
              refine mz_do (R := mz_r130) (as := [.int t4, .int (-1600), .int 1600]) (rest := [.ref 65]) (r1 := some (.int 1600)) (m1 := mz_up (mz_up (mz_up (mz_up (mz_up (mz_z m) 65 6 t1) 65 7 t2) 65 6 (t1 - (((t1 * 10) / 100) / 1))) 65 7 (t2 - (((t2 * 10) / 100) / 1))) 65 4 (-1600)) rfl ⟨?_, rfl⟩ ?_
              · refine mz_go 3 (c' := (if (-1600) ≤ t4 then 9 else 5, [some (.int t4), some (.int (-1600)), some (.int 1600)], [], mz_up (mz_up (mz_up (mz_up (mz_up (mz_z m) 65 6 t1) 65 7 t2) 65 6 (t1 - (((t1 * 10) / 100) / 1))) 65 7 (t2 - (((t2 * 10) / 100) / 1))) 65 4 (-1600))) rfl ?_
                refine mz_ifT h25 ?_
                refine mz_go 3 (c' := (if t4 ≤ 1600 then 18 else 14, [some (.int t4), some (.int (-1600)), some (.int 1600)], [], mz_up (mz_up (mz_up (mz_up (mz_up (mz_z m) 65 6 t1) 65 7 t2) 65 6 (t1 - (((t1 * 10) / 100) / 1))) 65 7 (t2 - (((t2 * 10) / 100) / 1))) 65 4 (-1600))) rfl ?_
                refine mz_ifF h26 ?_
                refine mz_go 2 (c' := (19, [some (.int t4), some (.int (-1600)), some (.int 1600)], [.int 1600], mz_up (mz_up (mz_up (mz_up (mz_up (mz_z m) 65 6 t1) 65 7 t2) 65 6 (t1 - (((t1 * 10) / 100) / 1))) 65 7 (t2 - (((t2 * 10) / 100) / 1))) 65 4 (-1600))) rfl ?_
                exact mz_ret rfl
              refine mz_go 6 (c' := (if (-1600) = t3 then 258 else 265, [some (.ref 65), some (.int 1), some (.int 10), some (.int t3), some (.int t4)], [.ref 65], mz_up (mz_up (mz_up (mz_up (mz_up (mz_up (mz_z m) 65 6 t1) 65 7 t2) 65 6 (t1 - (((t1 * 10) / 100) / 1))) 65 7 (t2 - (((t2 * 10) / 100) / 1))) 65 4 (-1600)) 65 5 1600)) rfl ?_
              refine mz_ifT h30 ?_
              refine mz_go 9 (c' := (if 1600 = t4 then 279 else 286, [some (.ref 65), some (.int 1), some (.int 10), some (.int t3), some (.int t4)], [.ref 65], mz_up (mz_up (mz_up (mz_up (mz_up (mz_up (mz_up (mz_z m) 65 6 t1) 65 7 t2) 65 6 (t1 - (((t1 * 10) / 100) / 1))) 65 7 (t2 - (((t2 * 10) / 100) / 1))) 65 4 (-1600)) 65 5 1600) 65 6 (t1 - (((t1 * 10) / 100) / 1)))) rfl ?_
              refine mz_ifT h31 ?_
              refine mz_go 10 (c' := (300, [some (.ref 65), some (.int 1), some (.int 10), some (.int t3), some (.int t4)], [], mz_up (mz_up (mz_up (mz_up (mz_up (mz_up (mz_up (mz_up (mz_up (mz_z m) 65 6 t1) 65 7 t2) 65 6 (t1 - (((t1 * 10) / 100) / 1))) 65 7 (t2 - (((t2 * 10) / 100) / 1))) 65 4 (-1600)) 65 5 1600) 65 6 (t1 - (((t1 * 10) / 100) / 1))) 65 7 (t2 - (((t2 * 10) / 100) / 1))) 65 8 (((mz_z m) 65 8) + 1))) rfl ?_
              exact mz_ret rfl
          · refine ⟨mz_up (mz_up (mz_up (mz_up (mz_up (mz_up (mz_up (mz_up (mz_up (mz_z m) 65 6 t1) 65 7 t2) 65 6 (t1 - (((t1 * 10) / 100) / 1))) 65 7 (t2 - (((t2 * 10) / 100) / 1))) 65 4 (-1600)) 65 5 1600) 65 6 (t1 - (((t1 * 10) / 100) / 1))) 65 7 0) 65 8 (((mz_z m) 65 8) + 1), fun i hi => by simp only [mz_up_ne hi], rfl, ⟨?_, rfl⟩⟩
            · refine mz_go 24 (c' := (123, [some (.ref 65), some (.int 1), some (.int 0), none, none], [], mz_up (mz_z m) 65 6 t1)) rfl ?_
              refine mz_go 17 (c' := (151, [some (.ref 65), some (.int 1), some (.int 0), none, none], [.ref 65], mz_up (mz_up (mz_z m) 65 6 t1) 65 7 t2)) rfl ?_
              refine mz_do (R := mz_r151) (as := [.ref 65]) (rest := []) (r1 := some (.int 10)) (m1 := mz_up (mz_up (mz_z m) 65 6 t1) 65 7 t2) rfl ⟨?_, rfl⟩ ?_
              · refine mz_go 2 (c' := (2, [some (.ref 65), none], [.int 1, .ref 65], mz_up (mz_up (mz_z m) 65 6 t1) 65 7 t2)) rfl ?_
                refine mz_do (R := mz_r169) (as := [.ref 65, .int 1]) (rest := []) (r1 := some (.int 0)) (m1 := mz_up (mz_up (mz_z m) 65 6 t1) 65 7 t2) rfl ⟨?_, rfl⟩ ?_
                · refine mz_go 10 (c' := (21, [some (.ref 65), some (.int 1)], [.int 0], mz_up (mz_up (mz_z m) 65 6 t1) 65 7 t2)) rfl ?_
                  exact mz_ret rfl
                refine mz_go 5 (c' := (15, [some (.ref 65), none], [.int 10], mz_up (mz_up (mz_z m) 65 6 t1) 65 7 t2)) rfl ?_
                exact mz_ret rfl
              refine mz_go 24 (c' := (190, [some (.ref 65), some (.int 1), some (.int 10), none, none], [.int 1, .int ((t2 * 10) / 100), .int t2, .ref 65], mz_up (mz_up (mz_up (mz_z m) 65 6 t1) 65 7 t2) 65 6 (t1 - (((t1 * 10) / 100) / 1)))) rfl ?_
              refine mz_go 23 (c' := (228, [some (.ref 65), some (.int 1), some (.int 10), some (.int t3), some (.int t4)], [.int 1600, .int (-1600), .int t3, .ref 65], mz_up (mz_up (mz_up (mz_up (mz_z m) 65 6 t1) 65 7 t2) 65 6 (t1 - (((t1 * 10) / 100) / 1))) 65 7 (t2 - (((t2 * 10) / 100) / 1)))) rfl ?_
              refine mz_do (R := mz_r130) (as := [.int t3, .int (-1600), .int 1600]) (rest := [.ref 65]) (r1 := some (.int (-1600))) (m1 := mz_up (mz_up (mz_up (mz_up (mz_z m) 65 6 t1) 65 7 t2) 65 6 (t1 - (((t1 * 10) / 100) / 1))) 65 7 (t2 - (((t2 * 10) / 100) / 1))) rfl ⟨?_, rfl⟩ ?_
              · refine mz_go 3 (c' := (if (-1600) ≤ t3 then 9 else 5, [some (.int t3), some (.int (-1600)), some (.int 1600)], [], mz_up (mz_up (mz_up (mz_up (mz_z m) 65 6 t1) 65 7 t2) 65 6 (t1 - (((t1 * 10) / 100) / 1))) 65 7 (t2 - (((t2 * 10) / 100) / 1)))) rfl ?_
                refine mz_ifF h1 ?_
                refine mz_go 2 (c' := (19, [some (.int t3), some (.int (-1600)), some (.int 1600)], [.int (-1600)], mz_up (mz_up (mz_up (mz_up (mz_z m) 65 6 t1) 65 7 t2) 65 6 (t1 - (((t1 * 10) / 100) / 1))) 65 7 (t2 - (((t2 * 10) / 100) / 1)))) rfl ?_
                exact mz_ret rfl
              refine mz_go 5 (c' := (243, [some (.ref 65), some (.int 1), some (.int 10), some (.int t3), some (.int t4)], [.int 1600, .int (-1600), .int t4, .ref 65], mz_up (mz_up (mz_up (mz_up (mz_up (mz_z m) 65 6 t1) 65 7 t2) 65 6 (t1 - (((t1 * 10) / 100) / 1))) 65 7 (t2 - (((t2 * 10) / 100) / 1))) 65 4 (-1600))) rfl ?_
              refine mz_do (R := mz_r130) (as := [.int t4, .int (-1600), .int 1600]) (rest := [.ref 65]) (r1 := some (.int 1600)) (m1 := mz_up (mz_up (mz_up (mz_up (mz_up (mz_z m) 65 6 t1) 65 7 t2) 65 6 (t1 - (((t1 * 10) / 100) / 1))) 65 7 (t2 - (((t2 * 10) / 100) / 1))) 65 4 (-1600)) rfl ⟨?_, rfl⟩ ?_
              · refine mz_go 3 (c' := (if (-1600) ≤ t4 then 9 else 5, [some (.int t4), some (.int (-1600)), some (.int 1600)], [], mz_up (mz_up (mz_up (mz_up (mz_up (mz_z m) 65 6 t1) 65 7 t2) 65 6 (t1 - (((t1 * 10) / 100) / 1))) 65 7 (t2 - (((t2 * 10) / 100) / 1))) 65 4 (-1600))) rfl ?_
                refine mz_ifT h25 ?_
                refine mz_go 3 (c' := (if t4 ≤ 1600 then 18 else 14, [some (.int t4), some (.int (-1600)), some (.int 1600)], [], mz_up (mz_up (mz_up (mz_up (mz_up (mz_z m) 65 6 t1) 65 7 t2) 65 6 (t1 - (((t1 * 10) / 100) / 1))) 65 7 (t2 - (((t2 * 10) / 100) / 1))) 65 4 (-1600))) rfl ?_
                refine mz_ifF h26 ?_
                refine mz_go 2 (c' := (19, [some (.int t4), some (.int (-1600)), some (.int 1600)], [.int 1600], mz_up (mz_up (mz_up (mz_up (mz_up (mz_z m) 65 6 t1) 65 7 t2) 65 6 (t1 - (((t1 * 10) / 100) / 1))) 65 7 (t2 - (((t2 * 10) / 100) / 1))) 65 4 (-1600))) rfl ?_
                exact mz_ret rfl
              refine mz_go 6 (c' := (if (-1600) = t3 then 258 else 265, [some (.ref 65), some (.int 1), some (.int 10), some (.int t3), some (.int t4)], [.ref 65], mz_up (mz_up (mz_up (mz_up (mz_up (mz_up (mz_z m) 65 6 t1) 65 7 t2) 65 6 (t1 - (((t1 * 10) / 100) / 1))) 65 7 (t2 - (((t2 * 10) / 100) / 1))) 65 4 (-1600)) 65 5 1600)) rfl ?_
              refine mz_ifT h30 ?_
              refine mz_go 9 (c' := (if 1600 = t4 then 279 else 286, [some (.ref 65), some (.int 1), some (.int 10), some (.int t3), some (.int t4)], [.ref 65], mz_up (mz_up (mz_up (mz_up (mz_up (mz_up (mz_up (mz_z m) 65 6 t1) 65 7 t2) 65 6 (t1 - (((t1 * 10) / 100) / 1))) 65 7 (t2 - (((t2 * 10) / 100) / 1))) 65 4 (-1600)) 65 5 1600) 65 6 (t1 - (((t1 * 10) / 100) / 1)))) rfl ?_
              refine mz_ifF h31 ?_
              refine mz_go 8 (c' := (300, [some (.ref 65), some (.int 1), some (.int 10), some (.int t3), some (.int t4)], [], mz_up (mz_up (mz_up (mz_up (mz_up (mz_up (mz_up (mz_up (mz_up (mz_z m) 65 6 t1) 65 7 t2) 65 6 (t1 - (((t1 * 10) / 100) / 1))) 65 7 (t2 - (((t2 * 10) / 100) / 1))) 65 4 (-1600)) 65 5 1600) 65 6 (t1 - (((t1 * 10) / 100) / 1))) 65 7 0) 65 8 (((mz_z m) 65 8) + 1))) rfl ?_
              exact mz_ret rfl
        · by_cases h32 : 1600 = t4
          · refine ⟨mz_up (mz_up (mz_up (mz_up (mz_up (mz_up (mz_up (mz_up (mz_up (mz_z m) 65 6 t1) 65 7 t2) 65 6 (t1 - (((t1 * 10) / 100) / 1))) 65 7 (t2 - (((t2 * 10) / 100) / 1))) 65 4 (-1600)) 65 5 1600) 65 6 0) 65 7 (t2 - (((t2 * 10) / 100) / 1))) 65 8 (((mz_z m) 65 8) + 1), fun i hi => by simp only [mz_up_ne hi], rfl, ⟨?_, rfl⟩⟩
            · refine mz_go 24 (c' := (123, [some (.ref 65), some (.int 1), some (.int 0), none, none], [], mz_up (mz_z m) 65 6 t1)) rfl ?_
              refine mz_go 17 (c' := (151, [some (.ref 65), some (.int 1), some (.int 0), none, none], [.ref 65], mz_up (mz_up (mz_z m) 65 6 t1) 65 7 t2)) rfl ?_
              refine mz_do (R := mz_r151) (as := [.ref 65]) (rest := []) (r1 := some (.int 10)) (m1 := mz_up (mz_up (mz_z m) 65 6 t1) 65 7 t2) rfl ⟨?_, rfl⟩ ?_
              · refine mz_go 2 (c' := (2, [some (.ref 65), none], [.int 1, .ref 65], mz_up (mz_up (mz_z m) 65 6 t1) 65 7 t2)) rfl ?_
                refine mz_do (R := mz_r169) (as := [.ref 65, .int 1]) (rest := []) (r1 := some (.int 0)) (m1 := mz_up (mz_up (mz_z m) 65 6 t1) 65 7 t2) rfl ⟨?_, rfl⟩ ?_
                · refine mz_go 10 (c' := (21, [some (.ref 65), some (.int 1)], [.int 0], mz_up (mz_up (mz_z m) 65 6 t1) 65 7 t2)) rfl ?_
                  exact mz_ret rfl
                refine mz_go 5 (c' := (15, [some (.ref 65), none], [.int 10], mz_up (mz_up (mz_z m) 65 6 t1) 65 7 t2)) rfl ?_
                exact mz_ret rfl
              refine mz_go 24 (c' := (190, [some (.ref 65), some (.int 1), some (.int 10), none, none], [.int 1, .int ((t2 * 10) / 100), .int t2, .ref 65], mz_up (mz_up (mz_up (mz_z m) 65 6 t1) 65 7 t2) 65 6 (t1 - (((t1 * 10) / 100) / 1)))) rfl ?_
              refine mz_go 23 (c' := (228, [some (.ref 65), some (.int 1), some (.int 10), some (.int t3), some (.int t4)], [.int 1600, .int (-1600), .int t3, .ref 65], mz_up (mz_up (mz_up (mz_up (mz_z m) 65 6 t1) 65 7 t2) 65 6 (t1 - (((t1 * 10) / 100) / 1))) 65 7 (t2 - (((t2 * 10) / 100) / 1)))) rfl ?_
              refine mz_do (R := mz_r130) (as := [.int t3, .int (-1600), .int 1600]) (rest := [.ref 65]) (r1 := some (.int (-1600))) (m1 := mz_up (mz_up (mz_up (mz_up (mz_z m) 65 6 t1) 65 7 t2) 65 6 (t1 - (((t1 * 10) / 100) / 1))) 65 7 (t2 - (((t2 * 10) / 100) / 1))) rfl ⟨?_, rfl⟩ ?_
              · refine mz_go 3 (c' := (if (-1600) ≤ t3 then 9 else 5, [some (.int t3), some (.int (-1600)), some (.int 1600)], [], mz_up (mz_up (mz_up (mz_up (mz_z m) 65 6 t1) 65 7 t2) 65 6 (t1 - (((t1 * 10) / 100) / 1))) 65 7 (t2 - (((t2 * 10) / 100) / 1)))) rfl ?_
                refine mz_ifF h1 ?_
                refine mz_go 2 (c' := (19, [some (.int t3), some (.int (-1600)), some (.int 1600)], [.int (-1600)], mz_up (mz_up (mz_up (mz_up (mz_z m) 65 6 t1) 65 7 t2) 65 6 (t1 - (((t1 * 10) / 100) / 1))) 65 7 (t2 - (((t2 * 10) / 100) / 1)))) rfl ?_
                exact mz_ret rfl
              refine mz_go 5 (c' := (243, [some (.ref 65), some (.int 1), some (.int 10), some (.int t3), some (.int t4)], [.int 1600, .int (-1600), .int t4, .ref 65], mz_up (mz_up (mz_up (mz_up (mz_up (mz_z m) 65 6 t1) 65 7 t2) 65 6 (t1 - (((t1 * 10) / 100) / 1))) 65 7 (t2 - (((t2 * 10) / 100) / 1))) 65 4 (-1600))) rfl ?_
              refine mz_do (R := mz_r130) (as := [.int t4, .int (-1600), .int 1600]) (rest := [.ref 65]) (r1 := some (.int 1600)) (m1 := mz_up (mz_up (mz_up (mz_up (mz_up (mz_z m) 65 6 t1) 65 7 t2) 65 6 (t1 - (((t1 * 10) / 100) / 1))) 65 7 (t2 - (((t2 * 10) / 100) / 1))) 65 4 (-1600)) rfl ⟨?_, rfl⟩ ?_
              · refine mz_go 3 (c' := (if (-1600) ≤ t4 then 9 else 5, [some (.int t4), some (.int (-1600)), some (.int 1600)], [], mz_up (mz_up (mz_up (mz_up (mz_up (mz_z m) 65 6 t1) 65 7 t2) 65 6 (t1 - (((t1 * 10) / 100) / 1))) 65 7 (t2 - (((t2 * 10) / 100) / 1))) 65 4 (-1600))) rfl ?_
                refine mz_ifT h25 ?_
                refine mz_go 3 (c' := (if t4 ≤ 1600 then 18 else 14, [some (.int t4), some (.int (-1600)), some (.int 1600)], [], mz_up (mz_up (mz_up (mz_up (mz_up (mz_z m) 65 6 t1) 65 7 t2) 65 6 (t1 - (((t1 * 10) / 100) / 1))) 65 7 (t2 - (((t2 * 10) / 100) / 1))) 65 4 (-1600))) rfl ?_
                refine mz_ifF h26 ?_
                refine mz_go 2 (c' := (19, [some (.int t4), some (.int (-1600)), some (.int 1600)], [.int 1600], mz_up (mz_up (mz_up (mz_up (mz_up (mz_z m) 65 6 t1) 65 7 t2) 65 6 (t1 - (((t1 * 10) / 100) / 1))) 65 7 (t2 - (((t2 * 10) / 100) / 1))) 65 4 (-1600))) rfl ?_
                exact mz_ret rfl
              refine mz_go 6 (c' := (if (-1600) = t3 then 258 else 265, [some (.ref 65), some (.int 1), some (.int 10), some (.int t3), some (.int t4)], [.ref 65], mz_up (mz_up (mz_up (mz_up (mz_up (mz_up (mz_z m) 65 6 t1) 65 7 t2) 65 6 (t1 - (((t1 * 10) / 100) / 1))) 65 7 (t2 - (((t2 * 10) / 100) / 1))) 65 4 (-1600)) 65 5 1600)) rfl ?_
              refine mz_ifF h30 ?_
              refine mz_go 7 (c' := (if 1600 = t4 then 279 else 286, [some (.ref 65), some (.int 1), some (.int 10), some (.int t3), some (.int t4)], [.ref 65], mz_up (mz_up (mz_up (mz_up (mz_up (mz_up (mz_up (mz_z m) 65 6 t1) 65 7 t2) 65 6 (t1 - (((t1 * 10) / 100) / 1))) 65 7 (t2 - (((t2 * 10) / 100) / 1))) 65 4 (-1600)) 65 5 1600) 65 6 0)) rfl ?_
              refine mz_ifT h32 ?_
              refine mz_go 10 (c' := (300, [some (.ref 65), some (.int 1), some (.int 10), some (.int t3), some (.int t4)], [], mz_up (mz_up (mz_up (mz_up (mz_up (mz_up (mz_up (mz_up (mz_up (mz_z m) 65 6 t1) 65 7 t2) 65 6 (t1 - (((t1 * 10) / 100) / 1))) 65 7 (t2 - (((t2 * 10) / 100) / 1))) 65 4 (-1600)) 65 5 1600) 65 6 0) 65 7 (t2 - (((t2 * 10) / 100) / 1))) 65 8 (((mz_z m) 65 8) + 1))) rfl ?_
              exact mz_ret rfl
          · refine ⟨mz_up (mz_up (mz_up (mz_up (mz_up (mz_up (mz_up (mz_up (mz_up (mz_z m) 65 6 t1) 65 7 t2) 65 6 (t1 - (((t1 * 10) / 100) / 1))) 65 7 (t2 - (((t2 * 10) / 100) / 1))) 65 4 (-1600)) 65 5 1600) 65 6 0) 65 7 0) 65 8 (((mz_z m) 65 8) + 1), fun i hi => by simp only [mz_up_ne hi], rfl, ⟨?_, rfl⟩⟩
            · refine mz_go 24 (c' := (123, [some (.ref 65), some (.int 1), some (.int 0), none, none], [], mz_up (mz_z m) 65 6 t1)) rfl ?_
              refine mz_go 17 (c' := (151, [some (.ref 65), some (.int 1), some (.int 0), none, none], [.ref 65], mz_up (mz_up (mz_z m) 65 6 t1) 65 7 t2)) rfl ?_
              refine mz_do (R := mz_r151) (as := [.ref 65]) (rest := []) (r1 := some (.int 10)) (m1 := mz_up (mz_up (mz_z m) 65 6 t1) 65 7 t2) rfl ⟨?_, rfl⟩ ?_
              · refine mz_go 2 (c' := (2, [some (.ref 65), none], [.int 1, .ref 65], mz_up (mz_up (mz_z m) 65 6 t1) 65 7 t2)) rfl ?_
                refine mz_do (R := mz_r169) (as := [.ref 65, .int 1]) (rest := []) (r1 := some (.int 0)) (m1 := mz_up (mz_up (mz_z m) 65 6 t1) 65 7 t2) rfl ⟨?_, rfl⟩ ?_
                · refine mz_go 10 (c' := (21, [some (.ref 65), some (.int 1)], [.int 0], mz_up (mz_up (mz_z m) 65 6 t1) 65 7 t2)) rfl ?_
                  exact mz_ret rfl
                refine mz_go 5 (c' := (15, [some (.ref 65), none], [.int 10], mz_up (mz_up (mz_z m) 65 6 t1) 65 7 t2)) rfl ?_
                exact mz_ret rfl
              refine mz_go 24 (c' := (190, [some (.ref 65), some (.int 1), some (.int 10), none, none], [.int 1, .int ((t2 * 10) / 100), .int t2, .ref 65], mz_up (mz_up (mz_up (mz_z m) 65 6 t1) 65 7 t2) 65 6 (t1 - (((t1 * 10) / 100) / 1)))) rfl ?_
              refine mz_go 23 (c' := (228, [some (.ref 65), some (.int 1), some (.int 10), some (.int t3), some (.int t4)], [.int 1600, .int (-1600), .int t3, .ref 65], mz_up (mz_up (mz_up (mz_up (mz_z m) 65 6 t1) 65 7 t2) 65 6 (t1 - (((t1 * 10) / 100) / 1))) 65 7 (t2 - (((t2 * 10) / 100) / 1)))) rfl ?_
              refine mz_do (R := mz_r130) (as := [.int t3, .int (-1600), .int 1600]) (rest := [.ref 65]) (r1 := some (.int (-1600))) (m1 := mz_up (mz_up (mz_up (mz_up (mz_z m) 65 6 t1) 65 7 t2) 65 6 (t1 - (((t1 * 10) / 100) / 1))) 65 7 (t2 - (((t2 * 10) / 100) / 1))) rfl ⟨?_, rfl⟩ ?_
              · refine mz_go 3 (c' := (if (-1600) ≤ t3 then 9 else 5, [some (.int t3), some (.int (-1600)), some (.int 1600)], [], mz_up (mz_up (mz_up (mz_up (mz_z m) 65 6 t1) 65 7 t2) 65 6 (t1 - (((t1 * 10) / 100) / 1))) 65 7 (t2 - (((t2 * 10) / 100) / 1)))) rfl ?_
                refine mz_ifF h1 ?_
                refine mz_go 2 (c' := (19, [some (.int t3), some (.int (-1600)), some (.int 1600)], [.int (-1600)], mz_up (mz_up (mz_up (mz_up (mz_z m) 65 6 t1) 65 7 t2) 65 6 (t1 - (((t1 * 10) / 100) / 1))) 65 7 (t2 - (((t2 * 10) / 100) / 1)))) rfl ?_
                exact mz_ret rfl
              refine mz_go 5 (c' := (243, [some (.ref 65), some (.int 1), some (.int 10), some (.int t3), some (.int t4)], [.int 1600, .int (-1600), .int t4, .ref 65], mz_up (mz_up (mz_up (mz_up (mz_up (mz_z m) 65 6 t1) 65 7 t2) 65 6 (t1 - (((t1 * 10) / 100) / 1))) 65 7 (t2 - (((t2 * 10) / 100) / 1))) 65 4 (-1600))) rfl ?_
              refine mz_do (R := mz_r130) (as := [.int t4, .int (-1600), .int 1600]) (rest := [.ref 65]) (r1 := some (.int 1600)) (m1 := mz_up (mz_up (mz_up (mz_up (mz_up (mz_z m) 65 6 t1) 65 7 t2) 65 6 (t1 - (((t1 * 10) / 100) / 1))) 65 7 (t2 - (((t2 * 10) / 100) / 1))) 65 4 (-1600)) rfl ⟨?_, rfl⟩ ?_
              · refine mz_go 3 (c' := (if (-1600) ≤ t4 then 9 else 5, [some (.int t4), some (.int (-1600)), some (.int 1600)], [], mz_up (mz_up (mz_up (mz_up (mz_up (mz_z m) 65 6 t1) 65 7 t2) 65 6 (t1 - (((t1 * 10) / 100) / 1))) 65 7 (t2 - (((t2 * 10) / 100) / 1))) 65 4 (-1600))) rfl ?_
                refine mz_ifT h25 ?_
                refine mz_go 3 (c' := (if t4 ≤ 1600 then 18 else 14, [some (.int t4), some (.int (-1600)), some (.int 1600)], [], mz_up (mz_up (mz_up (mz_up (mz_up (mz_z m) 65 6 t1) 65 7 t2) 65 6 (t1 - (((t1 * 10) / 100) / 1))) 65 7 (t2 - (((t2 * 10) / 100) / 1))) 65 4 (-1600))) rfl ?_
                refine mz_ifF h26 ?_
                refine mz_go 2 (c' := (19, [some (.int t4), some (.int (-1600)), some (.int 1600)], [.int 1600], mz_up (mz_up (mz_up (mz_up (mz_up (mz_z m) 65 6 t1) 65 7 t2) 65 6 (t1 - (((t1 * 10) / 100) / 1))) 65 7 (t2 - (((t2 * 10) / 100) / 1))) 65 4 (-1600))) rfl ?_
                exact mz_ret rfl
              refine mz_go 6 (c' := (if (-1600) = t3 then 258 else 265, [some (.ref 65), some (.int 1), some (.int 10), some (.int t3), some (.int t4)], [.ref 65], mz_up (mz_up (mz_up (mz_up (mz_up (mz_up (mz_z m) 65 6 t1) 65 7 t2) 65 6 (t1 - (((t1 * 10) / 100) / 1))) 65 7 (t2 - (((t2 * 10) / 100) / 1))) 65 4 (-1600)) 65 5 1600)) rfl ?_
              refine mz_ifF h30 ?_
              refine mz_go 7 (c' := (if 1600 = t4 then 279 else 286, [some (.ref 65), some (.int 1), some (.int 10), some (.int t3), some (.int t4)], [.ref 65], mz_up (mz_up (mz_up (mz_up (mz_up (mz_up (mz_up (mz_z m) 65 6 t1) 65 7 t2) 65 6 (t1 - (((t1 * 10) / 100) / 1))) 65 7 (t2 - (((t2 * 10) / 100) / 1))) 65 4 (-1600)) 65 5 1600) 65 6 0)) rfl ?_
              refine mz_ifF h32 ?_
              refine mz_go 8 (c' := (300, [some (.ref 65), some (.int 1), some (.int 10), some (.int t3), some (.int t4)], [], mz_up (mz_up (mz_up (mz_up (mz_up (mz_up (mz_up (mz_up (mz_up (mz_z m) 65 6 t1) 65 7 t2) 65 6 (t1 - (((t1 * 10) / 100) / 1))) 65 7 (t2 - (((t2 * 10) / 100) / 1))) 65 4 (-1600)) 65 5 1600) 65 6 0) 65 7 0) 65 8 (((mz_z m) 65 8) + 1))) rfl ?_
              exact mz_ret rfl
    · by_cases h33 : (-1600) = t3
      · by_cases h34 : (-1600) = t4
        · refine ⟨mz_up (mz_up (mz_up (mz_up (mz_up (mz_up (mz_up (mz_up (mz_up (mz_z m) 65 6 t1) 65 7 t2) 65 6 (t1 - (((t1 * 10) / 100) / 1))) 65 7 (t2 - (((t2 * 10) / 100) / 1))) 65 4 (-1600)) 65 5 (-1600)) 65 6 (t1 - (((t1 * 10) / 100) / 1))) 65 7 (t2 - (((t2 * 10) / 100) / 1))) 65 8 (((mz_z m) 65 8) + 1), fun i hi => by simp only [mz_up_ne hi], rfl, ⟨?_, rfl⟩⟩
          · refine mz_go 24 (c' := (123, [some (.ref 65), some (.int 1), some (.int 0), none, none], [], mz_up (mz_z m) 65 6 t1)) rfl ?_
            refine mz_go 17 (c' := (151, [some (.ref 65), some (.int 1), some (.int 0), none, none], [.ref 65], mz_up (mz_up (mz_z m) 65 6 t1) 65 7 t2)) rfl ?_
            refine mz_do (R := mz_r151) (as := [.ref 65]) (rest := []) (r1 := some (.int 10)) (m1 := mz_up (mz_up (mz_z m) 65 6 t1) 65 7 t2) rfl ⟨?_, rfl⟩ ?_
            · refine mz_go 2 (c' := (2, [some (.ref 65), none], [.int 1, .ref 65], mz_up (mz_up (mz_z m) 65 6 t1) 65 7 t2)) rfl ?_
              refine mz_do (R := mz_r169) (as := [.ref 65, .int 1]) (rest := []) (r1 := some (.int 0)) (m1 := mz_up (mz_up (mz_z m) 65 6 t1) 65 7 t2) rfl ⟨?_, rfl⟩ ?_
              · refine mz_go 10 (c' := (21, [some (.ref 65), some (.int 1)], [.int 0], mz_up (mz_up (mz_z m) 65 6 t1) 65 7 t2)) rfl ?_
                exact mz_ret rfl
              refine mz_go 5 (c' := (15, [some (.ref 65), none], [.int 10], mz_up (mz_up (mz_z m) 65 6 t1) 65 7 t2)) rfl ?_
              exact mz_ret rfl
            refine mz_go 24 (c' := (190, [some (.ref 65), some (.int 1), some (.int 10), none, none], [.int 1, .int ((t2 * 10) / 100), .int t2, .ref 65], mz_up (mz_up (mz_up (mz_z m) 65 6 t1) 65 7 t2) 65 6 (t1 - (((t1 * 10) / 100) / 1)))) rfl ?_
            refine mz_go 23 (c' := (228, [some (.ref 65), some (.int 1), some (.int 10), some (.int t3), some (.int t4)], [.int 1600, .int (-1600), .int t3, .ref 65], mz_up (mz_up (mz_up (mz_up (mz_z m) 65 6 t1) 65 7 t2) 65 6 (t1 - (((t1 * 10) / 100) / 1))) 65 7 (t2 - (((t2 * 10) / 100) / 1)))) rfl ?_
            refine mz_do (R := mz_r130) (as := [.int t3, .int (-1600), .int 1600]) (rest := [.ref 65]) (r1 := some (.int (-1600))) (m1 := mz_up (mz_up (mz_up (mz_up (mz_z m) 65 6 t1) 65 7 t2) 65 6 (t1 - (((t1 * 10) / 100) / 1))) 65 7 (t2 - (((t2 * 10) / 100) / 1))) rfl ⟨?_, rfl⟩ ?_
            · refine mz_go 3 (c' := (if (-1600) ≤ t3 then 9 else 5, [some (.int t3), some (.int (-1600)), some (.int 1600)], [], mz_up (mz_up (mz_up (mz_up (mz_z m) 65 6 t1) 65 7 t2) 65 6 (t1 - (((t1 * 10) / 100) / 1))) 65 7 (t2 - (((t2 * 10) / 100) / 1)))) rfl ?_
              refine mz_ifF h1 ?_
              refine mz_go 2 (c' := (19, [some (.int t3), some (.int (-1600)), some (.int 1600)], [.int (-1600)], mz_up (mz_up (mz_up (mz_up (mz_z m) 65 6 t1) 65 7 t2) 65 6 (t1 - (((t1 * 10) / 100) / 1))) 65 7 (t2 - (((t2 * 10) / 100) / 1)))) rfl ?_
              exact mz_ret rfl
            refine mz_go 5 (c' := (243, [some (.ref 65), some (.int 1), some (.int 10), some (.int t3), some (.int t4)], [.int 1600, .int (-1600), .int t4, .ref 65], mz_up (mz_up (mz_up (mz_up (mz_up (mz_z m) 65 6 t1) 65 7 t2) 65 6 (t1 - (((t1 * 10) / 100) / 1))) 65 7 (t2 - (((t2 * 10) / 100) / 1))) 65 4 (-1600))) rfl ?_
            refine mz_do (R := mz_r130) (as := [.int t4, .int (-1600), .int 1600]) (rest := [.ref 65]) (r1 := some (.int (-1600))) (m1 := mz_up (mz_up (mz_up (mz_up (mz_up (mz_z m) 65 6 t1) 65 7 t2) 65 6 (t1 - (((t1 * 10) / 100) / 1))) 65 7 (t2 - (((t2 * 10) / 100) / 1))) 65 4 (-1600)) rfl ⟨?_, rfl⟩ ?_
            · refine mz_go 3 (c' := (if (-1600) ≤ t4 then 9 else 5, [some (.int t4), some (.int (-1600)), some (.int 1600)], [], mz_up (mz_up (mz_up (mz_up (mz_up (mz_z m) 65 6 t1) 65 7 t2) 65 6 (t1 - (((t1 * 10) / 100) / 1))) 65 7 (t2 - (((t2 * 10) / 100) / 1))) 65 4 (-1600))) rfl ?_
              refine mz_ifF h25 ?_
              refine mz_go 2 (c' := (19, [some (.int t4), some (.int (-1600)), some (.int 1600)], [.int (-1600)], mz_up (mz_up (mz_up (mz_up (mz_up (mz_z m) 65 6 t1) 65 7 t2) 65 6 (t1 - (((t1 * 10) / 100) / 1))) 65 7 (t2 - (((t2 * 10) / 100) / 1))) 65 4 (-1600))) rfl ?_
              exact mz_ret rfl
            refine mz_go 6 (c' := (if (-1600) = t3 then 258 else 265, [some (.ref 65), some (.int 1), some (.int 10), some (.int t3), some (.int t4)], [.ref 65], mz_up (mz_up (mz_up (mz_up (mz_up (mz_up (mz_z m) 65 6 t1) 65 7 t2) 65 6 (t1 - (((t1 * 10) / 100) / 1))) 65 7 (t2 - (((t2 * 10) / 100) / 1))) 65 4 (-1600)) 65 5 (-1600))) rfl ?_
            refine mz_ifT h33 ?_
            refine mz_go 9 (c' := (if (-1600) = t4 then 279 else 286, [some (.ref 65), some (.int 1), some (.int 10), some (.int t3), some (.int t4)], [.ref 65], mz_up (mz_up (mz_up (mz_up (mz_up (mz_up (mz_up (mz_z m) 65 6 t1) 65 7 t2) 65 6 (t1 - (((t1 * 10) / 100) / 1))) 65 7 (t2 - (((t2 * 10) / 100) / 1))) 65 4 (-1600)) 65 5 (-1600)) 65 6 (t1 - (((t1 * 10) / 100) / 1)))) rfl ?_
            refine mz_ifT h34 ?_
            refine mz_go 10 (c' := (300, [some (.ref 65), some (.int 1), some (.int 10), some (.int t3), some (.int t4)], [], mz_up (mz_up (mz_up (mz_up (mz_up (mz_up (mz_up (mz_up (mz_up (mz_z m) 65 6 t1) 65 7 t2) 65 6 (t1 - (((t1 * 10) / 100) / 1))) 65 7 (t2 - (((t2 * 10) / 100) / 1))) 65 4 (-1600)) 65 5 (-1600)) 65 6 (t1 - (((t1 * 10) / 100) / 1))) 65 7 (t2 - (((t2 * 10) / 100) / 1))) 65 8 (((mz_z m) 65 8) + 1))) rfl ?_
            exact mz_ret rfl
        · refine ⟨mz_up (mz_up (mz_up (mz_up (mz_up (mz_up (mz_up (mz_up (mz_up (mz_z m) 65 6 t1) 65 7 t2) 65 6 (t1 - (((t1 * 10) / 100) / 1))) 65 7 (t2 - (((t2 * 10) / 100) / 1))) 65 4 (-1600)) 65 5 (-1600)) 65 6 (t1 - (((t1 * 10) / 100) / 1))) 65 7 0) 65 8 (((mz_z m) 65 8) + 1), fun i hi => by simp only [mz_up_ne hi], rfl, ⟨?_, rfl⟩⟩
          · refine mz_go 24 (c' := (123, [some (.ref 65), some (.int 1), some (.int 0), none, none], [], mz_up (mz_z m) 65 6 t1)) rfl ?_
            refine mz_go 17 (c' := (151, [some (.ref 65), some (.int 1), some (.int 0), none, none], [.ref 65], mz_up (mz_up (mz_z m) 65 6 t1) 65 7 t2)) rfl ?_
            refine mz_do (R := mz_r151) (as := [.ref 65]) (rest := []) (r1 := some (.int 10)) (m1 := mz_up (mz_up (mz_z m) 65 6 t1) 65 7 t2) rfl ⟨?_, rfl⟩ ?_
            · refine mz_go 2 (c' := (2, [some (.ref 65), none], [.int 1, .ref 65], mz_up (mz_up (mz_z m) 65 6 t1) 65 7 t2)) rfl ?_
              refine mz_do (R := mz_r169) (as := [.ref 65, .int 1]) (rest := []) (r1 := some (.int 0)) (m1 := mz_up (mz_up (mz_z m) 65 6 t1) 65 7 t2) rfl ⟨?_, rfl⟩ ?_
              · refine mz_go 10 (c' := (21, [some (.ref 65), some (.int 1)], [.int 0], mz_up (mz_up (mz_z m) 65 6 t1) 65 7 t2)) rfl ?_
                exact mz_ret rfl
              refine mz_go 5 (c' := (15, [some (.ref 65), none], [.int 10], mz_up (mz_up (mz_z m) 65 6 t1) 65 7 t2)) rfl ?_
              exact mz_ret rfl
            refine mz_go 24 (c' := (190, [some (.ref 65), some (.int 1), some (.int 10), none, none], [.int 1, .int ((t2 * 10) / 100), .int t2, .ref 65], mz_up (mz_up (mz_up (mz_z m) 65 6 t1) 65 7 t2) 65 6 (t1 - (((t1 * 10) / 100) / 1)))) rfl ?_
            refine mz_go 23 (c' := (228, [some (.ref 65), some (.int 1), some (.int 10), some (.int t3), some (.int t4)], [.int 1600, .int (-1600), .int t3, .ref 65], mz_up (mz_up (mz_up (mz_up (mz_z m) 65 6 t1) 65 7 t2) 65 6 (t1 - (((t1 * 10) / 100) / 1))) 65 7 (t2 - (((t2 * 10) / 100) / 1)))) rfl ?_
            refine mz_do (R := mz_r130) (as := [.int t3, .int (-1600), .int 1600]) (rest := [.ref 65]) (r1 := some (.int (-1600))) (m1 := mz_up (mz_up (mz_up (mz_up (mz_z m) 65 6 t1) 65 7 t2) 65 6 (t1 - (((t1 * 10) / 100) / 1))) 65 7 (t2 - (((t2 * 10) / 100) / 1))) rfl ⟨?_, rfl⟩ ?_
            · refine mz_go 3 (c' := (if (-1600) ≤ t3 then 9 else 5, [some (.int t3), some (.int (-1600)), some (.int 1600)], [], mz_up (mz_up (mz_up (mz_up (mz_z m) 65 6 t1) 65 7 t2) 65 6 (t1 - (((t1 * 10) / 100) / 1))) 65 7 (t2 - (((t2 * 10) / 100) / 1)))) rfl ?_
              refine mz_ifF h1 ?_
              refine mz_go 2 (c' := (19, [some (.int t3), some (.int (-1600)), some (.int 1600)], [.int (-1600)], mz_up (mz_up (mz_up (mz_up (mz_z m) 65 6 t1) 65 7 t2) 65 6 (t1 - (((t1 * 10) / 100) / 1))) 65 7 (t2 - (((t2 * 10) / 100) / 1)))) rfl ?_
              exact mz_ret rfl
            refine mz_go 5 (c' := (243, [some (.ref 65), some (.int 1), some (.int 10), some (.int t3), some (.int t4)], [.int 1600, .int (-1600), .int t4, .ref 65], mz_up (mz_up (mz_up (mz_up (mz_up (mz_z m) 65 6 t1) 65 7 t2) 65 6 (t1 - (((t1 * 10) / 100) / 1))) 65 7 (t2 - (((t2 * 10) / 100) / 1))) 65 4 (-1600))) rfl ?_
            refine mz_do (R := mz_r130) (as := [.int t4, .int (-1600), .int 1600]) (rest := [.ref 65]) (r1 := some (.int (-1600))) (m1 := mz_up (mz_up (mz_up (mz_up (mz_up (mz_z m) 65 6 t1) 65 7 t2) 65 6 (t1 - (((t1 * 10) / 100) / 1))) 65 7 (t2 - (((t2 * 10) / 100) / 1))) 65 4 (-1600)) rfl ⟨?_, rfl⟩ ?_
            · refine mz_go 3 (c' := (if (-1600) ≤ t4 then 9 else 5, [some (.int t4), some (.int (-1600)), some (.int 1600)], [], mz_up (mz_up (mz_up (mz_up (mz_up (mz_z m) 65 6 t1) 65 7 t2) 65 6 (t1 - (((t1 * 10) / 100) / 1))) 65 7 (t2 - (((t2 * 10) / 100) / 1))) 65 4 (-1600))) rfl ?_
              refine mz_ifF h25 ?_
              refine mz_go 2 (c' := (19, [some (.int t4), some (.int (-1600)), some (.int 1600)], [.int (-1600)], mz_up (mz_up (mz_up (mz_up (mz_up (mz_z m) 65 6 t1) 65 7 t2) 65 6 (t1 - (((t1 * 10) / 100) / 1))) 65 7 (t2 - (((t2 * 10) / 100) / 1))) 65 4 (-1600))) rfl ?_
              exact mz_ret rfl
            refine mz_go 6 (c' := (if (-1600) = t3 then 258 else 265, [some (.ref 65), some (.int 1), some (.int 10), some (.int t3), some (.int t4)], [.ref 65], mz_up (mz_up (mz_up (mz_up (mz_up (mz_up (mz_z m) 65 6 t1) 65 7 t2) 65 6 (t1 - (((t1 * 10) / 100) / 1))) 65 7 (t2 - (((t2 * 10) / 100) / 1))) 65 4 (-1600)) 65 5 (-1600))) rfl ?_
            refine mz_ifT h33 ?_
            refine mz_go 9 (c' := (if (-1600) = t4 then 279 else 286, [some (.ref 65), some (.int 1), some (.int 10), some (.int t3), some (.int t4)], [.ref 65], mz_up (mz_up (mz_up (mz_up (mz_up (mz_up (mz_up (mz_z m) 65 6 t1) 65 7 t2) 65 6 (t1 - (((t1 * 10) / 100) / 1))) 65 7 (t2 - (((t2 * 10) / 100) / 1))) 65 4 (-1600)) 65 5 (-1600)) 65 6 (t1 - (((t1 * 10) / 100) / 1)))) rfl ?_
            refine mz_ifF h34 ?_
            refine mz_go 8 (c' := (300, [some (.ref 65), some (.int 1), some (.int 10), some (.int t3), some (.int t4)], [], mz_up (mz_up (mz_up (mz_up (mz_up (mz_up (mz_up (mz_up (mz_up (mz_z m) 65 6 t1) 65 7 t2) 65 6 (t1 - (((t1 * 10) / 100) / 1))) 65 7 (t2 - (((t2 * 10) / 100) / 1))) 65 4 (-1600)) 65 5 (-1600)) 65 6 (t1 - (((t1 * 10) / 100) / 1))) 65 7 0) 65 8 (((mz_z m) 65 8) + 1))) rfl ?_
            exact mz_ret rfl
      · by_cases h35 : (-1600) = t4
        · refine ⟨mz_up (mz_up (mz_up (mz_up (mz_up (mz_up (mz_up (mz_up (mz_up (mz_z m) 65 6 t1) 65 7 t2) 65 6 (t1 - (((t1 * 10) / 100) / 1))) 65 7 (t2 - (((t2 * 10) / 100) / 1))) 65 4 (-1600)) 65 5 (-1600)) 65 6 0) 65 7 (t2 - (((t2 * 10) / 100) / 1))) 65 8 (((mz_z m) 65 8) + 1), fun i hi => by simp only [mz_up_ne hi], rfl, ⟨?_, rfl⟩⟩
          · refine mz_go 24 (c' := (123, [some (.ref 65), some (.int 1), some (.int 0), none, none], [], mz_up (mz_z m) 65 6 t1)) rfl ?_
            refine mz_go 17 (c' := (151, [some (.ref 65), some (.int 1), some (.int 0), none, none], [.ref 65], mz_up (mz_up (mz_z m) 65 6 t1) 65 7 t2)) rfl ?_
            refine mz_do (R := mz_r151) (as := [.ref 65]) (rest := []) (r1 := some (.int 10)) (m1 := mz_up (mz_up (mz_z m) 65 6 t1) 65 7 t2) rfl ⟨?_, rfl⟩ ?_
            · refine mz_go 2 (c' := (2, [some (.ref 65), none], [.int 1, .ref 65], mz_up (mz_up (mz_z m) 65 6 t1) 65 7 t2)) rfl ?_
              refine mz_do (R := mz_r169) (as := [.ref 65, .int 1]) (rest := []) (r1 := some (.int 0)) (m1 := mz_up (mz_up (mz_z m) 65 6 t1) 65 7 t2) rfl ⟨?_, rfl⟩ ?_
              · refine mz_go 10 (c' := (21, [some (.ref 65), some (.int 1)], [.int 0], mz_up (mz_up (mz_z m) 65 6 t1) 65 7 t2)) rfl ?_
                exact mz_ret rfl
              refine mz_go 5 (c' := (15, [some (.ref 65), none], [.int 10], mz_up (mz_up (mz_z m) 65 6 t1) 65 7 t2)) rfl ?_
              exact mz_ret rfl
            refine mz_go 24 (c' := (190, [some (.ref 65), some (.int 1), some (.int 10), none, none], [.int 1, .int ((t2 * 10) / 100), .int t2, .ref 65], mz_up (mz_up (mz_up (mz_z m) 65 6 t1) 65 7 t2) 65 6 (t1 - (((t1 * 10) / 100) / 1)))) rfl ?_
            refine mz_go 23 (c' := (228, [some (.ref 65), some (.int 1), some (.int 10), some (.int t3), some (.int t4)], [.int 1600, .int (-1600), .int t3, .ref 65], mz_up (mz_up (mz_up (mz_up (mz_z m) 65 6 t1) 65 7 t2) 65 6 (t1 - (((t1 * 10) / 100) / 1))) 65 7 (t2 - (((t2 * 10) / 100) / 1)))) rfl ?_
            refine mz_do (R := mz_r130) (as := [.int t3, .int (-1600), .int 1600]) (rest := [.ref 65]) (r1 := some (.int (-1600))) (m1 := mz_up (mz_up (mz_up (mz_up (mz_z m) 65 6 t1) 65 7 t2) 65 6 (t1 - (((t1 * 10) / 100) / 1))) 65 7 (t2 - (((t2 * 10) / 100) / 1))) rfl ⟨?_, rfl⟩ ?_
            · refine mz_go 3 (c' := (if (-1600) ≤ t3 then 9 else 5, [some (.int t3), some (.int (-1600)), some (.int 1600)], [], mz_up (mz_up (mz_up (mz_up (mz_z m) 65 6 t1) 65 7 t2) 65 6 (t1 - (((t1 * 10) / 100) / 1))) 65 7 (t2 - (((t2 * 10) / 100) / 1)))) rfl ?_
              refine mz_ifF h1 ?_
              refine mz_go 2 (c' := (19, [some (.int t3), some (.int (-1600)), some (.int 1600)], [.int (-1600)], mz_up (mz_up (mz_up (mz_up (mz_z m) 65 6 t1) 65 7 t2) 65 6 (t1 - (((t1 * 10) / 100) / 1))) 65 7 (t2 - (((t2 * 10) / 100) / 1)))) rfl ?_
              exact mz_ret rfl
            refine mz_go 5 (c' := (243, [some (.ref 65), some (.int 1), some (.int 10), some (.int t3), some (.int t4)], [.int 1600, .int (-1600), .int t4, .ref 65], mz_up (mz_up (mz_up (mz_up (mz_up (mz_z m) 65 6 t1) 65 7 t2) 65 6 (t1 - (((t1 * 10) / 100) / 1))) 65 7 (t2 - (((t2 * 10) / 100) / 1))) 65 4 (-1600))) rfl ?_
            refine mz_do (R := mz_r130) (as := [.int t4, .int (-1600), .int 1600]) (rest := [.ref 65]) (r1 := some (.int (-1600))) (m1 := mz_up (mz_up (mz_up (mz_up (mz_up (mz_z m) 65 6 t1) 65 7 t2) 65 6 (t1 - (((t1 * 10) / 100) / 1))) 65 7 (t2 - (((t2 * 10) / 100) / 1))) 65 4 (-1600)) rfl ⟨?_, rfl⟩ ?_
            · refine mz_go 3 (c' := (if (-1600) ≤ t4 then 9 else 5, [some (.int t4), some (.int (-1600)), some (.int 1600)], [], mz_up (mz_up (mz_up (mz_up (mz_up (mz_z m) 65 6 t1) 65 7 t2) 65 6 (t1 - (((t1 * 10) / 100) / 1))) 65 7 (t2 - (((t2 * 10) / 100) / 1))) 65 4 (-1600))) rfl ?_
              refine mz_ifF h25 ?_
              refine mz_go 2 (c' := (19, [some (.int t4), some (.int (-1600)), some (.int 1600)], [.int (-1600)], mz_up (mz_up (mz_up (mz_up (mz_up (mz_z m) 65 6 t1) 65 7 t2) 65 6 (t1 - (((t1 * 10) / 100) / 1))) 65 7 (t2 - (((t2 * 10) / 100) / 1))) 65 4 (-1600))) rfl ?_
              exact mz_ret rfl
            refine mz_go 6 (c' := (if (-1600) = t3 then 258 else 265, [some (.ref 65), some (.int 1), some (.int 10), some (.int t3), some (.int t4)], [.ref 65], mz_up (mz_up (mz_up (mz_up (mz_up (mz_up (mz_z m) 65 6 t1) 65 7 t2) 65 6 (t1 - (((t1 * 10) / 100) / 1))) 65 7 (t2 - (((t2 * 10) / 100) / 1))) 65 4 (-1600)) 65 5 (-1600))) rfl ?_
            refine mz_ifF h33 ?_
            refine mz_go 7 (c' := (if (-1600) = t4 then 279 else 286, [some (.ref 65), some (.int 1), some (.int 10), some (.int t3), some (.int t4)], [.ref 65], mz_up (mz_up (mz_up (mz_up (mz_up (mz_up (mz_up (mz_z m) 65 6 t1) 65 7 t2) 65 6 (t1 - (((t1 * 10) / 100) / 1))) 65 7 (t2 - (((t2 * 10) / 100) / 1))) 65 4 (-1600)) 65 5 (-1600)) 65 6 0)) rfl ?_
            refine mz_ifT h35 ?_
            refine mz_go 10 (c' := (300, [some (.ref 65), some (.int 1), some (.int 10), some (.int t3), some (.int t4)], [], mz_up (mz_up (mz_up (mz_up (mz_up (mz_up (mz_up (mz_up (mz_up (mz_z m) 65 6 t1) 65 7 t2) 65 6 (t1 - (((t1 * 10) / 100) / 1))) 65 7 (t2 - (((t2 * 10) / 100) / 1))) 65 4 (-1600)) 65 5 (-1600)) 65 6 0) 65 7 (t2 - (((t2 * 10) / 100) / 1))) 65 8 (((mz_z m) 65 8) + 1))) rfl ?_
            exact mz_ret rfl
        · refine ⟨mz_up (mz_up (mz_up (mz_up (mz_up (mz_up (mz_up (mz_up (mz_up (mz_z m) 65 6 t1) 65 7 t2) 65 6 (t1 - (((t1 * 10) / 100) / 1))) 65 7 (t2 - (((t2 * 10) / 100) / 1))) 65 4 (-1600)) 65 5 (-1600)) 65 6 0) 65 7 0) 65 8 (((mz_z m) 65 8) + 1), fun i hi => by simp only [mz_up_ne hi], rfl, ⟨?_, rfl⟩⟩
          · refine mz_go 24 (c' := (123, [some (.ref 65), some (.int 1), some (.int 0), none, none], [], mz_up (mz_z m) 65 6 t1)) rfl ?_
            refine mz_go 17 (c' := (151, [some (.ref 65), some (.int 1), some (.int 0), none, none], [.ref 65], mz_up (mz_up (mz_z m) 65 6 t1) 65 7 t2)) rfl ?_
            refine mz_do (R := mz_r151) (as := [.ref 65]) (rest := []) (r1 := some (.int 10)) (m1 := mz_up (mz_up (mz_z m) 65 6 t1) 65 7 t2) rfl ⟨?_, rfl⟩ ?_
            · refine mz_go 2 (c' := (2, [some (.ref 65), none], [.int 1, .ref 65], mz_up (mz_up (mz_z m) 65 6 t1) 65 7 t2)) rfl ?_
              refine mz_do (R := mz_r169) (as := [.ref 65, .int 1]) (rest := []) (r1 := some (.int 0)) (m1 := mz_up (mz_up (mz_z m) 65 6 t1) 65 7 t2) rfl ⟨?_, rfl⟩ ?_
              · refine mz_go 10 (c' := (21, [some (.ref 65), some (.int 1)], [.int 0], mz_up (mz_up (mz_z m) 65 6 t1) 65 7 t2)) rfl ?_
                exact mz_ret rfl
              refine mz_go 5 (c' := (15, [some (.ref 65), none], [.int 10], mz_up (mz_up (mz_z m) 65 6 t1) 65 7 t2)) rfl ?_
              exact mz_ret rfl
            refine mz_go 24 (c' := (190, [some (.ref 65), some (.int 1), some (.int 10), none, none], [.int 1, .int ((t2 * 10) / 100), .int t2, .ref 65], mz_up (mz_up (mz_up (mz_z m) 65 6 t1) 65 7 t2) 65 6 (t1 - (((t1 * 10) / 100) / 1)))) rfl ?_
            refine mz_go 23 (c' := (228, [some (.ref 65), some (.int 1), some (.int 10), some (.int t3), some (.int t4)], [.int 1600, .int (-1600), .int t3, .ref 65], mz_up (mz_up (mz_up (mz_up (mz_z m) 65 6 t1) 65 7 t2) 65 6 (t1 - (((t1 * 10) / 100) / 1))) 65 7 (t2 - (((t2 * 10) / 100) / 1)))) rfl ?_
            refine mz_do (R := mz_r130) (as := [.int t3, .int (-1600), .int 1600]) (rest := [.ref 65]) (r1 := some (.int (-1600))) (m1 := mz_up (mz_up (mz_up (mz_up (mz_z m) 65 6 t1) 65 7 t2) 65 6 (t1 - (((t1 * 10) / 100) / 1))) 65 7 (t2 - (((t2 * 10) / 100) / 1))) rfl ⟨?_, rfl⟩ ?_
            · refine mz_go 3 (c' := (if (-1600) ≤ t3 then 9 else 5, [some (.int t3), some (.int (-1600)), some (.int 1600)], [], mz_up (mz_up (mz_up (mz_up (mz_z m) 65 6 t1) 65 7 t2) 65 6 (t1 - (((t1 * 10) / 100) / 1))) 65 7 (t2 - (((t2 * 10) / 100) / 1)))) rfl ?_
              refine mz_ifF h1 ?_
              refine mz_go 2 (c' := (19, [some (.int t3), some (.int (-1600)), some (.int 1600)], [.int (-1600)], mz_up (mz_up (mz_up (mz_up (mz_z m) 65 6 t1) 65 7 t2) 65 6 (t1 - (((t1 * 10) / 100) / 1))) 65 7 (t2 - (((t2 * 10) / 100) / 1)))) rfl ?_
              exact mz_ret rfl
            refine mz_go 5 (c' := (243, [some (.ref 65), some (.int 1), some (.int 10), some (.int t3), some (.int t4)], [.int 1600, .int (-1600), .int t4, .ref 65], mz_up (mz_up (mz_up (mz_up (mz_up (mz_z m) 65 6 t1) 65 7 t2) 65 6 (t1 - (((t1 * 10) / 100) / 1))) 65 7 (t2 - (((t2 * 10) / 100) / 1))) 65 4 (-1600))) rfl ?_
            refine mz_do (R := mz_r130) (as := [.int t4, .int (-1600), .int 1600]) (rest := [.ref 65]) (r1 := some (.int (-1600))) (m1 := mz_up (mz_up (mz_up (mz_up (mz_up (mz_z m) 65 6 t1) 65 7 t2) 65 6 (t1 - (((t1 * 10) / 100) / 1))) 65 7 (t2 - (((t2 * 10) / 100) / 1))) 65 4 (-1600)) rfl ⟨?_, rfl⟩ ?_
            · refine mz_go 3 (c' := (if (-1600) ≤ t4 then 9 else 5, [some (.int t4), some (.int (-1600)), some (.int 1600)], [], mz_up (mz_up (mz_up (mz_up (mz_up (mz_z m) 65 6 t1) 65 7 t2) 65 6 (t1 - (((t1 * 10) / 100) / 1))) 65 7 (t2 - (((t2 * 10) / 100) / 1))) 65 4 (-1600))) rfl ?_
              refine mz_ifF h25 ?_
              refine mz_go 2 (c' := (19, [some (.int t4), some (.int (-1600)), some (.int 1600)], [.int (-1600)], mz_up (mz_up (mz_up (mz_up (mz_up (mz_z m) 65 6 t1) 65 7 t2) 65 6 (t1 - (((t1 * 10) / 100) / 1))) 65 7 (t2 - (((t2 * 10) / 100) / 1))) 65 4 (-1600))) rfl ?_
              exact mz_ret rfl
            refine mz_go 6 (c' := (if (-1600) = t3 then 258 else 265, [some (.ref 65), some (.int 1), some (.int 10), some (.int t3), some (.int t4)], [.ref 65], mz_up (mz_up (mz_up (mz_up (mz_up (mz_up (mz_z m) 65 6 t1) 65 7 t2) 65 6 (t1 - (((t1 * 10) / 100) / 1))) 65 7 (t2 - (((t2 * 10) / 100) / 1))) 65 4 (-1600)) 65 5 (-1600))) rfl ?_
            refine mz_ifF h33 ?_
            refine mz_go 7 (c' := (if (-1600) = t4 then 279 else 286, [some (.ref 65), some (.int 1), some (.int 10), some (.int t3), some (.int t4)], [.ref 65], mz_up (mz_up (mz_up (mz_up (mz_up (mz_up (mz_up (mz_z m) 65 6 t1) 65 7 t2) 65 6 (t1 - (((t1 * 10) / 100) / 1))) 65 7 (t2 - (((t2 * 10) / 100) / 1))) 65 4 (-1600)) 65 5 (-1600)) 65 6 0)) rfl ?_
            refine mz_ifF h35 ?_
            refine mz_go 8 (c' := (300, [some (.ref 65), some (.int 1), some (.int 10), some (.int t3), some (.int t4)], [], mz_up (mz_up (mz_up (mz_up (mz_up (mz_up (mz_up (mz_up (mz_up (mz_z m) 65 6 t1) 65 7 t2) 65 6 (t1 - (((t1 * 10) / 100) / 1))) 65 7 (t2 - (((t2 * 10) / 100) / 1))) 65 4 (-1600)) 65 5 (-1600)) 65 6 0) 65 7 0) 65 8 (((mz_z m) 65 8) + 1))) rfl ?_
            exact mz_ret rfl
