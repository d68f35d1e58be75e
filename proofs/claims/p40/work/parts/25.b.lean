set_option maxHeartbeats 4000000 in
set_option maxRecDepth 100000 in
theorem sc_bob {n : Nat} (hn : n < 64) {w : mz_M} (hI : sm_I n w) (xa : Int32) : ∃ v1 v2 m1 m2, mz_Me 100 mz_r80 [.ref 0, .int xa] w (some (.int v1)) m1 ∧ mz_Me 100 mz_r178 [.ref 65, .int xa] m1 (some (.int v2)) m2 ∧ sm_I (n + 1) m2 ∧ v1 = v2 := by
  have hI2 := hI
  obtain ⟨hn0, ⟨-, ⟨hr80, hr5, hrr⟩, ⟨⟨TT, hTT, h81, h661⟩, htp⟩, ⟨⟨T0, hT0, hU0, hV0, -⟩, ⟨T1, hT1, hU1, hV1, -⟩, ⟨T2, hT2, hU2, hV2, -⟩⟩, ⟨hbx, hby, hbl⟩, ⟨⟨WW, HH, hWW, hHH, hWH, h202, h203, h6660, h6661⟩, h6662, h6663, h6664, hpc⟩, ⟨hth, h66160, hthr⟩, ⟨⟨AA, hAA, h111, h662⟩, h663, hwt⟩⟩, ⟨hsh, hsn⟩, ⟨hcb1, hcb2⟩, ⟨JJ, hJJ, h07, h652, hkept⟩⟩ := hI
  obtain ⟨N, hw, hr2, h660, -, -, h6615⟩ := sm_world hI2
  have hw2 := hw
  obtain ⟨hN, h4, hpb, -, -⟩ := hw2
  have hT60a := sm_T60 hV0
  have hT60b := sm_T60 hV1
  have hT60c := sm_T60 hV2
  obtain ⟨B1, hB1, e571⟩ := sm_Nof (by decide) hcb1
  obtain ⟨B2, hB2, e6519⟩ := sm_Nof (by decide) hcb2
  refine mz_two (fun _ => rfl) (fun _ => rfl) ?_
  by_cases q1 : xa < 0
  · refine mz_goP 1 (c' := (1, [some (.ref 0), some (.int xa)], [.int xa], w)) rfl ?_
    refine mz_swdP (c' := (110, [some (.ref 0), some (.int xa)], [], w)) rfl (Or.inl (Int32.lt_iff_toInt_lt.mp q1)) ?_
    refine mz_goP 2 (c' := (112, [some (.ref 0), some (.int xa)], [.int 1, .ref 0], w)) rfl ?_
    refine mz_doPQ (R := mz_r109) (as := [.ref 0, .int 1]) (rest := []) (r1 := some (.int (-1000001))) (m1 := mz_up w 64 1 ((w 64 1) + 1)) mz_t109 mz_v109_0 rfl rfl rfl rfl rfl ((cs_err1 (m := w)).deep (by decide)) ?_
    refine mz_retP (r := (some (.int ((-1000001))), mz_up w 64 1 ((w 64 1) + 1))) rfl ⟨(-1000001), rfl, ?_⟩
    refine mz_goP 3 (c' := (3, [some (.ref 65), some (.int xa)], [.int 5, .int 0, .int xa], mz_up w 64 1 ((w 64 1) + 1))) rfl ?_
    refine mz_doPQ (R := mz_r128) (as := [.int xa, .int 0, .int 5]) (rest := []) (r1 := some (.int 0)) (m1 := mz_up w 64 1 ((w 64 1) + 1)) mz_t128 mz_v128 rfl rfl rfl rfl rfl ((ct_inL (m := mz_up w 64 1 ((w 64 1) + 1)) (v := xa) (a := 0) (b := 5) q1).deep (by decide)) ?_
    refine mz_goP 3 (c' := (11, [some (.ref 65), some (.int xa)], [.int 1, .ref 65], mz_up w 64 1 ((w 64 1) + 1))) rfl ?_
    refine mz_doPQ (R := mz_r127) (as := [.ref 65, .int 1]) (rest := []) (r1 := some (.int (-1000001))) (m1 := mz_up (mz_up w 64 1 ((w 64 1) + 1)) 68 1 ((w 68 1) + 1)) mz_t127 mz_v127_65 rfl rfl rfl rfl rfl ((ct_err1 (m := mz_up w 64 1 ((w 64 1) + 1))).deep (by decide)) ?_
    refine mz_retP (r := (some (.int ((-1000001))), mz_up (mz_up w 64 1 ((w 64 1) + 1)) 68 1 ((w 68 1) + 1))) rfl ⟨(-1000001), rfl, ?_, rfl⟩
    show sm_I (n + 1) (mz_up (mz_up w 64 1 ((w 64 1) + 1)) 68 1 ((w 68 1) + 1))
    exact sm_I_scr hn hI2 (fun i hi => by
      have hne : ∀ r, sm_scr r = true → i ≠ r := fun r hr e => by
        rw [e, hr] at hi
        cases hi
      simp only [mz_up_ne (hne 64 rfl), mz_up_ne (hne 68 rfl)]) rfl rfl
  · by_cases q2 : 5 < xa
    · refine mz_goP 1 (c' := (1, [some (.ref 0), some (.int xa)], [.int xa], w)) rfl ?_
      refine mz_swdP (c' := (110, [some (.ref 0), some (.int xa)], [], w)) rfl (Or.inr (Int32.lt_iff_toInt_lt.mp q2)) ?_
      refine mz_goP 2 (c' := (112, [some (.ref 0), some (.int xa)], [.int 1, .ref 0], w)) rfl ?_
      refine mz_doPQ (R := mz_r109) (as := [.ref 0, .int 1]) (rest := []) (r1 := some (.int (-1000001))) (m1 := mz_up w 64 1 ((w 64 1) + 1)) mz_t109 mz_v109_0 rfl rfl rfl rfl rfl ((cs_err1 (m := w)).deep (by decide)) ?_
      refine mz_retP (r := (some (.int ((-1000001))), mz_up w 64 1 ((w 64 1) + 1))) rfl ⟨(-1000001), rfl, ?_⟩
      refine mz_goP 3 (c' := (3, [some (.ref 65), some (.int xa)], [.int 5, .int 0, .int xa], mz_up w 64 1 ((w 64 1) + 1))) rfl ?_
      refine mz_doPQ (R := mz_r128) (as := [.int xa, .int 0, .int 5]) (rest := []) (r1 := some (.int 0)) (m1 := mz_up w 64 1 ((w 64 1) + 1)) mz_t128 mz_v128 rfl rfl rfl rfl rfl ((ct_inG (m := mz_up w 64 1 ((w 64 1) + 1)) (v := xa) (a := 0) (b := 5) q1 q2).deep (by decide)) ?_
      refine mz_goP 3 (c' := (11, [some (.ref 65), some (.int xa)], [.int 1, .ref 65], mz_up w 64 1 ((w 64 1) + 1))) rfl ?_
      refine mz_doPQ (R := mz_r127) (as := [.ref 65, .int 1]) (rest := []) (r1 := some (.int (-1000001))) (m1 := mz_up (mz_up w 64 1 ((w 64 1) + 1)) 68 1 ((w 68 1) + 1)) mz_t127 mz_v127_65 rfl rfl rfl rfl rfl ((ct_err1 (m := mz_up w 64 1 ((w 64 1) + 1))).deep (by decide)) ?_
      refine mz_retP (r := (some (.int ((-1000001))), mz_up (mz_up w 64 1 ((w 64 1) + 1)) 68 1 ((w 68 1) + 1))) rfl ⟨(-1000001), rfl, ?_, rfl⟩
      show sm_I (n + 1) (mz_up (mz_up w 64 1 ((w 64 1) + 1)) 68 1 ((w 68 1) + 1))
      exact sm_I_scr hn hI2 (fun i hi => by
        have hne : ∀ r, sm_scr r = true → i ≠ r := fun r hr e => by
          rw [e, hr] at hi
          cases hi
        simp only [mz_up_ne (hne 64 rfl), mz_up_ne (hne 68 rfl)]) rfl rfl
    · have hl3 : (0 : Int) ≤ (xa).toInt := Int32.le_iff_toInt_le.mp (Int32.not_lt.mp q1)
      have hu3 : (xa).toInt ≤ (5 : Int) := Int32.le_iff_toInt_le.mp (Int32.not_lt.mp q2)
      obtain rfl | rfl | rfl | rfl | rfl | rfl : xa = 0 ∨ xa = 1 ∨ xa = 2 ∨ xa = 3 ∨ xa = 4 ∨ xa = 5 := by
        rcases (show xa.toInt = 0 ∨ xa.toInt = 1 ∨ xa.toInt = 2 ∨ xa.toInt = 3 ∨ xa.toInt = 4 ∨ xa.toInt = 5 by omega) with h | h | h | h | h | h
        · exact (Or.inl (Int32.toInt_inj.mp h))
        · exact (Or.inr (Or.inl (Int32.toInt_inj.mp h)))
        · exact (Or.inr (Or.inr (Or.inl (Int32.toInt_inj.mp h))))
        · exact (Or.inr (Or.inr (Or.inr (Or.inl (Int32.toInt_inj.mp h)))))
        · exact (Or.inr (Or.inr (Or.inr (Or.inr (Or.inl (Int32.toInt_inj.mp h))))))
        · exact (Or.inr (Or.inr (Or.inr (Or.inr (Or.inr (Int32.toInt_inj.mp h))))))
      · refine mz_goP 6 (c' := (50, [some (.ref 0), some (.int 0)], [.int (w 19 0)], w)) rfl ?_
        refine mz_retP (r := (some (.int (w 19 0)), w)) rfl ⟨w 19 0, rfl, ?_⟩
        refine mz_goP 3 (c' := (3, [some (.ref 65), some (.int 0)], [.int 5, .int 0, .int 0], w)) rfl ?_
        refine mz_doPQ (R := mz_r128) (as := [.int 0, .int 0, .int 5]) (rest := []) (r1 := some (.int 1)) (m1 := w) mz_t128 mz_v128 rfl rfl rfl rfl rfl ((ct_in1 (m := w) (v := 0) (a := 0) (b := 5) (by decide) (by decide)).deep (by decide)) ?_
        refine mz_goP 2 (c' := (16, [some (.ref 65), some (.int 0)], [.ref 65], w)) rfl ?_
        refine mz_doPQ (R := mz_r145) (as := [.ref 65]) (rest := []) (r1 := none) (m1 := mz_up (mz_up (mz_up (mz_up (mz_up w 65 4 (w 19 0)) 65 5 (w 19 1)) 65 6 (w 19 2)) 65 7 (w 19 3)) 65 8 (w 19 4)) mz_t145 mz_v145_65 rfl rfl rfl rfl rfl ⟨?_, rfl⟩ ?_
        · refine mz_go 5 (c' := (8, [some (.ref 65)], [.int (w 66 20), .ref 65], w)) rfl ?_
          rw [show w 66 20 = w 19 0 from hbl.1]
          refine mz_go 6 (c' := (19, [some (.ref 65)], [.int (w 66 21), .ref 65], mz_up w 65 4 (w 19 0))) rfl ?_
          rw [show w 66 21 = w 19 1 from hbl.2.1]
          refine mz_go 6 (c' := (30, [some (.ref 65)], [.int (w 66 22), .ref 65], mz_up (mz_up w 65 4 (w 19 0)) 65 5 (w 19 1))) rfl ?_
          rw [show w 66 22 = w 19 2 from hbl.2.2.1]
          refine mz_go 6 (c' := (41, [some (.ref 65)], [.int (w 66 23), .ref 65], mz_up (mz_up (mz_up w 65 4 (w 19 0)) 65 5 (w 19 1)) 65 6 (w 19 2))) rfl ?_
          rw [show w 66 23 = w 19 3 from hbl.2.2.2.1]
          refine mz_go 6 (c' := (52, [some (.ref 65)], [.int (w 66 24), .ref 65], mz_up (mz_up (mz_up (mz_up w 65 4 (w 19 0)) 65 5 (w 19 1)) 65 6 (w 19 2)) 65 7 (w 19 3))) rfl ?_
          rw [show w 66 24 = w 19 4 from hbl.2.2.2.2]
          refine mz_go 1 (c' := (55, [some (.ref 65)], [], mz_up (mz_up (mz_up (mz_up (mz_up w 65 4 (w 19 0)) 65 5 (w 19 1)) 65 6 (w 19 2)) 65 7 (w 19 3)) 65 8 (w 19 4))) rfl ?_
          exact mz_ret rfl
        refine mz_goP 9 (c' := (33, [some (.ref 65), some (.int 0)], [.int (w 66 20)], mz_up (mz_up (mz_up (mz_up (mz_up w 65 4 (w 19 0)) 65 5 (w 19 1)) 65 6 (w 19 2)) 65 7 (w 19 3)) 65 8 (w 19 4))) rfl ?_
        rw [show w 66 20 = w 19 0 from hbl.1]
        refine mz_goP 1 (c' := (40, [some (.ref 65), some (.int 0)], [.int (w 19 0)], mz_up (mz_up (mz_up (mz_up (mz_up w 65 4 (w 19 0)) 65 5 (w 19 1)) 65 6 (w 19 2)) 65 7 (w 19 3)) 65 8 (w 19 4))) rfl ?_
        refine mz_retP (r := (some (.int (w 19 0)), mz_up (mz_up (mz_up (mz_up (mz_up w 65 4 (w 19 0)) 65 5 (w 19 1)) 65 6 (w 19 2)) 65 7 (w 19 3)) 65 8 (w 19 4))) rfl ⟨w 19 0, rfl, ?_, rfl⟩
        show sm_I (n + 1) (mz_up (mz_up (mz_up (mz_up (mz_up w 65 4 (w 19 0)) 65 5 (w 19 1)) 65 6 (w 19 2)) 65 7 (w 19 3)) 65 8 (w 19 4))
        exact sm_I_scr hn hI2 (fun i hi => by
          have hne : ∀ r, sm_scr r = true → i ≠ r := fun r hr e => by
            rw [e, hr] at hi
            cases hi
          simp only [mz_up_ne (hne 65 rfl)]) rfl rfl
      · refine mz_goP 6 (c' := (61, [some (.ref 0), some (.int 1)], [.int (w 19 1)], w)) rfl ?_
        refine mz_retP (r := (some (.int (w 19 1)), w)) rfl ⟨w 19 1, rfl, ?_⟩
        refine mz_goP 3 (c' := (3, [some (.ref 65), some (.int 1)], [.int 5, .int 0, .int 1], w)) rfl ?_
        refine mz_doPQ (R := mz_r128) (as := [.int 1, .int 0, .int 5]) (rest := []) (r1 := some (.int 1)) (m1 := w) mz_t128 mz_v128 rfl rfl rfl rfl rfl ((ct_in1 (m := w) (v := 1) (a := 0) (b := 5) (by decide) (by decide)).deep (by decide)) ?_
        refine mz_goP 2 (c' := (16, [some (.ref 65), some (.int 1)], [.ref 65], w)) rfl ?_
        refine mz_doPQ (R := mz_r145) (as := [.ref 65]) (rest := []) (r1 := none) (m1 := mz_up (mz_up (mz_up (mz_up (mz_up w 65 4 (w 19 0)) 65 5 (w 19 1)) 65 6 (w 19 2)) 65 7 (w 19 3)) 65 8 (w 19 4)) mz_t145 mz_v145_65 rfl rfl rfl rfl rfl ⟨?_, rfl⟩ ?_
        · refine mz_go 5 (c' := (8, [some (.ref 65)], [.int (w 66 20), .ref 65], w)) rfl ?_
          rw [show w 66 20 = w 19 0 from hbl.1]
          refine mz_go 6 (c' := (19, [some (.ref 65)], [.int (w 66 21), .ref 65], mz_up w 65 4 (w 19 0))) rfl ?_
          rw [show w 66 21 = w 19 1 from hbl.2.1]
          refine mz_go 6 (c' := (30, [some (.ref 65)], [.int (w 66 22), .ref 65], mz_up (mz_up w 65 4 (w 19 0)) 65 5 (w 19 1))) rfl ?_
          rw [show w 66 22 = w 19 2 from hbl.2.2.1]
          refine mz_go 6 (c' := (41, [some (.ref 65)], [.int (w 66 23), .ref 65], mz_up (mz_up (mz_up w 65 4 (w 19 0)) 65 5 (w 19 1)) 65 6 (w 19 2))) rfl ?_
          rw [show w 66 23 = w 19 3 from hbl.2.2.2.1]
          refine mz_go 6 (c' := (52, [some (.ref 65)], [.int (w 66 24), .ref 65], mz_up (mz_up (mz_up (mz_up w 65 4 (w 19 0)) 65 5 (w 19 1)) 65 6 (w 19 2)) 65 7 (w 19 3))) rfl ?_
          rw [show w 66 24 = w 19 4 from hbl.2.2.2.2]
          refine mz_go 1 (c' := (55, [some (.ref 65)], [], mz_up (mz_up (mz_up (mz_up (mz_up w 65 4 (w 19 0)) 65 5 (w 19 1)) 65 6 (w 19 2)) 65 7 (w 19 3)) 65 8 (w 19 4))) rfl ?_
          exact mz_ret rfl
        refine mz_goP 9 (c' := (33, [some (.ref 65), some (.int 1)], [.int (w 66 21)], mz_up (mz_up (mz_up (mz_up (mz_up w 65 4 (w 19 0)) 65 5 (w 19 1)) 65 6 (w 19 2)) 65 7 (w 19 3)) 65 8 (w 19 4))) rfl ?_
        rw [show w 66 21 = w 19 1 from hbl.2.1]
        refine mz_goP 1 (c' := (40, [some (.ref 65), some (.int 1)], [.int (w 19 1)], mz_up (mz_up (mz_up (mz_up (mz_up w 65 4 (w 19 0)) 65 5 (w 19 1)) 65 6 (w 19 2)) 65 7 (w 19 3)) 65 8 (w 19 4))) rfl ?_
        refine mz_retP (r := (some (.int (w 19 1)), mz_up (mz_up (mz_up (mz_up (mz_up w 65 4 (w 19 0)) 65 5 (w 19 1)) 65 6 (w 19 2)) 65 7 (w 19 3)) 65 8 (w 19 4))) rfl ⟨w 19 1, rfl, ?_, rfl⟩
        show sm_I (n + 1) (mz_up (mz_up (mz_up (mz_up (mz_up w 65 4 (w 19 0)) 65 5 (w 19 1)) 65 6 (w 19 2)) 65 7 (w 19 3)) 65 8 (w 19 4))
        exact sm_I_scr hn hI2 (fun i hi => by
          have hne : ∀ r, sm_scr r = true → i ≠ r := fun r hr e => by
            rw [e, hr] at hi
            cases hi
          simp only [mz_up_ne (hne 65 rfl)]) rfl rfl
      · refine mz_goP 6 (c' := (72, [some (.ref 0), some (.int 2)], [.int (w 19 2)], w)) rfl ?_
        refine mz_retP (r := (some (.int (w 19 2)), w)) rfl ⟨w 19 2, rfl, ?_⟩
        refine mz_goP 3 (c' := (3, [some (.ref 65), some (.int 2)], [.int 5, .int 0, .int 2], w)) rfl ?_
        refine mz_doPQ (R := mz_r128) (as := [.int 2, .int 0, .int 5]) (rest := []) (r1 := some (.int 1)) (m1 := w) mz_t128 mz_v128 rfl rfl rfl rfl rfl ((ct_in1 (m := w) (v := 2) (a := 0) (b := 5) (by decide) (by decide)).deep (by decide)) ?_
        refine mz_goP 2 (c' := (16, [some (.ref 65), some (.int 2)], [.ref 65], w)) rfl ?_
        refine mz_doPQ (R := mz_r145) (as := [.ref 65]) (rest := []) (r1 := none) (m1 := mz_up (mz_up (mz_up (mz_up (mz_up w 65 4 (w 19 0)) 65 5 (w 19 1)) 65 6 (w 19 2)) 65 7 (w 19 3)) 65 8 (w 19 4)) mz_t145 mz_v145_65 rfl rfl rfl rfl rfl ⟨?_, rfl⟩ ?_
        · refine mz_go 5 (c' := (8, [some (.ref 65)], [.int (w 66 20), .ref 65], w)) rfl ?_
          rw [show w 66 20 = w 19 0 from hbl.1]
          refine mz_go 6 (c' := (19, [some (.ref 65)], [.int (w 66 21), .ref 65], mz_up w 65 4 (w 19 0))) rfl ?_
          rw [show w 66 21 = w 19 1 from hbl.2.1]
          refine mz_go 6 (c' := (30, [some (.ref 65)], [.int (w 66 22), .ref 65], mz_up (mz_up w 65 4 (w 19 0)) 65 5 (w 19 1))) rfl ?_
          rw [show w 66 22 = w 19 2 from hbl.2.2.1]
          refine mz_go 6 (c' := (41, [some (.ref 65)], [.int (w 66 23), .ref 65], mz_up (mz_up (mz_up w 65 4 (w 19 0)) 65 5 (w 19 1)) 65 6 (w 19 2))) rfl ?_
          rw [show w 66 23 = w 19 3 from hbl.2.2.2.1]
          refine mz_go 6 (c' := (52, [some (.ref 65)], [.int (w 66 24), .ref 65], mz_up (mz_up (mz_up (mz_up w 65 4 (w 19 0)) 65 5 (w 19 1)) 65 6 (w 19 2)) 65 7 (w 19 3))) rfl ?_
          rw [show w 66 24 = w 19 4 from hbl.2.2.2.2]
          refine mz_go 1 (c' := (55, [some (.ref 65)], [], mz_up (mz_up (mz_up (mz_up (mz_up w 65 4 (w 19 0)) 65 5 (w 19 1)) 65 6 (w 19 2)) 65 7 (w 19 3)) 65 8 (w 19 4))) rfl ?_
          exact mz_ret rfl
        refine mz_goP 9 (c' := (33, [some (.ref 65), some (.int 2)], [.int (w 66 22)], mz_up (mz_up (mz_up (mz_up (mz_up w 65 4 (w 19 0)) 65 5 (w 19 1)) 65 6 (w 19 2)) 65 7 (w 19 3)) 65 8 (w 19 4))) rfl ?_
        rw [show w 66 22 = w 19 2 from hbl.2.2.1]
        refine mz_goP 1 (c' := (40, [some (.ref 65), some (.int 2)], [.int (w 19 2)], mz_up (mz_up (mz_up (mz_up (mz_up w 65 4 (w 19 0)) 65 5 (w 19 1)) 65 6 (w 19 2)) 65 7 (w 19 3)) 65 8 (w 19 4))) rfl ?_
        refine mz_retP (r := (some (.int (w 19 2)), mz_up (mz_up (mz_up (mz_up (mz_up w 65 4 (w 19 0)) 65 5 (w 19 1)) 65 6 (w 19 2)) 65 7 (w 19 3)) 65 8 (w 19 4))) rfl ⟨w 19 2, rfl, ?_, rfl⟩
        show sm_I (n + 1) (mz_up (mz_up (mz_up (mz_up (mz_up w 65 4 (w 19 0)) 65 5 (w 19 1)) 65 6 (w 19 2)) 65 7 (w 19 3)) 65 8 (w 19 4))
        exact sm_I_scr hn hI2 (fun i hi => by
          have hne : ∀ r, sm_scr r = true → i ≠ r := fun r hr e => by
            rw [e, hr] at hi
            cases hi
          simp only [mz_up_ne (hne 65 rfl)]) rfl rfl
      · refine mz_goP 6 (c' := (83, [some (.ref 0), some (.int 3)], [.int (w 19 3)], w)) rfl ?_
        refine mz_retP (r := (some (.int (w 19 3)), w)) rfl ⟨w 19 3, rfl, ?_⟩
        refine mz_goP 3 (c' := (3, [some (.ref 65), some (.int 3)], [.int 5, .int 0, .int 3], w)) rfl ?_
        refine mz_doPQ (R := mz_r128) (as := [.int 3, .int 0, .int 5]) (rest := []) (r1 := some (.int 1)) (m1 := w) mz_t128 mz_v128 rfl rfl rfl rfl rfl ((ct_in1 (m := w) (v := 3) (a := 0) (b := 5) (by decide) (by decide)).deep (by decide)) ?_
        refine mz_goP 2 (c' := (16, [some (.ref 65), some (.int 3)], [.ref 65], w)) rfl ?_
        refine mz_doPQ (R := mz_r145) (as := [.ref 65]) (rest := []) (r1 := none) (m1 := mz_up (mz_up (mz_up (mz_up (mz_up w 65 4 (w 19 0)) 65 5 (w 19 1)) 65 6 (w 19 2)) 65 7 (w 19 3)) 65 8 (w 19 4)) mz_t145 mz_v145_65 rfl rfl rfl rfl rfl ⟨?_, rfl⟩ ?_
        · refine mz_go 5 (c' := (8, [some (.ref 65)], [.int (w 66 20), .ref 65], w)) rfl ?_
          rw [show w 66 20 = w 19 0 from hbl.1]
          refine mz_go 6 (c' := (19, [some (.ref 65)], [.int (w 66 21), .ref 65], mz_up w 65 4 (w 19 0))) rfl ?_
          rw [show w 66 21 = w 19 1 from hbl.2.1]
          refine mz_go 6 (c' := (30, [some (.ref 65)], [.int (w 66 22), .ref 65], mz_up (mz_up w 65 4 (w 19 0)) 65 5 (w 19 1))) rfl ?_
          rw [show w 66 22 = w 19 2 from hbl.2.2.1]
          refine mz_go 6 (c' := (41, [some (.ref 65)], [.int (w 66 23), .ref 65], mz_up (mz_up (mz_up w 65 4 (w 19 0)) 65 5 (w 19 1)) 65 6 (w 19 2))) rfl ?_
          rw [show w 66 23 = w 19 3 from hbl.2.2.2.1]
          refine mz_go 6 (c' := (52, [some (.ref 65)], [.int (w 66 24), .ref 65], mz_up (mz_up (mz_up (mz_up w 65 4 (w 19 0)) 65 5 (w 19 1)) 65 6 (w 19 2)) 65 7 (w 19 3))) rfl ?_
          rw [show w 66 24 = w 19 4 from hbl.2.2.2.2]
          refine mz_go 1 (c' := (55, [some (.ref 65)], [], mz_up (mz_up (mz_up (mz_up (mz_up w 65 4 (w 19 0)) 65 5 (w 19 1)) 65 6 (w 19 2)) 65 7 (w 19 3)) 65 8 (w 19 4))) rfl ?_
          exact mz_ret rfl
        refine mz_goP 9 (c' := (33, [some (.ref 65), some (.int 3)], [.int (w 66 23)], mz_up (mz_up (mz_up (mz_up (mz_up w 65 4 (w 19 0)) 65 5 (w 19 1)) 65 6 (w 19 2)) 65 7 (w 19 3)) 65 8 (w 19 4))) rfl ?_
        rw [show w 66 23 = w 19 3 from hbl.2.2.2.1]
        refine mz_goP 1 (c' := (40, [some (.ref 65), some (.int 3)], [.int (w 19 3)], mz_up (mz_up (mz_up (mz_up (mz_up w 65 4 (w 19 0)) 65 5 (w 19 1)) 65 6 (w 19 2)) 65 7 (w 19 3)) 65 8 (w 19 4))) rfl ?_
        refine mz_retP (r := (some (.int (w 19 3)), mz_up (mz_up (mz_up (mz_up (mz_up w 65 4 (w 19 0)) 65 5 (w 19 1)) 65 6 (w 19 2)) 65 7 (w 19 3)) 65 8 (w 19 4))) rfl ⟨w 19 3, rfl, ?_, rfl⟩
        show sm_I (n + 1) (mz_up (mz_up (mz_up (mz_up (mz_up w 65 4 (w 19 0)) 65 5 (w 19 1)) 65 6 (w 19 2)) 65 7 (w 19 3)) 65 8 (w 19 4))
        exact sm_I_scr hn hI2 (fun i hi => by
          have hne : ∀ r, sm_scr r = true → i ≠ r := fun r hr e => by
            rw [e, hr] at hi
            cases hi
          simp only [mz_up_ne (hne 65 rfl)]) rfl rfl
      · refine mz_goP 6 (c' := (94, [some (.ref 0), some (.int 4)], [.int (w 19 4)], w)) rfl ?_
        refine mz_retP (r := (some (.int (w 19 4)), w)) rfl ⟨w 19 4, rfl, ?_⟩
        refine mz_goP 3 (c' := (3, [some (.ref 65), some (.int 4)], [.int 5, .int 0, .int 4], w)) rfl ?_
        refine mz_doPQ (R := mz_r128) (as := [.int 4, .int 0, .int 5]) (rest := []) (r1 := some (.int 1)) (m1 := w) mz_t128 mz_v128 rfl rfl rfl rfl rfl ((ct_in1 (m := w) (v := 4) (a := 0) (b := 5) (by decide) (by decide)).deep (by decide)) ?_
        refine mz_goP 2 (c' := (16, [some (.ref 65), some (.int 4)], [.ref 65], w)) rfl ?_
        refine mz_doPQ (R := mz_r145) (as := [.ref 65]) (rest := []) (r1 := none) (m1 := mz_up (mz_up (mz_up (mz_up (mz_up w 65 4 (w 19 0)) 65 5 (w 19 1)) 65 6 (w 19 2)) 65 7 (w 19 3)) 65 8 (w 19 4)) mz_t145 mz_v145_65 rfl rfl rfl rfl rfl ⟨?_, rfl⟩ ?_
        · refine mz_go 5 (c' := (8, [some (.ref 65)], [.int (w 66 20), .ref 65], w)) rfl ?_
          rw [show w 66 20 = w 19 0 from hbl.1]
          refine mz_go 6 (c' := (19, [some (.ref 65)], [.int (w 66 21), .ref 65], mz_up w 65 4 (w 19 0))) rfl ?_
          rw [show w 66 21 = w 19 1 from hbl.2.1]
          refine mz_go 6 (c' := (30, [some (.ref 65)], [.int (w 66 22), .ref 65], mz_up (mz_up w 65 4 (w 19 0)) 65 5 (w 19 1))) rfl ?_
          rw [show w 66 22 = w 19 2 from hbl.2.2.1]
          refine mz_go 6 (c' := (41, [some (.ref 65)], [.int (w 66 23), .ref 65], mz_up (mz_up (mz_up w 65 4 (w 19 0)) 65 5 (w 19 1)) 65 6 (w 19 2))) rfl ?_
          rw [show w 66 23 = w 19 3 from hbl.2.2.2.1]
          refine mz_go 6 (c' := (52, [some (.ref 65)], [.int (w 66 24), .ref 65], mz_up (mz_up (mz_up (mz_up w 65 4 (w 19 0)) 65 5 (w 19 1)) 65 6 (w 19 2)) 65 7 (w 19 3))) rfl ?_
          rw [show w 66 24 = w 19 4 from hbl.2.2.2.2]
          refine mz_go 1 (c' := (55, [some (.ref 65)], [], mz_up (mz_up (mz_up (mz_up (mz_up w 65 4 (w 19 0)) 65 5 (w 19 1)) 65 6 (w 19 2)) 65 7 (w 19 3)) 65 8 (w 19 4))) rfl ?_
          exact mz_ret rfl
        refine mz_goP 9 (c' := (33, [some (.ref 65), some (.int 4)], [.int (w 66 24)], mz_up (mz_up (mz_up (mz_up (mz_up w 65 4 (w 19 0)) 65 5 (w 19 1)) 65 6 (w 19 2)) 65 7 (w 19 3)) 65 8 (w 19 4))) rfl ?_
        rw [show w 66 24 = w 19 4 from hbl.2.2.2.2]
        refine mz_goP 1 (c' := (40, [some (.ref 65), some (.int 4)], [.int (w 19 4)], mz_up (mz_up (mz_up (mz_up (mz_up w 65 4 (w 19 0)) 65 5 (w 19 1)) 65 6 (w 19 2)) 65 7 (w 19 3)) 65 8 (w 19 4))) rfl ?_
        refine mz_retP (r := (some (.int (w 19 4)), mz_up (mz_up (mz_up (mz_up (mz_up w 65 4 (w 19 0)) 65 5 (w 19 1)) 65 6 (w 19 2)) 65 7 (w 19 3)) 65 8 (w 19 4))) rfl ⟨w 19 4, rfl, ?_, rfl⟩
        show sm_I (n + 1) (mz_up (mz_up (mz_up (mz_up (mz_up w 65 4 (w 19 0)) 65 5 (w 19 1)) 65 6 (w 19 2)) 65 7 (w 19 3)) 65 8 (w 19 4))
        exact sm_I_scr hn hI2 (fun i hi => by
          have hne : ∀ r, sm_scr r = true → i ≠ r := fun r hr e => by
            rw [e, hr] at hi
            cases hi
          simp only [mz_up_ne (hne 65 rfl)]) rfl rfl
      · refine mz_goP 7 (c' := (106, [some (.ref 0), some (.int 5)], [.ref 19, .ref 49], w)) rfl ?_
        refine mz_doPQ (R := mz_r37) (as := [.ref 49, .ref 19]) (rest := []) (r1 := some (.int (sm_rest w (w 19)))) (m1 := w) mz_t37 mz_v37_49 rfl rfl rfl rfl rfl ((cw_rest19 (m := w) (w := w) (sm_Wl_r w) hw).deep (by decide)) ?_
        refine mz_retP (r := (some (.int (sm_rest w (w 19))), w)) rfl ⟨sm_rest w (w 19), rfl, ?_⟩
        refine mz_goP 3 (c' := (3, [some (.ref 65), some (.int 5)], [.int 5, .int 0, .int 5], w)) rfl ?_
        refine mz_doPQ (R := mz_r128) (as := [.int 5, .int 0, .int 5]) (rest := []) (r1 := some (.int 1)) (m1 := w) mz_t128 mz_v128 rfl rfl rfl rfl rfl ((ct_in1 (m := w) (v := 5) (a := 0) (b := 5) (by decide) (by decide)).deep (by decide)) ?_
        refine mz_goP 2 (c' := (16, [some (.ref 65), some (.int 5)], [.ref 65], w)) rfl ?_
        refine mz_doPQ (R := mz_r145) (as := [.ref 65]) (rest := []) (r1 := none) (m1 := mz_up (mz_up (mz_up (mz_up (mz_up w 65 4 (w 19 0)) 65 5 (w 19 1)) 65 6 (w 19 2)) 65 7 (w 19 3)) 65 8 (w 19 4)) mz_t145 mz_v145_65 rfl rfl rfl rfl rfl ⟨?_, rfl⟩ ?_
        · refine mz_go 5 (c' := (8, [some (.ref 65)], [.int (w 66 20), .ref 65], w)) rfl ?_
          rw [show w 66 20 = w 19 0 from hbl.1]
          refine mz_go 6 (c' := (19, [some (.ref 65)], [.int (w 66 21), .ref 65], mz_up w 65 4 (w 19 0))) rfl ?_
          rw [show w 66 21 = w 19 1 from hbl.2.1]
          refine mz_go 6 (c' := (30, [some (.ref 65)], [.int (w 66 22), .ref 65], mz_up (mz_up w 65 4 (w 19 0)) 65 5 (w 19 1))) rfl ?_
          rw [show w 66 22 = w 19 2 from hbl.2.2.1]
          refine mz_go 6 (c' := (41, [some (.ref 65)], [.int (w 66 23), .ref 65], mz_up (mz_up (mz_up w 65 4 (w 19 0)) 65 5 (w 19 1)) 65 6 (w 19 2))) rfl ?_
          rw [show w 66 23 = w 19 3 from hbl.2.2.2.1]
          refine mz_go 6 (c' := (52, [some (.ref 65)], [.int (w 66 24), .ref 65], mz_up (mz_up (mz_up (mz_up w 65 4 (w 19 0)) 65 5 (w 19 1)) 65 6 (w 19 2)) 65 7 (w 19 3))) rfl ?_
          rw [show w 66 24 = w 19 4 from hbl.2.2.2.2]
          refine mz_go 1 (c' := (55, [some (.ref 65)], [], mz_up (mz_up (mz_up (mz_up (mz_up w 65 4 (w 19 0)) 65 5 (w 19 1)) 65 6 (w 19 2)) 65 7 (w 19 3)) 65 8 (w 19 4))) rfl ?_
          exact mz_ret rfl
        refine mz_goP 4 (c' := (37, [some (.ref 65), some (.int 5)], [.ref 65], mz_up (mz_up (mz_up (mz_up (mz_up w 65 4 (w 19 0)) 65 5 (w 19 1)) 65 6 (w 19 2)) 65 7 (w 19 3)) 65 8 (w 19 4))) rfl ?_
        refine mz_doPQ (R := mz_r153) (as := [.ref 65]) (rest := []) (r1 := some (.int (sm_rest w (w 19)))) (m1 := mz_up (mz_up (mz_up (mz_up (mz_up w 65 4 (w 19 0)) 65 5 (w 19 1)) 65 6 (w 19 2)) 65 7 (w 19 3)) 65 8 (w 19 4)) mz_t153 mz_v153_65 rfl rfl rfl rfl rfl ((ct_rest (w := w) (m := mz_up (mz_up (mz_up (mz_up (mz_up w 65 4 (w 19 0)) 65 5 (w 19 1)) 65 6 (w 19 2)) 65 7 (w 19 3)) 65 8 (w 19 4)) hw hr2 (B := w 19) ⟨rfl, rfl, rfl, rfl, rfl⟩).deep (by decide)) ?_
        refine mz_retP (r := (some (.int (sm_rest w (w 19))), mz_up (mz_up (mz_up (mz_up (mz_up w 65 4 (w 19 0)) 65 5 (w 19 1)) 65 6 (w 19 2)) 65 7 (w 19 3)) 65 8 (w 19 4))) rfl ⟨sm_rest w (w 19), rfl, ?_, rfl⟩
        show sm_I (n + 1) (mz_up (mz_up (mz_up (mz_up (mz_up w 65 4 (w 19 0)) 65 5 (w 19 1)) 65 6 (w 19 2)) 65 7 (w 19 3)) 65 8 (w 19 4))
        exact sm_I_scr hn hI2 (fun i hi => by
          have hne : ∀ r, sm_scr r = true → i ≠ r := fun r hr e => by
            rw [e, hr] at hi
            cases hi
          simp only [mz_up_ne (hne 65 rfl)]) rfl rfl
set_option maxHeartbeats 4000000 in
set_option maxRecDepth 100000 in
theorem sc_ends {n : Nat} (hn : n < 64) {w : mz_M} (hI : sm_I n w) (xa : Int32) (xb : Int32) (xc : Int32) (xd : Int32) : ∃ v1 v2 m1 m2, mz_Me 100 mz_r81 [.ref 0, .int xa, .int xb, .int xc, .int xd] w (some (.int v1)) m1 ∧ mz_Me 100 mz_r179 [.ref 65, .int xa, .int xb, .int xc, .int xd] m1 (some (.int v2)) m2 ∧ sm_I (n + 1) m2 ∧ v1 = v2 := by
  have hI2 := hI
  obtain ⟨hn0, ⟨-, ⟨hr80, hr5, hrr⟩, ⟨⟨TT, hTT, h81, h661⟩, htp⟩, ⟨⟨T0, hT0, hU0, hV0, -⟩, ⟨T1, hT1, hU1, hV1, -⟩, ⟨T2, hT2, hU2, hV2, -⟩⟩, ⟨hbx, hby, hbl⟩, ⟨⟨WW, HH, hWW, hHH, hWH, h202, h203, h6660, h6661⟩, h6662, h6663, h6664, hpc⟩, ⟨hth, h66160, hthr⟩, ⟨⟨AA, hAA, h111, h662⟩, h663, hwt⟩⟩, ⟨hsh, hsn⟩, ⟨hcb1, hcb2⟩, ⟨JJ, hJJ, h07, h652, hkept⟩⟩ := hI
  obtain ⟨N, hw, hr2, h660, -, -, h6615⟩ := sm_world hI2
  have hw2 := hw
  obtain ⟨hN, h4, hpb, -, -⟩ := hw2
  have hT60a := sm_T60 hV0
  have hT60b := sm_T60 hV1
  have hT60c := sm_T60 hV2
  obtain ⟨B1, hB1, e571⟩ := sm_Nof (by decide) hcb1
  obtain ⟨B2, hB2, e6519⟩ := sm_Nof (by decide) hcb2
  refine mz_two (fun _ => rfl) (fun _ => rfl) ?_
  refine mz_goP 2 (c' := (2, [some (.ref 0), some (.int xa), some (.int xb), some (.int xc), some (.int xd)], [.int xb, .int xa], w)) rfl ?_
  by_cases q1 : (sm_bI (sm_plc xa xb)) = 0
  · refine mz_doPQ (R := mz_r116) (as := [.int xa, .int xb]) (rest := []) (r1 := some (.int (sm_bI (sm_plc xa xb)))) (m1 := w) mz_t116 mz_v116 rfl rfl rfl rfl rfl ((cs_plc (m := w) xa xb).deep (by decide)) ?_
    refine mz_goP 1 (c' := (if (sm_bI (sm_plc xa xb)) = 0 then 23 else 8, [some (.ref 0), some (.int xa), some (.int xb), some (.int xc), some (.int xd)], [], w)) rfl ?_
    refine mz_ifTP q1 ?_
    refine mz_goP 2 (c' := (25, [some (.ref 0), some (.int xa), some (.int xb), some (.int xc), some (.int xd)], [.int 1, .ref 0], w)) rfl ?_
    refine mz_doPQ (R := mz_r109) (as := [.ref 0, .int 1]) (rest := []) (r1 := some (.int (-1000001))) (m1 := mz_up w 64 1 ((w 64 1) + 1)) mz_t109 mz_v109_0 rfl rfl rfl rfl rfl ((cs_err1 (m := w)).deep (by decide)) ?_
    refine mz_retP (r := (some (.int ((-1000001))), mz_up w 64 1 ((w 64 1) + 1))) rfl ⟨(-1000001), rfl, ?_⟩
    refine mz_goP 2 (c' := (2, [some (.ref 65), some (.int xa), some (.int xb), some (.int xc), some (.int xd)], [.int xb, .int xa], mz_up w 64 1 ((w 64 1) + 1))) rfl ?_
    refine mz_doPQ (R := mz_r131) (as := [.int xa, .int xb]) (rest := []) (r1 := some (.int (sm_bI (sm_plc xa xb)))) (m1 := mz_up w 64 1 ((w 64 1) + 1)) mz_t131 mz_v131 rfl rfl rfl rfl rfl ((ct_plc (m := mz_up w 64 1 ((w 64 1) + 1)) xa xb).deep (by decide)) ?_
    refine mz_goP 1 (c' := (if (sm_bI (sm_plc xa xb)) = 0 then 17 else 8, [some (.ref 65), some (.int xa), some (.int xb), some (.int xc), some (.int xd)], [], mz_up w 64 1 ((w 64 1) + 1))) rfl ?_
    refine mz_ifTP q1 ?_
    refine mz_goP 2 (c' := (19, [some (.ref 65), some (.int xa), some (.int xb), some (.int xc), some (.int xd)], [.int 1, .ref 65], mz_up w 64 1 ((w 64 1) + 1))) rfl ?_
    refine mz_doPQ (R := mz_r127) (as := [.ref 65, .int 1]) (rest := []) (r1 := some (.int (-1000001))) (m1 := mz_up (mz_up w 64 1 ((w 64 1) + 1)) 68 1 ((w 68 1) + 1)) mz_t127 mz_v127_65 rfl rfl rfl rfl rfl ((ct_err1 (m := mz_up w 64 1 ((w 64 1) + 1))).deep (by decide)) ?_
    refine mz_retP (r := (some (.int ((-1000001))), mz_up (mz_up w 64 1 ((w 64 1) + 1)) 68 1 ((w 68 1) + 1))) rfl ⟨(-1000001), rfl, ?_, rfl⟩
    show sm_I (n + 1) (mz_up (mz_up w 64 1 ((w 64 1) + 1)) 68 1 ((w 68 1) + 1))
    exact sm_I_scr hn hI2 (fun i hi => by
      have hne : ∀ r, sm_scr r = true → i ≠ r := fun r hr e => by
        rw [e, hr] at hi
        cases hi
      simp only [mz_up_ne (hne 64 rfl), mz_up_ne (hne 68 rfl)]) rfl rfl
  · refine mz_doPQ (R := mz_r116) (as := [.int xa, .int xb]) (rest := []) (r1 := some (.int 1)) (m1 := w) mz_t116 mz_v116 rfl rfl rfl rfl rfl ⟨?_, rfl⟩ ?_
    · refine mz_go 3 (c' := (5, [some (.int xa), some (.int xb)], [.int 100, .int (-100), .int xa], w)) rfl ?_
      refine mz_doQ (R := mz_r121) (as := [.int xa, .int (-100), .int 100]) (rest := []) (r1 := some (.int 1)) (m1 := w) mz_t121 mz_v121 rfl rfl rfl rfl rfl ((cs_in1 (m := w) (v := xa) (a := (-100)) (b := 100) (show ¬ (xa < (-100)) from (sm_plc_of q1).1.1) (show ¬ (100 < xa) from (sm_plc_of q1).1.2)).deep (by decide)) ?_
      refine mz_go 4 (c' := (16, [some (.int xa), some (.int xb)], [.int 100, .int (-100), .int xb], w)) rfl ?_
      refine mz_doQ (R := mz_r121) (as := [.int xb, .int (-100), .int 100]) (rest := []) (r1 := some (.int 1)) (m1 := w) mz_t121 mz_v121 rfl rfl rfl rfl rfl ((cs_in1 (m := w) (v := xb) (a := (-100)) (b := 100) (show ¬ (xb < (-100)) from (sm_plc_of q1).2.1) (show ¬ (100 < xb) from (sm_plc_of q1).2.2)).deep (by decide)) ?_
      refine mz_go 3 (c' := (27, [some (.int xa), some (.int xb)], [.int 1], w)) rfl ?_
      exact mz_ret rfl
    refine mz_goP 2 (c' := (9, [some (.ref 0), some (.int xa), some (.int xb), some (.int xc), some (.int xd)], [.int xc], w)) rfl ?_
    by_cases q2 : (sm_bI (sm_in xc (-9999) 9999)) = 0
    · refine mz_doPQ (R := mz_r117) (as := [.int xc]) (rest := []) (r1 := some (.int (sm_bI (sm_in xc (-9999) 9999)))) (m1 := w) mz_t117 mz_v117 rfl rfl rfl rfl rfl ⟨?_, sm_fitB _⟩ ?_
      · refine mz_go 3 (c' := (7, [some (.int xc)], [.int 9999, .int (-9999), .int xc], w)) rfl ?_
        refine mz_doQ (R := mz_r121) (as := [.int xc, .int (-9999), .int 9999]) (rest := []) (r1 := some (.int (sm_bI (sm_in xc (-9999) 9999)))) (m1 := w) mz_t121 mz_v121 rfl rfl rfl rfl rfl ((cs_in (m := w) xc (-9999) 9999).deep (by decide)) ?_
        exact mz_ret rfl
      refine mz_goP 1 (c' := (if (sm_bI (sm_in xc (-9999) 9999)) = 0 then 23 else 15, [some (.ref 0), some (.int xa), some (.int xb), some (.int xc), some (.int xd)], [], w)) rfl ?_
      refine mz_ifTP q2 ?_
      refine mz_goP 2 (c' := (25, [some (.ref 0), some (.int xa), some (.int xb), some (.int xc), some (.int xd)], [.int 1, .ref 0], w)) rfl ?_
      refine mz_doPQ (R := mz_r109) (as := [.ref 0, .int 1]) (rest := []) (r1 := some (.int (-1000001))) (m1 := mz_up w 64 1 ((w 64 1) + 1)) mz_t109 mz_v109_0 rfl rfl rfl rfl rfl ((cs_err1 (m := w)).deep (by decide)) ?_
      refine mz_retP (r := (some (.int ((-1000001))), mz_up w 64 1 ((w 64 1) + 1))) rfl ⟨(-1000001), rfl, ?_⟩
      refine mz_goP 2 (c' := (2, [some (.ref 65), some (.int xa), some (.int xb), some (.int xc), some (.int xd)], [.int xb, .int xa], mz_up w 64 1 ((w 64 1) + 1))) rfl ?_
      refine mz_doPQ (R := mz_r131) (as := [.int xa, .int xb]) (rest := []) (r1 := some (.int 1)) (m1 := mz_up w 64 1 ((w 64 1) + 1)) mz_t131 mz_v131 rfl rfl rfl rfl rfl ⟨?_, rfl⟩ ?_
      · refine mz_go 3 (c' := (5, [some (.int xa), some (.int xb)], [.int 100, .int (-100), .int xa], mz_up w 64 1 ((w 64 1) + 1))) rfl ?_
        refine mz_doQ (R := mz_r128) (as := [.int xa, .int (-100), .int 100]) (rest := []) (r1 := some (.int 1)) (m1 := mz_up w 64 1 ((w 64 1) + 1)) mz_t128 mz_v128 rfl rfl rfl rfl rfl ((ct_in1 (m := mz_up w 64 1 ((w 64 1) + 1)) (v := xa) (a := (-100)) (b := 100) (show ¬ (xa < (-100)) from (sm_plc_of q1).1.1) (show ¬ (100 < xa) from (sm_plc_of q1).1.2)).deep (by decide)) ?_
        refine mz_go 4 (c' := (16, [some (.int xa), some (.int xb)], [.int 100, .int (-100), .int xb], mz_up w 64 1 ((w 64 1) + 1))) rfl ?_
        refine mz_doQ (R := mz_r128) (as := [.int xb, .int (-100), .int 100]) (rest := []) (r1 := some (.int 1)) (m1 := mz_up w 64 1 ((w 64 1) + 1)) mz_t128 mz_v128 rfl rfl rfl rfl rfl ((ct_in1 (m := mz_up w 64 1 ((w 64 1) + 1)) (v := xb) (a := (-100)) (b := 100) (show ¬ (xb < (-100)) from (sm_plc_of q1).2.1) (show ¬ (100 < xb) from (sm_plc_of q1).2.2)).deep (by decide)) ?_
        refine mz_go 3 (c' := (27, [some (.int xa), some (.int xb)], [.int 1], mz_up w 64 1 ((w 64 1) + 1))) rfl ?_
        exact mz_ret rfl
      refine mz_goP 3 (c' := (11, [some (.ref 65), some (.int xa), some (.int xb), some (.int xc), some (.int xd)], [.int xd, .int xc], mz_up w 64 1 ((w 64 1) + 1))) rfl ?_
      refine mz_doPQ (R := mz_r175) (as := [.int xc, .int xd]) (rest := []) (r1 := some (.int 0)) (m1 := mz_up w 64 1 ((w 64 1) + 1)) mz_t175 mz_v175 rfl rfl rfl rfl rfl ⟨?_, rfl⟩ ?_
      · refine mz_go 3 (c' := (7, [some (.int xc), some (.int xd)], [.int 9999, .int (-9999), .int xc], mz_up w 64 1 ((w 64 1) + 1))) rfl ?_
        refine mz_doQ (R := mz_r128) (as := [.int xc, .int (-9999), .int 9999]) (rest := []) (r1 := some (.int (sm_bI (sm_in xc (-9999) 9999)))) (m1 := mz_up w 64 1 ((w 64 1) + 1)) mz_t128 mz_v128 rfl rfl rfl rfl rfl ((ct_in (m := mz_up w 64 1 ((w 64 1) + 1)) xc (-9999) 9999).deep (by decide)) ?_
        refine mz_go 1 (c' := (if (sm_bI (sm_in xc (-9999) 9999)) = 0 then 30 else 13, [some (.int xc), some (.int xd)], [], mz_up w 64 1 ((w 64 1) + 1))) rfl ?_
        refine mz_ifT q2 ?_
        refine mz_go 1 (c' := (31, [some (.int xc), some (.int xd)], [.int 0], mz_up w 64 1 ((w 64 1) + 1))) rfl ?_
        exact mz_ret rfl
      refine mz_goP 3 (c' := (19, [some (.ref 65), some (.int xa), some (.int xb), some (.int xc), some (.int xd)], [.int 1, .ref 65], mz_up w 64 1 ((w 64 1) + 1))) rfl ?_
      refine mz_doPQ (R := mz_r127) (as := [.ref 65, .int 1]) (rest := []) (r1 := some (.int (-1000001))) (m1 := mz_up (mz_up w 64 1 ((w 64 1) + 1)) 68 1 ((w 68 1) + 1)) mz_t127 mz_v127_65 rfl rfl rfl rfl rfl ((ct_err1 (m := mz_up w 64 1 ((w 64 1) + 1))).deep (by decide)) ?_
      refine mz_retP (r := (some (.int ((-1000001))), mz_up (mz_up w 64 1 ((w 64 1) + 1)) 68 1 ((w 68 1) + 1))) rfl ⟨(-1000001), rfl, ?_, rfl⟩
      show sm_I (n + 1) (mz_up (mz_up w 64 1 ((w 64 1) + 1)) 68 1 ((w 68 1) + 1))
      exact sm_I_scr hn hI2 (fun i hi => by
        have hne : ∀ r, sm_scr r = true → i ≠ r := fun r hr e => by
          rw [e, hr] at hi
          cases hi
        simp only [mz_up_ne (hne 64 rfl), mz_up_ne (hne 68 rfl)]) rfl rfl
    · refine mz_doPQ (R := mz_r117) (as := [.int xc]) (rest := []) (r1 := some (.int 1)) (m1 := w) mz_t117 mz_v117 rfl rfl rfl rfl rfl ⟨?_, rfl⟩ ?_
      · refine mz_go 3 (c' := (7, [some (.int xc)], [.int 9999, .int (-9999), .int xc], w)) rfl ?_
        refine mz_doQ (R := mz_r121) (as := [.int xc, .int (-9999), .int 9999]) (rest := []) (r1 := some (.int 1)) (m1 := w) mz_t121 mz_v121 rfl rfl rfl rfl rfl ((cs_in1 (m := w) (v := xc) (a := (-9999)) (b := 9999) (show ¬ (xc < (-9999)) from (sm_in_lo q2)) (show ¬ (9999 < xc) from (sm_in_hi q2))).deep (by decide)) ?_
        exact mz_ret rfl
      refine mz_goP 2 (c' := (17, [some (.ref 0), some (.int xa), some (.int xb), some (.int xc), some (.int xd)], [.int xd], w)) rfl ?_
      by_cases q3 : (sm_bI (sm_in xd (-9999) 9999)) = 0
      · refine mz_doPQ (R := mz_r117) (as := [.int xd]) (rest := []) (r1 := some (.int (sm_bI (sm_in xd (-9999) 9999)))) (m1 := w) mz_t117 mz_v117 rfl rfl rfl rfl rfl ⟨?_, sm_fitB _⟩ ?_
        · refine mz_go 3 (c' := (7, [some (.int xd)], [.int 9999, .int (-9999), .int xd], w)) rfl ?_
          refine mz_doQ (R := mz_r121) (as := [.int xd, .int (-9999), .int 9999]) (rest := []) (r1 := some (.int (sm_bI (sm_in xd (-9999) 9999)))) (m1 := w) mz_t121 mz_v121 rfl rfl rfl rfl rfl ((cs_in (m := w) xd (-9999) 9999).deep (by decide)) ?_
          exact mz_ret rfl
        refine mz_goP 1 (c' := (if (sm_bI (sm_in xd (-9999) 9999)) = 0 then 23 else 29, [some (.ref 0), some (.int xa), some (.int xb), some (.int xc), some (.int xd)], [], w)) rfl ?_
        refine mz_ifTP q3 ?_
        refine mz_goP 2 (c' := (25, [some (.ref 0), some (.int xa), some (.int xb), some (.int xc), some (.int xd)], [.int 1, .ref 0], w)) rfl ?_
        refine mz_doPQ (R := mz_r109) (as := [.ref 0, .int 1]) (rest := []) (r1 := some (.int (-1000001))) (m1 := mz_up w 64 1 ((w 64 1) + 1)) mz_t109 mz_v109_0 rfl rfl rfl rfl rfl ((cs_err1 (m := w)).deep (by decide)) ?_
        refine mz_retP (r := (some (.int ((-1000001))), mz_up w 64 1 ((w 64 1) + 1))) rfl ⟨(-1000001), rfl, ?_⟩
        refine mz_goP 2 (c' := (2, [some (.ref 65), some (.int xa), some (.int xb), some (.int xc), some (.int xd)], [.int xb, .int xa], mz_up w 64 1 ((w 64 1) + 1))) rfl ?_
        refine mz_doPQ (R := mz_r131) (as := [.int xa, .int xb]) (rest := []) (r1 := some (.int 1)) (m1 := mz_up w 64 1 ((w 64 1) + 1)) mz_t131 mz_v131 rfl rfl rfl rfl rfl ⟨?_, rfl⟩ ?_
        · refine mz_go 3 (c' := (5, [some (.int xa), some (.int xb)], [.int 100, .int (-100), .int xa], mz_up w 64 1 ((w 64 1) + 1))) rfl ?_
          refine mz_doQ (R := mz_r128) (as := [.int xa, .int (-100), .int 100]) (rest := []) (r1 := some (.int 1)) (m1 := mz_up w 64 1 ((w 64 1) + 1)) mz_t128 mz_v128 rfl rfl rfl rfl rfl ((ct_in1 (m := mz_up w 64 1 ((w 64 1) + 1)) (v := xa) (a := (-100)) (b := 100) (show ¬ (xa < (-100)) from (sm_plc_of q1).1.1) (show ¬ (100 < xa) from (sm_plc_of q1).1.2)).deep (by decide)) ?_
          refine mz_go 4 (c' := (16, [some (.int xa), some (.int xb)], [.int 100, .int (-100), .int xb], mz_up w 64 1 ((w 64 1) + 1))) rfl ?_
          refine mz_doQ (R := mz_r128) (as := [.int xb, .int (-100), .int 100]) (rest := []) (r1 := some (.int 1)) (m1 := mz_up w 64 1 ((w 64 1) + 1)) mz_t128 mz_v128 rfl rfl rfl rfl rfl ((ct_in1 (m := mz_up w 64 1 ((w 64 1) + 1)) (v := xb) (a := (-100)) (b := 100) (show ¬ (xb < (-100)) from (sm_plc_of q1).2.1) (show ¬ (100 < xb) from (sm_plc_of q1).2.2)).deep (by decide)) ?_
          refine mz_go 3 (c' := (27, [some (.int xa), some (.int xb)], [.int 1], mz_up w 64 1 ((w 64 1) + 1))) rfl ?_
          exact mz_ret rfl
        refine mz_goP 3 (c' := (11, [some (.ref 65), some (.int xa), some (.int xb), some (.int xc), some (.int xd)], [.int xd, .int xc], mz_up w 64 1 ((w 64 1) + 1))) rfl ?_
        refine mz_doPQ (R := mz_r175) (as := [.int xc, .int xd]) (rest := []) (r1 := some (.int 0)) (m1 := mz_up w 64 1 ((w 64 1) + 1)) mz_t175 mz_v175 rfl rfl rfl rfl rfl ⟨?_, rfl⟩ ?_
        · refine mz_go 3 (c' := (7, [some (.int xc), some (.int xd)], [.int 9999, .int (-9999), .int xc], mz_up w 64 1 ((w 64 1) + 1))) rfl ?_
          refine mz_doQ (R := mz_r128) (as := [.int xc, .int (-9999), .int 9999]) (rest := []) (r1 := some (.int 1)) (m1 := mz_up w 64 1 ((w 64 1) + 1)) mz_t128 mz_v128 rfl rfl rfl rfl rfl ((ct_in1 (m := mz_up w 64 1 ((w 64 1) + 1)) (v := xc) (a := (-9999)) (b := 9999) (show ¬ (xc < (-9999)) from (sm_in_lo q2)) (show ¬ (9999 < xc) from (sm_in_hi q2))).deep (by decide)) ?_
          refine mz_go 4 (c' := (20, [some (.int xc), some (.int xd)], [.int 9999, .int (-9999), .int xd], mz_up w 64 1 ((w 64 1) + 1))) rfl ?_
          refine mz_doQ (R := mz_r128) (as := [.int xd, .int (-9999), .int 9999]) (rest := []) (r1 := some (.int (sm_bI (sm_in xd (-9999) 9999)))) (m1 := mz_up w 64 1 ((w 64 1) + 1)) mz_t128 mz_v128 rfl rfl rfl rfl rfl ((ct_in (m := mz_up w 64 1 ((w 64 1) + 1)) xd (-9999) 9999).deep (by decide)) ?_
          refine mz_go 1 (c' := (if (sm_bI (sm_in xd (-9999) 9999)) = 0 then 30 else 26, [some (.int xc), some (.int xd)], [], mz_up w 64 1 ((w 64 1) + 1))) rfl ?_
          refine mz_ifT q3 ?_
          refine mz_go 1 (c' := (31, [some (.int xc), some (.int xd)], [.int 0], mz_up w 64 1 ((w 64 1) + 1))) rfl ?_
          exact mz_ret rfl
        refine mz_goP 3 (c' := (19, [some (.ref 65), some (.int xa), some (.int xb), some (.int xc), some (.int xd)], [.int 1, .ref 65], mz_up w 64 1 ((w 64 1) + 1))) rfl ?_
        refine mz_doPQ (R := mz_r127) (as := [.ref 65, .int 1]) (rest := []) (r1 := some (.int (-1000001))) (m1 := mz_up (mz_up w 64 1 ((w 64 1) + 1)) 68 1 ((w 68 1) + 1)) mz_t127 mz_v127_65 rfl rfl rfl rfl rfl ((ct_err1 (m := mz_up w 64 1 ((w 64 1) + 1))).deep (by decide)) ?_
        refine mz_retP (r := (some (.int ((-1000001))), mz_up (mz_up w 64 1 ((w 64 1) + 1)) 68 1 ((w 68 1) + 1))) rfl ⟨(-1000001), rfl, ?_, rfl⟩
        show sm_I (n + 1) (mz_up (mz_up w 64 1 ((w 64 1) + 1)) 68 1 ((w 68 1) + 1))
        exact sm_I_scr hn hI2 (fun i hi => by
          have hne : ∀ r, sm_scr r = true → i ≠ r := fun r hr e => by
            rw [e, hr] at hi
            cases hi
          simp only [mz_up_ne (hne 64 rfl), mz_up_ne (hne 68 rfl)]) rfl rfl
      · refine mz_doPQ (R := mz_r117) (as := [.int xd]) (rest := []) (r1 := some (.int 1)) (m1 := w) mz_t117 mz_v117 rfl rfl rfl rfl rfl ⟨?_, rfl⟩ ?_
        · refine mz_go 3 (c' := (7, [some (.int xd)], [.int 9999, .int (-9999), .int xd], w)) rfl ?_
          refine mz_doQ (R := mz_r121) (as := [.int xd, .int (-9999), .int 9999]) (rest := []) (r1 := some (.int 1)) (m1 := w) mz_t121 mz_v121 rfl rfl rfl rfl rfl ((cs_in1 (m := w) (v := xd) (a := (-9999)) (b := 9999) (show ¬ (xd < (-9999)) from (sm_in_lo q3)) (show ¬ (9999 < xd) from (sm_in_hi q3))).deep (by decide)) ?_
          exact mz_ret rfl
        refine mz_goP 12 (c' := (47, [some (.ref 0), some (.int xa), some (.int xb), some (.int xc), some (.int xd)], [.int (w 7 5), .int xd, .int xc, .int xb, .int xa, .ref 49], w)) rfl ?_
        obtain ⟨re1, fe1, ge1, le1, Ee1⟩ := cw_end (m := w) (w := w) (sm_Wl_r w) hw (hr5.imp id Or.inl) hr80 (sm_B_of (sm_plc_of q1).1.1 (sm_plc_of q1).1.2) (sm_B_of (sm_plc_of q1).2.1 (sm_plc_of q1).2.2) xc xd
        refine mz_doPQ (R := mz_r36) (as := [.ref 49, .int xa, .int xb, .int xc, .int xd, .int (w 7 5)]) (rest := []) (r1 := some (.int (sm_end w (w 7 5) xa xb xc xd))) (m1 := mz_set (mz_set (mz_set w 50 re1) 51 fe1) 52 ge1) mz_t36 mz_v36_49 rfl rfl rfl rfl rfl (Ee1.deep (by decide)) ?_
        refine mz_retP (r := (some (.int (sm_end w (w 7 5) xa xb xc xd)), mz_set (mz_set (mz_set w 50 re1) 51 fe1) 52 ge1)) rfl ⟨sm_end w (w 7 5) xa xb xc xd, rfl, ?_⟩
        refine mz_goP 2 (c' := (2, [some (.ref 65), some (.int xa), some (.int xb), some (.int xc), some (.int xd)], [.int xb, .int xa], mz_set (mz_set (mz_set w 50 re1) 51 fe1) 52 ge1)) rfl ?_
        refine mz_doPQ (R := mz_r131) (as := [.int xa, .int xb]) (rest := []) (r1 := some (.int 1)) (m1 := mz_set (mz_set (mz_set w 50 re1) 51 fe1) 52 ge1) mz_t131 mz_v131 rfl rfl rfl rfl rfl ⟨?_, rfl⟩ ?_
        · refine mz_go 3 (c' := (5, [some (.int xa), some (.int xb)], [.int 100, .int (-100), .int xa], mz_set (mz_set (mz_set w 50 re1) 51 fe1) 52 ge1)) rfl ?_
          refine mz_doQ (R := mz_r128) (as := [.int xa, .int (-100), .int 100]) (rest := []) (r1 := some (.int 1)) (m1 := mz_set (mz_set (mz_set w 50 re1) 51 fe1) 52 ge1) mz_t128 mz_v128 rfl rfl rfl rfl rfl ((ct_in1 (m := mz_set (mz_set (mz_set w 50 re1) 51 fe1) 52 ge1) (v := xa) (a := (-100)) (b := 100) (show ¬ (xa < (-100)) from (sm_plc_of q1).1.1) (show ¬ (100 < xa) from (sm_plc_of q1).1.2)).deep (by decide)) ?_
          refine mz_go 4 (c' := (16, [some (.int xa), some (.int xb)], [.int 100, .int (-100), .int xb], mz_set (mz_set (mz_set w 50 re1) 51 fe1) 52 ge1)) rfl ?_
          refine mz_doQ (R := mz_r128) (as := [.int xb, .int (-100), .int 100]) (rest := []) (r1 := some (.int 1)) (m1 := mz_set (mz_set (mz_set w 50 re1) 51 fe1) 52 ge1) mz_t128 mz_v128 rfl rfl rfl rfl rfl ((ct_in1 (m := mz_set (mz_set (mz_set w 50 re1) 51 fe1) 52 ge1) (v := xb) (a := (-100)) (b := 100) (show ¬ (xb < (-100)) from (sm_plc_of q1).2.1) (show ¬ (100 < xb) from (sm_plc_of q1).2.2)).deep (by decide)) ?_
          refine mz_go 3 (c' := (27, [some (.int xa), some (.int xb)], [.int 1], mz_set (mz_set (mz_set w 50 re1) 51 fe1) 52 ge1)) rfl ?_
          exact mz_ret rfl
        refine mz_goP 3 (c' := (11, [some (.ref 65), some (.int xa), some (.int xb), some (.int xc), some (.int xd)], [.int xd, .int xc], mz_set (mz_set (mz_set w 50 re1) 51 fe1) 52 ge1)) rfl ?_
        refine mz_doPQ (R := mz_r175) (as := [.int xc, .int xd]) (rest := []) (r1 := some (.int 1)) (m1 := mz_set (mz_set (mz_set w 50 re1) 51 fe1) 52 ge1) mz_t175 mz_v175 rfl rfl rfl rfl rfl ⟨?_, rfl⟩ ?_
        · refine mz_go 3 (c' := (7, [some (.int xc), some (.int xd)], [.int 9999, .int (-9999), .int xc], mz_set (mz_set (mz_set w 50 re1) 51 fe1) 52 ge1)) rfl ?_
          refine mz_doQ (R := mz_r128) (as := [.int xc, .int (-9999), .int 9999]) (rest := []) (r1 := some (.int 1)) (m1 := mz_set (mz_set (mz_set w 50 re1) 51 fe1) 52 ge1) mz_t128 mz_v128 rfl rfl rfl rfl rfl ((ct_in1 (m := mz_set (mz_set (mz_set w 50 re1) 51 fe1) 52 ge1) (v := xc) (a := (-9999)) (b := 9999) (show ¬ (xc < (-9999)) from (sm_in_lo q2)) (show ¬ (9999 < xc) from (sm_in_hi q2))).deep (by decide)) ?_
          refine mz_go 4 (c' := (20, [some (.int xc), some (.int xd)], [.int 9999, .int (-9999), .int xd], mz_set (mz_set (mz_set w 50 re1) 51 fe1) 52 ge1)) rfl ?_
          refine mz_doQ (R := mz_r128) (as := [.int xd, .int (-9999), .int 9999]) (rest := []) (r1 := some (.int 1)) (m1 := mz_set (mz_set (mz_set w 50 re1) 51 fe1) 52 ge1) mz_t128 mz_v128 rfl rfl rfl rfl rfl ((ct_in1 (m := mz_set (mz_set (mz_set w 50 re1) 51 fe1) 52 ge1) (v := xd) (a := (-9999)) (b := 9999) (show ¬ (xd < (-9999)) from (sm_in_lo q3)) (show ¬ (9999 < xd) from (sm_in_hi q3))).deep (by decide)) ?_
          refine mz_go 3 (c' := (31, [some (.int xc), some (.int xd)], [.int 1], mz_set (mz_set (mz_set w 50 re1) 51 fe1) 52 ge1)) rfl ?_
          exact mz_ret rfl
        refine mz_goP 6 (c' := (29, [some (.ref 65), some (.int xa), some (.int xb), some (.int xc), some (.int xd)], [.int xd, .int xc, .int xb, .int xa, .ref 65], mz_set (mz_set (mz_set w 50 re1) 51 fe1) 52 ge1)) rfl ?_
        refine mz_doPQ (R := mz_r144) (as := [.ref 65, .int xa, .int xb, .int xc, .int xd]) (rest := []) (r1 := none) (m1 := mz_up (mz_up (mz_up (mz_up (mz_up (mz_set (mz_set (mz_set w 50 re1) 51 fe1) 52 ge1) 65 4 (16 * xa)) 65 5 (16 * xb)) 65 6 xc) 65 7 xd) 65 8 0) mz_t144 mz_v144_65 rfl rfl rfl rfl rfl ⟨?_, rfl⟩ ?_
        · refine mz_go 19 (c' := (32, [some (.ref 65), some (.int xa), some (.int xb), some (.int xc), some (.int xd)], [], mz_up (mz_up (mz_up (mz_up (mz_up (mz_set (mz_set (mz_set w 50 re1) 51 fe1) 52 ge1) 65 4 (16 * xa)) 65 5 (16 * xb)) 65 6 xc) 65 7 xd) 65 8 0)) rfl ?_
          exact mz_ret rfl
        refine mz_goP 2 (c' := (34, [some (.ref 65), some (.int xa), some (.int xb), some (.int xc), some (.int xd)], [.ref 65, .ref 65], mz_up (mz_up (mz_up (mz_up (mz_up (mz_set (mz_set (mz_set w 50 re1) 51 fe1) 52 ge1) 65 4 (16 * xa)) 65 5 (16 * xb)) 65 6 xc) 65 7 xd) 65 8 0)) rfl ?_
        refine mz_doPQ (R := mz_r156) (as := [.ref 65]) (rest := [.ref 65]) (r1 := some (.int (w 7 5))) (m1 := mz_up (mz_up (mz_up (mz_up (mz_up (mz_set (mz_set (mz_set w 50 re1) 51 fe1) 52 ge1) 65 4 (16 * xa)) 65 5 (16 * xb)) 65 6 xc) 65 7 xd) 65 8 0) mz_t156 mz_v156_65 rfl rfl rfl rfl rfl ⟨?_, rfl⟩ ?_
        · refine mz_go 4 (c' := (7, [some (.ref 65)], [.int (w 66 15)], mz_up (mz_up (mz_up (mz_up (mz_up (mz_set (mz_set (mz_set w 50 re1) 51 fe1) 52 ge1) 65 4 (16 * xa)) 65 5 (16 * xb)) 65 6 xc) 65 7 xd) 65 8 0)) rfl ?_
          rw [show w 66 15 = w 7 5 from hrr 5 (by decide)]
          exact mz_ret rfl
        obtain ⟨re2, fe2, ge2, le2, ke2, Ee2⟩ := ct_end (w := w) (m := mz_up (mz_up (mz_up (mz_up (mz_up (mz_set (mz_set (mz_set w 50 re1) 51 fe1) 52 ge1) 65 4 (16 * xa)) 65 5 (16 * xb)) 65 6 xc) 65 7 xd) 65 8 0) hw hr2 (hr5.imp id Or.inl) hr80 (sm_B_of (sm_plc_of q1).1.1 (sm_plc_of q1).1.2) (sm_B_of (sm_plc_of q1).2.1 (sm_plc_of q1).2.2) (show sm_like (fun k => (mz_up (mz_up (mz_up (mz_up (mz_up (mz_set (mz_set (mz_set w 50 re1) 51 fe1) 52 ge1) 65 4 (16 * xa)) 65 5 (16 * xb)) 65 6 xc) 65 7 xd) 65 8 0) 65 (4 + k)) (sm_go xa xb xc xd) from ⟨rfl, rfl, rfl, rfl, rfl⟩)
        refine mz_doPQ (R := mz_r154) (as := [.ref 65, .int (w 7 5)]) (rest := []) (r1 := some (.int (sm_end w (w 7 5) xa xb xc xd))) (m1 := mz_set (mz_set (mz_set (mz_up (mz_up (mz_up (mz_up (mz_up (mz_set (mz_set (mz_set w 50 re1) 51 fe1) 52 ge1) 65 4 (16 * xa)) 65 5 (16 * xb)) 65 6 xc) 65 7 xd) 65 8 0) 65 re2) 70 fe2) 71 ge2) mz_t154 mz_v154_65 rfl rfl rfl rfl rfl (Ee2.deep (by decide)) ?_
        refine mz_retP (r := (some (.int (sm_end w (w 7 5) xa xb xc xd)), mz_set (mz_set (mz_set (mz_up (mz_up (mz_up (mz_up (mz_up (mz_set (mz_set (mz_set w 50 re1) 51 fe1) 52 ge1) 65 4 (16 * xa)) 65 5 (16 * xb)) 65 6 xc) 65 7 xd) 65 8 0) 65 re2) 70 fe2) 71 ge2)) rfl ⟨sm_end w (w 7 5) xa xb xc xd, rfl, ?_, rfl⟩
        show sm_I (n + 1) (mz_set (mz_set (mz_set (mz_up (mz_up (mz_up (mz_up (mz_up (mz_set (mz_set (mz_set w 50 re1) 51 fe1) 52 ge1) 65 4 (16 * xa)) 65 5 (16 * xb)) 65 6 xc) 65 7 xd) 65 8 0) 65 re2) 70 fe2) 71 ge2)
        exact sm_I_scr hn hI2 (fun i hi => by
          have hne : ∀ r, sm_scr r = true → i ≠ r := fun r hr e => by
            rw [e, hr] at hi
            cases hi
          simp only [mz_set_ne (hne 50 rfl), mz_set_ne (hne 51 rfl), mz_set_ne (hne 52 rfl), mz_set_ne (hne 65 rfl), mz_set_ne (hne 70 rfl), mz_set_ne (hne 71 rfl), mz_up_ne (hne 65 rfl)]) ((ke2 2 (by omega)).trans rfl) ((ke2 19 (by omega)).trans rfl)
set_option maxHeartbeats 4000000 in
set_option maxRecDepth 100000 in
theorem sc_length {n : Nat} (hn : n < 64) {w : mz_M} (hI : sm_I n w) (xa : Int32) (xb : Int32) : ∃ v1 v2 m1 m2, mz_Me 100 mz_r82 [.ref 0, .int xa, .int xb] w (some (.int v1)) m1 ∧ mz_Me 100 mz_r180 [.ref 65, .int xa, .int xb] m1 (some (.int v2)) m2 ∧ sm_I (n + 1) m2 ∧ v1 = v2 := by
  have hI2 := hI
  obtain ⟨hn0, ⟨-, ⟨hr80, hr5, hrr⟩, ⟨⟨TT, hTT, h81, h661⟩, htp⟩, ⟨⟨T0, hT0, hU0, hV0, -⟩, ⟨T1, hT1, hU1, hV1, -⟩, ⟨T2, hT2, hU2, hV2, -⟩⟩, ⟨hbx, hby, hbl⟩, ⟨⟨WW, HH, hWW, hHH, hWH, h202, h203, h6660, h6661⟩, h6662, h6663, h6664, hpc⟩, ⟨hth, h66160, hthr⟩, ⟨⟨AA, hAA, h111, h662⟩, h663, hwt⟩⟩, ⟨hsh, hsn⟩, ⟨hcb1, hcb2⟩, ⟨JJ, hJJ, h07, h652, hkept⟩⟩ := hI
  obtain ⟨N, hw, hr2, h660, -, -, h6615⟩ := sm_world hI2
  have hw2 := hw
  obtain ⟨hN, h4, hpb, -, -⟩ := hw2
  have hT60a := sm_T60 hV0
  have hT60b := sm_T60 hV1
  have hT60c := sm_T60 hV2
  obtain ⟨B1, hB1, e571⟩ := sm_Nof (by decide) hcb1
  obtain ⟨B2, hB2, e6519⟩ := sm_Nof (by decide) hcb2
  refine mz_two (fun _ => rfl) (fun _ => rfl) ?_
  refine mz_goP 2 (c' := (2, [some (.ref 0), some (.int xa), some (.int xb)], [.int xb, .int xa], w)) rfl ?_
  by_cases q1 : (sm_bI (sm_plc xa xb)) = 0
  · refine mz_doPQ (R := mz_r116) (as := [.int xa, .int xb]) (rest := []) (r1 := some (.int (sm_bI (sm_plc xa xb)))) (m1 := w) mz_t116 mz_v116 rfl rfl rfl rfl rfl ((cs_plc (m := w) xa xb).deep (by decide)) ?_
    refine mz_goP 1 (c' := (if (sm_bI (sm_plc xa xb)) = 0 then 8 else 14, [some (.ref 0), some (.int xa), some (.int xb)], [], w)) rfl ?_
    refine mz_ifTP q1 ?_
    refine mz_goP 2 (c' := (10, [some (.ref 0), some (.int xa), some (.int xb)], [.int 1, .ref 0], w)) rfl ?_
    refine mz_doPQ (R := mz_r109) (as := [.ref 0, .int 1]) (rest := []) (r1 := some (.int (-1000001))) (m1 := mz_up w 64 1 ((w 64 1) + 1)) mz_t109 mz_v109_0 rfl rfl rfl rfl rfl ((cs_err1 (m := w)).deep (by decide)) ?_
    refine mz_retP (r := (some (.int ((-1000001))), mz_up w 64 1 ((w 64 1) + 1))) rfl ⟨(-1000001), rfl, ?_⟩
    refine mz_goP 2 (c' := (2, [some (.ref 65), some (.int xa), some (.int xb), none], [.int xb, .int xa], mz_up w 64 1 ((w 64 1) + 1))) rfl ?_
    refine mz_doPQ (R := mz_r131) (as := [.int xa, .int xb]) (rest := []) (r1 := some (.int (sm_bI (sm_plc xa xb)))) (m1 := mz_up w 64 1 ((w 64 1) + 1)) mz_t131 mz_v131 rfl rfl rfl rfl rfl ((ct_plc (m := mz_up w 64 1 ((w 64 1) + 1)) xa xb).deep (by decide)) ?_
    refine mz_goP 1 (c' := (if (sm_bI (sm_plc xa xb)) = 0 then 8 else 14, [some (.ref 65), some (.int xa), some (.int xb), none], [], mz_up w 64 1 ((w 64 1) + 1))) rfl ?_
    refine mz_ifTP q1 ?_
    refine mz_goP 2 (c' := (10, [some (.ref 65), some (.int xa), some (.int xb), none], [.int 1, .ref 65], mz_up w 64 1 ((w 64 1) + 1))) rfl ?_
    refine mz_doPQ (R := mz_r127) (as := [.ref 65, .int 1]) (rest := []) (r1 := some (.int (-1000001))) (m1 := mz_up (mz_up w 64 1 ((w 64 1) + 1)) 68 1 ((w 68 1) + 1)) mz_t127 mz_v127_65 rfl rfl rfl rfl rfl ((ct_err1 (m := mz_up w 64 1 ((w 64 1) + 1))).deep (by decide)) ?_
    refine mz_retP (r := (some (.int ((-1000001))), mz_up (mz_up w 64 1 ((w 64 1) + 1)) 68 1 ((w 68 1) + 1))) rfl ⟨(-1000001), rfl, ?_, rfl⟩
    show sm_I (n + 1) (mz_up (mz_up w 64 1 ((w 64 1) + 1)) 68 1 ((w 68 1) + 1))
    exact sm_I_scr hn hI2 (fun i hi => by
      have hne : ∀ r, sm_scr r = true → i ≠ r := fun r hr e => by
        rw [e, hr] at hi
        cases hi
      simp only [mz_up_ne (hne 64 rfl), mz_up_ne (hne 68 rfl)]) rfl rfl
  · refine mz_doPQ (R := mz_r116) (as := [.int xa, .int xb]) (rest := []) (r1 := some (.int 1)) (m1 := w) mz_t116 mz_v116 rfl rfl rfl rfl rfl ⟨?_, rfl⟩ ?_
    · refine mz_go 3 (c' := (5, [some (.int xa), some (.int xb)], [.int 100, .int (-100), .int xa], w)) rfl ?_
      refine mz_doQ (R := mz_r121) (as := [.int xa, .int (-100), .int 100]) (rest := []) (r1 := some (.int 1)) (m1 := w) mz_t121 mz_v121 rfl rfl rfl rfl rfl ((cs_in1 (m := w) (v := xa) (a := (-100)) (b := 100) (show ¬ (xa < (-100)) from (sm_plc_of q1).1.1) (show ¬ (100 < xa) from (sm_plc_of q1).1.2)).deep (by decide)) ?_
      refine mz_go 4 (c' := (16, [some (.int xa), some (.int xb)], [.int 100, .int (-100), .int xb], w)) rfl ?_
      refine mz_doQ (R := mz_r121) (as := [.int xb, .int (-100), .int 100]) (rest := []) (r1 := some (.int 1)) (m1 := w) mz_t121 mz_v121 rfl rfl rfl rfl rfl ((cs_in1 (m := w) (v := xb) (a := (-100)) (b := 100) (show ¬ (xb < (-100)) from (sm_plc_of q1).2.1) (show ¬ (100 < xb) from (sm_plc_of q1).2.2)).deep (by decide)) ?_
      refine mz_go 3 (c' := (27, [some (.int xa), some (.int xb)], [.int 1], w)) rfl ?_
      exact mz_ret rfl
    refine mz_goP 12 (c' := (31, [some (.ref 0), some (.int xa), some (.int xb)], [.int (w 7 5), .int 0, .int 0, .int xb, .int xa, .ref 49], w)) rfl ?_
    obtain ⟨re1, fe1, ge1, le1, Ee1⟩ := cw_end (m := w) (w := w) (sm_Wl_r w) hw (hr5.imp id Or.inl) hr80 (sm_B_of (sm_plc_of q1).1.1 (sm_plc_of q1).1.2) (sm_B_of (sm_plc_of q1).2.1 (sm_plc_of q1).2.2) 0 0
    refine mz_doPQ (R := mz_r36) (as := [.ref 49, .int xa, .int xb, .int 0, .int 0, .int (w 7 5)]) (rest := []) (r1 := some (.int (sm_end w (w 7 5) xa xb 0 0))) (m1 := mz_set (mz_set (mz_set w 50 re1) 51 fe1) 52 ge1) mz_t36 mz_v36_49 rfl rfl rfl rfl rfl (Ee1.deep (by decide)) ?_
    refine mz_goP 5 (c' := (45, [some (.ref 0), some (.int xa), some (.int xb)], [.int (re1 4)], mz_set (mz_set (mz_set w 50 re1) 51 fe1) 52 ge1)) rfl ?_
    rw [le1.2.2.2.2]
    refine mz_retP (r := (some (.int (sm_last w (w 7 5) xa xb 0 0 4)), mz_set (mz_set (mz_set w 50 re1) 51 fe1) 52 ge1)) rfl ⟨sm_last w (w 7 5) xa xb 0 0 4, rfl, ?_⟩
    refine mz_goP 2 (c' := (2, [some (.ref 65), some (.int xa), some (.int xb), none], [.int xb, .int xa], mz_set (mz_set (mz_set w 50 re1) 51 fe1) 52 ge1)) rfl ?_
    refine mz_doPQ (R := mz_r131) (as := [.int xa, .int xb]) (rest := []) (r1 := some (.int 1)) (m1 := mz_set (mz_set (mz_set w 50 re1) 51 fe1) 52 ge1) mz_t131 mz_v131 rfl rfl rfl rfl rfl ⟨?_, rfl⟩ ?_
    · refine mz_go 3 (c' := (5, [some (.int xa), some (.int xb)], [.int 100, .int (-100), .int xa], mz_set (mz_set (mz_set w 50 re1) 51 fe1) 52 ge1)) rfl ?_
      refine mz_doQ (R := mz_r128) (as := [.int xa, .int (-100), .int 100]) (rest := []) (r1 := some (.int 1)) (m1 := mz_set (mz_set (mz_set w 50 re1) 51 fe1) 52 ge1) mz_t128 mz_v128 rfl rfl rfl rfl rfl ((ct_in1 (m := mz_set (mz_set (mz_set w 50 re1) 51 fe1) 52 ge1) (v := xa) (a := (-100)) (b := 100) (show ¬ (xa < (-100)) from (sm_plc_of q1).1.1) (show ¬ (100 < xa) from (sm_plc_of q1).1.2)).deep (by decide)) ?_
      refine mz_go 4 (c' := (16, [some (.int xa), some (.int xb)], [.int 100, .int (-100), .int xb], mz_set (mz_set (mz_set w 50 re1) 51 fe1) 52 ge1)) rfl ?_
      refine mz_doQ (R := mz_r128) (as := [.int xb, .int (-100), .int 100]) (rest := []) (r1 := some (.int 1)) (m1 := mz_set (mz_set (mz_set w 50 re1) 51 fe1) 52 ge1) mz_t128 mz_v128 rfl rfl rfl rfl rfl ((ct_in1 (m := mz_set (mz_set (mz_set w 50 re1) 51 fe1) 52 ge1) (v := xb) (a := (-100)) (b := 100) (show ¬ (xb < (-100)) from (sm_plc_of q1).2.1) (show ¬ (100 < xb) from (sm_plc_of q1).2.2)).deep (by decide)) ?_
      refine mz_go 3 (c' := (27, [some (.int xa), some (.int xb)], [.int 1], mz_set (mz_set (mz_set w 50 re1) 51 fe1) 52 ge1)) rfl ?_
      exact mz_ret rfl
    refine mz_goP 5 (c' := (18, [some (.ref 65), some (.int xa), some (.int xb), none], [.ref 65, .int xb, .int xa, .ref 65], mz_set (mz_set (mz_set w 50 re1) 51 fe1) 52 ge1)) rfl ?_
    refine mz_doPQ (R := mz_r156) (as := [.ref 65]) (rest := [.int xb, .int xa, .ref 65]) (r1 := some (.int (w 7 5))) (m1 := mz_set (mz_set (mz_set w 50 re1) 51 fe1) 52 ge1) mz_t156 mz_v156_65 rfl rfl rfl rfl rfl ⟨?_, rfl⟩ ?_
    · refine mz_go 4 (c' := (7, [some (.ref 65)], [.int (w 66 15)], mz_set (mz_set (mz_set w 50 re1) 51 fe1) 52 ge1)) rfl ?_
      rw [show w 66 15 = w 7 5 from hrr 5 (by decide)]
      exact mz_ret rfl
    obtain ⟨re2, fe2, ge2, le2, ke2, Ee2⟩ := ct_end (w := w) (m := mz_up (mz_up (mz_up (mz_up (mz_up (mz_set (mz_set (mz_set w 50 re1) 51 fe1) 52 ge1) 65 4 (16 * xa)) 65 5 (16 * xb)) 65 6 0) 65 7 0) 65 8 0) hw hr2 (hr5.imp id Or.inl) hr80 (sm_B_of (sm_plc_of q1).1.1 (sm_plc_of q1).1.2) (sm_B_of (sm_plc_of q1).2.1 (sm_plc_of q1).2.2) (show sm_like (fun k => (mz_up (mz_up (mz_up (mz_up (mz_up (mz_set (mz_set (mz_set w 50 re1) 51 fe1) 52 ge1) 65 4 (16 * xa)) 65 5 (16 * xb)) 65 6 0) 65 7 0) 65 8 0) 65 (4 + k)) (sm_go xa xb 0 0) from ⟨rfl, rfl, rfl, rfl, rfl⟩)
    refine mz_doPQ (R := mz_r155) (as := [.ref 65, .int xa, .int xb, .int (w 7 5)]) (rest := []) (r1 := some (.int (sm_end w (w 7 5) xa xb 0 0))) (m1 := mz_set (mz_set (mz_set (mz_up (mz_up (mz_up (mz_up (mz_up (mz_set (mz_set (mz_set w 50 re1) 51 fe1) 52 ge1) 65 4 (16 * xa)) 65 5 (16 * xb)) 65 6 0) 65 7 0) 65 8 0) 65 re2) 70 fe2) 71 ge2) mz_t155 mz_v155_65 rfl rfl rfl rfl rfl ⟨?_, rfl⟩ ?_
    · refine mz_go 5 (c' := (5, [some (.ref 65), some (.int xa), some (.int xb), some (.int (w 7 5))], [.int 0, .int 0, .int xb, .int xa, .ref 65], mz_set (mz_set (mz_set w 50 re1) 51 fe1) 52 ge1)) rfl ?_
      refine mz_doQ (R := mz_r144) (as := [.ref 65, .int xa, .int xb, .int 0, .int 0]) (rest := []) (r1 := none) (m1 := mz_up (mz_up (mz_up (mz_up (mz_up (mz_set (mz_set (mz_set w 50 re1) 51 fe1) 52 ge1) 65 4 (16 * xa)) 65 5 (16 * xb)) 65 6 0) 65 7 0) 65 8 0) mz_t144 mz_v144_65 rfl rfl rfl rfl rfl ⟨?_, rfl⟩ ?_
      · refine mz_go 19 (c' := (32, [some (.ref 65), some (.int xa), some (.int xb), some (.int 0), some (.int 0)], [], mz_up (mz_up (mz_up (mz_up (mz_up (mz_set (mz_set (mz_set w 50 re1) 51 fe1) 52 ge1) 65 4 (16 * xa)) 65 5 (16 * xb)) 65 6 0) 65 7 0) 65 8 0)) rfl ?_
        exact mz_ret rfl
      refine mz_go 2 (c' := (10, [some (.ref 65), some (.int xa), some (.int xb), some (.int (w 7 5))], [.int (w 7 5), .ref 65], mz_up (mz_up (mz_up (mz_up (mz_up (mz_set (mz_set (mz_set w 50 re1) 51 fe1) 52 ge1) 65 4 (16 * xa)) 65 5 (16 * xb)) 65 6 0) 65 7 0) 65 8 0)) rfl ?_
      refine mz_doQ (R := mz_r154) (as := [.ref 65, .int (w 7 5)]) (rest := []) (r1 := some (.int (sm_end w (w 7 5) xa xb 0 0))) (m1 := mz_set (mz_set (mz_set (mz_up (mz_up (mz_up (mz_up (mz_up (mz_set (mz_set (mz_set w 50 re1) 51 fe1) 52 ge1) 65 4 (16 * xa)) 65 5 (16 * xb)) 65 6 0) 65 7 0) 65 8 0) 65 re2) 70 fe2) 71 ge2) mz_t154 mz_v154_65 rfl rfl rfl rfl rfl (Ee2.deep (by decide)) ?_
      exact mz_ret rfl
    refine mz_goP 3 (c' := (29, [some (.ref 65), some (.int xa), some (.int xb), some (.int (sm_end w (w 7 5) xa xb 0 0))], [.int (re2 8)], mz_set (mz_set (mz_set (mz_up (mz_up (mz_up (mz_up (mz_up (mz_set (mz_set (mz_set w 50 re1) 51 fe1) 52 ge1) 65 4 (16 * xa)) 65 5 (16 * xb)) 65 6 0) 65 7 0) 65 8 0) 65 re2) 70 fe2) 71 ge2)) rfl ?_
    rw [show re2 8 = sm_last w (w 7 5) xa xb 0 0 4 from le2.2.2.2.2]
    refine mz_retP (r := (some (.int (sm_last w (w 7 5) xa xb 0 0 4)), mz_set (mz_set (mz_set (mz_up (mz_up (mz_up (mz_up (mz_up (mz_set (mz_set (mz_set w 50 re1) 51 fe1) 52 ge1) 65 4 (16 * xa)) 65 5 (16 * xb)) 65 6 0) 65 7 0) 65 8 0) 65 re2) 70 fe2) 71 ge2)) rfl ⟨sm_last w (w 7 5) xa xb 0 0 4, rfl, ?_, rfl⟩
    show sm_I (n + 1) (mz_set (mz_set (mz_set (mz_up (mz_up (mz_up (mz_up (mz_up (mz_set (mz_set (mz_set w 50 re1) 51 fe1) 52 ge1) 65 4 (16 * xa)) 65 5 (16 * xb)) 65 6 0) 65 7 0) 65 8 0) 65 re2) 70 fe2) 71 ge2)
    exact sm_I_scr hn hI2 (fun i hi => by
      have hne : ∀ r, sm_scr r = true → i ≠ r := fun r hr e => by
        rw [e, hr] at hi
        cases hi
      simp only [mz_set_ne (hne 50 rfl), mz_set_ne (hne 51 rfl), mz_set_ne (hne 52 rfl), mz_set_ne (hne 65 rfl), mz_set_ne (hne 70 rfl), mz_set_ne (hne 71 rfl), mz_up_ne (hne 65 rfl)]) ((ke2 2 (by omega)).trans rfl) ((ke2 19 (by omega)).trans rfl)
set_option maxHeartbeats 4000000 in
set_option maxRecDepth 100000 in
theorem sc_doubt {n : Nat} (hn : n < 64) {w : mz_M} (hI : sm_I n w) (xa : Int32) (xb : Int32) : ∃ v1 v2 m1 m2, mz_Me 100 mz_r83 [.ref 0, .int xa, .int xb] w (some (.int v1)) m1 ∧ mz_Me 100 mz_r181 [.ref 65, .int xa, .int xb] m1 (some (.int v2)) m2 ∧ sm_I (n + 1) m2 ∧ v1 = v2 := by
  have hI2 := hI
  obtain ⟨hn0, ⟨-, ⟨hr80, hr5, hrr⟩, ⟨⟨TT, hTT, h81, h661⟩, htp⟩, ⟨⟨T0, hT0, hU0, hV0, -⟩, ⟨T1, hT1, hU1, hV1, -⟩, ⟨T2, hT2, hU2, hV2, -⟩⟩, ⟨hbx, hby, hbl⟩, ⟨⟨WW, HH, hWW, hHH, hWH, h202, h203, h6660, h6661⟩, h6662, h6663, h6664, hpc⟩, ⟨hth, h66160, hthr⟩, ⟨⟨AA, hAA, h111, h662⟩, h663, hwt⟩⟩, ⟨hsh, hsn⟩, ⟨hcb1, hcb2⟩, ⟨JJ, hJJ, h07, h652, hkept⟩⟩ := hI
  obtain ⟨N, hw, hr2, h660, -, -, h6615⟩ := sm_world hI2
  have hw2 := hw
  obtain ⟨hN, h4, hpb, -, -⟩ := hw2
  have hT60a := sm_T60 hV0
  have hT60b := sm_T60 hV1
  have hT60c := sm_T60 hV2
  obtain ⟨B1, hB1, e571⟩ := sm_Nof (by decide) hcb1
  obtain ⟨B2, hB2, e6519⟩ := sm_Nof (by decide) hcb2
  refine mz_two (fun _ => rfl) (fun _ => rfl) ?_
  refine mz_goP 2 (c' := (2, [some (.ref 0), some (.int xa), some (.int xb), none, none], [.int xb, .int xa], w)) rfl ?_
  by_cases q1 : (sm_bI (sm_plc xa xb)) = 0
  · refine mz_doPQ (R := mz_r116) (as := [.int xa, .int xb]) (rest := []) (r1 := some (.int (sm_bI (sm_plc xa xb)))) (m1 := w) mz_t116 mz_v116 rfl rfl rfl rfl rfl ((cs_plc (m := w) xa xb).deep (by decide)) ?_
    refine mz_goP 1 (c' := (if (sm_bI (sm_plc xa xb)) = 0 then 8 else 14, [some (.ref 0), some (.int xa), some (.int xb), none, none], [], w)) rfl ?_
    refine mz_ifTP q1 ?_
    refine mz_goP 2 (c' := (10, [some (.ref 0), some (.int xa), some (.int xb), none, none], [.int 1, .ref 0], w)) rfl ?_
    refine mz_doPQ (R := mz_r109) (as := [.ref 0, .int 1]) (rest := []) (r1 := some (.int (-1000001))) (m1 := mz_up w 64 1 ((w 64 1) + 1)) mz_t109 mz_v109_0 rfl rfl rfl rfl rfl ((cs_err1 (m := w)).deep (by decide)) ?_
    refine mz_retP (r := (some (.int ((-1000001))), mz_up w 64 1 ((w 64 1) + 1))) rfl ⟨(-1000001), rfl, ?_⟩
    refine mz_goP 2 (c' := (2, [some (.ref 65), some (.int xa), some (.int xb)], [.int xb, .int xa], mz_up w 64 1 ((w 64 1) + 1))) rfl ?_
    refine mz_doPQ (R := mz_r131) (as := [.int xa, .int xb]) (rest := []) (r1 := some (.int (sm_bI (sm_plc xa xb)))) (m1 := mz_up w 64 1 ((w 64 1) + 1)) mz_t131 mz_v131 rfl rfl rfl rfl rfl ((ct_plc (m := mz_up w 64 1 ((w 64 1) + 1)) xa xb).deep (by decide)) ?_
    refine mz_goP 1 (c' := (if (sm_bI (sm_plc xa xb)) = 0 then 8 else 14, [some (.ref 65), some (.int xa), some (.int xb)], [], mz_up w 64 1 ((w 64 1) + 1))) rfl ?_
    refine mz_ifTP q1 ?_
    refine mz_goP 2 (c' := (10, [some (.ref 65), some (.int xa), some (.int xb)], [.int 1, .ref 65], mz_up w 64 1 ((w 64 1) + 1))) rfl ?_
    refine mz_doPQ (R := mz_r127) (as := [.ref 65, .int 1]) (rest := []) (r1 := some (.int (-1000001))) (m1 := mz_up (mz_up w 64 1 ((w 64 1) + 1)) 68 1 ((w 68 1) + 1)) mz_t127 mz_v127_65 rfl rfl rfl rfl rfl ((ct_err1 (m := mz_up w 64 1 ((w 64 1) + 1))).deep (by decide)) ?_
    refine mz_retP (r := (some (.int ((-1000001))), mz_up (mz_up w 64 1 ((w 64 1) + 1)) 68 1 ((w 68 1) + 1))) rfl ⟨(-1000001), rfl, ?_, rfl⟩
    show sm_I (n + 1) (mz_up (mz_up w 64 1 ((w 64 1) + 1)) 68 1 ((w 68 1) + 1))
    exact sm_I_scr hn hI2 (fun i hi => by
      have hne : ∀ r, sm_scr r = true → i ≠ r := fun r hr e => by
        rw [e, hr] at hi
        cases hi
      simp only [mz_up_ne (hne 64 rfl), mz_up_ne (hne 68 rfl)]) rfl rfl
  · refine mz_doPQ (R := mz_r116) (as := [.int xa, .int xb]) (rest := []) (r1 := some (.int 1)) (m1 := w) mz_t116 mz_v116 rfl rfl rfl rfl rfl ⟨?_, rfl⟩ ?_
    · refine mz_go 3 (c' := (5, [some (.int xa), some (.int xb)], [.int 100, .int (-100), .int xa], w)) rfl ?_
      refine mz_doQ (R := mz_r121) (as := [.int xa, .int (-100), .int 100]) (rest := []) (r1 := some (.int 1)) (m1 := w) mz_t121 mz_v121 rfl rfl rfl rfl rfl ((cs_in1 (m := w) (v := xa) (a := (-100)) (b := 100) (show ¬ (xa < (-100)) from (sm_plc_of q1).1.1) (show ¬ (100 < xa) from (sm_plc_of q1).1.2)).deep (by decide)) ?_
      refine mz_go 4 (c' := (16, [some (.int xa), some (.int xb)], [.int 100, .int (-100), .int xb], w)) rfl ?_
      refine mz_doQ (R := mz_r121) (as := [.int xb, .int (-100), .int 100]) (rest := []) (r1 := some (.int 1)) (m1 := w) mz_t121 mz_v121 rfl rfl rfl rfl rfl ((cs_in1 (m := w) (v := xb) (a := (-100)) (b := 100) (show ¬ (xb < (-100)) from (sm_plc_of q1).2.1) (show ¬ (100 < xb) from (sm_plc_of q1).2.2)).deep (by decide)) ?_
      refine mz_go 3 (c' := (27, [some (.int xa), some (.int xb)], [.int 1], w)) rfl ?_
      exact mz_ret rfl
    refine mz_goP 14 (c' := (33, [some (.ref 0), some (.int xa), some (.int xb), some (.int (w 7 5)), none], [.int (w 7 5), .int 0, .int 0, .int xb, .int xa, .ref 49], w)) rfl ?_
    obtain ⟨re1, fe1, ge1, le1, Ee1⟩ := cw_end (m := w) (w := w) (sm_Wl_r w) hw (hr5.imp id Or.inl) hr80 (sm_B_of (sm_plc_of q1).1.1 (sm_plc_of q1).1.2) (sm_B_of (sm_plc_of q1).2.1 (sm_plc_of q1).2.2) 0 0
    refine mz_doPQ (R := mz_r36) (as := [.ref 49, .int xa, .int xb, .int 0, .int 0, .int (w 7 5)]) (rest := []) (r1 := some (.int (sm_end w (w 7 5) xa xb 0 0))) (m1 := mz_set (mz_set (mz_set w 50 re1) 51 fe1) 52 ge1) mz_t36 mz_v36_49 rfl rfl rfl rfl rfl (Ee1.deep (by decide)) ?_
    refine mz_goP 11 (c' := (51, [some (.ref 0), some (.int xa), some (.int xb), some (.int (w 7 5)), some (.int (sm_end w (w 7 5) xa xb 0 0))], [.int (2 * (w 7 5)), .int 0, .int 0, .int xb, .int xa, .ref 49, .int (sm_end w (w 7 5) xa xb 0 0)], mz_set (mz_set (mz_set w 50 re1) 51 fe1) 52 ge1)) rfl ?_
    obtain ⟨re2, fe2, ge2, le2, Ee2⟩ := cw_end (m := mz_set (mz_set (mz_set w 50 re1) 51 fe1) 52 ge1) (w := w) (sm_Wl_s (by decide) (sm_Wl_s (by decide) (sm_Wl_s (by decide) (sm_Wl_r w)))) hw (sm_f4 hr5) hr80 (sm_B_of (sm_plc_of q1).1.1 (sm_plc_of q1).1.2) (sm_B_of (sm_plc_of q1).2.1 (sm_plc_of q1).2.2) 0 0
    refine mz_doPQ (R := mz_r36) (as := [.ref 49, .int xa, .int xb, .int 0, .int 0, .int (2 * (w 7 5))]) (rest := [.int (sm_end w (w 7 5) xa xb 0 0)]) (r1 := some (.int (sm_end w (2 * (w 7 5)) xa xb 0 0))) (m1 := mz_set (mz_set (mz_set (mz_set (mz_set (mz_set w 50 re1) 51 fe1) 52 ge1) 50 re2) 51 fe2) 52 ge2) mz_t36 mz_v36_49 rfl rfl rfl rfl rfl (Ee2.deep (by decide)) ?_
    refine mz_goP 1 (c' := (if (sm_end w (w 7 5) xa xb 0 0) = (sm_end w (2 * (w 7 5)) xa xb 0 0) then 57 else 61, [some (.ref 0), some (.int xa), some (.int xb), some (.int (w 7 5)), some (.int (sm_end w (w 7 5) xa xb 0 0))], [], mz_set (mz_set (mz_set (mz_set (mz_set (mz_set w 50 re1) 51 fe1) 52 ge1) 50 re2) 51 fe2) 52 ge2)) rfl ?_
    by_cases q2 : (sm_end w (w 7 5) xa xb 0 0) = (sm_end w (2 * (w 7 5)) xa xb 0 0)
    · refine mz_ifTP q2 ?_
      refine mz_goP 2 (c' := (62, [some (.ref 0), some (.int xa), some (.int xb), some (.int (w 7 5)), some (.int (sm_end w (w 7 5) xa xb 0 0))], [.int 0], mz_set (mz_set (mz_set (mz_set (mz_set (mz_set w 50 re1) 51 fe1) 52 ge1) 50 re2) 51 fe2) 52 ge2)) rfl ?_
      refine mz_retP (r := (some (.int (0)), mz_set (mz_set (mz_set (mz_set (mz_set (mz_set w 50 re1) 51 fe1) 52 ge1) 50 re2) 51 fe2) 52 ge2)) rfl ⟨0, rfl, ?_⟩
      refine mz_goP 2 (c' := (2, [some (.ref 65), some (.int xa), some (.int xb)], [.int xb, .int xa], mz_set (mz_set (mz_set (mz_set (mz_set (mz_set w 50 re1) 51 fe1) 52 ge1) 50 re2) 51 fe2) 52 ge2)) rfl ?_
      refine mz_doPQ (R := mz_r131) (as := [.int xa, .int xb]) (rest := []) (r1 := some (.int 1)) (m1 := mz_set (mz_set (mz_set (mz_set (mz_set (mz_set w 50 re1) 51 fe1) 52 ge1) 50 re2) 51 fe2) 52 ge2) mz_t131 mz_v131 rfl rfl rfl rfl rfl ⟨?_, rfl⟩ ?_
      · refine mz_go 3 (c' := (5, [some (.int xa), some (.int xb)], [.int 100, .int (-100), .int xa], mz_set (mz_set (mz_set (mz_set (mz_set (mz_set w 50 re1) 51 fe1) 52 ge1) 50 re2) 51 fe2) 52 ge2)) rfl ?_
        refine mz_doQ (R := mz_r128) (as := [.int xa, .int (-100), .int 100]) (rest := []) (r1 := some (.int 1)) (m1 := mz_set (mz_set (mz_set (mz_set (mz_set (mz_set w 50 re1) 51 fe1) 52 ge1) 50 re2) 51 fe2) 52 ge2) mz_t128 mz_v128 rfl rfl rfl rfl rfl ((ct_in1 (m := mz_set (mz_set (mz_set (mz_set (mz_set (mz_set w 50 re1) 51 fe1) 52 ge1) 50 re2) 51 fe2) 52 ge2) (v := xa) (a := (-100)) (b := 100) (show ¬ (xa < (-100)) from (sm_plc_of q1).1.1) (show ¬ (100 < xa) from (sm_plc_of q1).1.2)).deep (by decide)) ?_
        refine mz_go 4 (c' := (16, [some (.int xa), some (.int xb)], [.int 100, .int (-100), .int xb], mz_set (mz_set (mz_set (mz_set (mz_set (mz_set w 50 re1) 51 fe1) 52 ge1) 50 re2) 51 fe2) 52 ge2)) rfl ?_
        refine mz_doQ (R := mz_r128) (as := [.int xb, .int (-100), .int 100]) (rest := []) (r1 := some (.int 1)) (m1 := mz_set (mz_set (mz_set (mz_set (mz_set (mz_set w 50 re1) 51 fe1) 52 ge1) 50 re2) 51 fe2) 52 ge2) mz_t128 mz_v128 rfl rfl rfl rfl rfl ((ct_in1 (m := mz_set (mz_set (mz_set (mz_set (mz_set (mz_set w 50 re1) 51 fe1) 52 ge1) 50 re2) 51 fe2) 52 ge2) (v := xb) (a := (-100)) (b := 100) (show ¬ (xb < (-100)) from (sm_plc_of q1).2.1) (show ¬ (100 < xb) from (sm_plc_of q1).2.2)).deep (by decide)) ?_
        refine mz_go 3 (c' := (27, [some (.int xa), some (.int xb)], [.int 1], mz_set (mz_set (mz_set (mz_set (mz_set (mz_set w 50 re1) 51 fe1) 52 ge1) 50 re2) 51 fe2) 52 ge2)) rfl ?_
        exact mz_ret rfl
      refine mz_goP 5 (c' := (18, [some (.ref 65), some (.int xa), some (.int xb)], [.ref 65, .int xb, .int xa, .ref 65], mz_set (mz_set (mz_set (mz_set (mz_set (mz_set w 50 re1) 51 fe1) 52 ge1) 50 re2) 51 fe2) 52 ge2)) rfl ?_
      refine mz_doPQ (R := mz_r156) (as := [.ref 65]) (rest := [.int xb, .int xa, .ref 65]) (r1 := some (.int (w 7 5))) (m1 := mz_set (mz_set (mz_set (mz_set (mz_set (mz_set w 50 re1) 51 fe1) 52 ge1) 50 re2) 51 fe2) 52 ge2) mz_t156 mz_v156_65 rfl rfl rfl rfl rfl ⟨?_, rfl⟩ ?_
      · refine mz_go 4 (c' := (7, [some (.ref 65)], [.int (w 66 15)], mz_set (mz_set (mz_set (mz_set (mz_set (mz_set w 50 re1) 51 fe1) 52 ge1) 50 re2) 51 fe2) 52 ge2)) rfl ?_
        rw [show w 66 15 = w 7 5 from hrr 5 (by decide)]
        exact mz_ret rfl
      obtain ⟨re3, fe3, ge3, le3, ke3, Ee3⟩ := ct_end (w := w) (m := mz_up (mz_up (mz_up (mz_up (mz_up (mz_set (mz_set (mz_set (mz_set (mz_set (mz_set w 50 re1) 51 fe1) 52 ge1) 50 re2) 51 fe2) 52 ge2) 65 4 (16 * xa)) 65 5 (16 * xb)) 65 6 0) 65 7 0) 65 8 0) hw hr2 (hr5.imp id Or.inl) hr80 (sm_B_of (sm_plc_of q1).1.1 (sm_plc_of q1).1.2) (sm_B_of (sm_plc_of q1).2.1 (sm_plc_of q1).2.2) (show sm_like (fun k => (mz_up (mz_up (mz_up (mz_up (mz_up (mz_set (mz_set (mz_set (mz_set (mz_set (mz_set w 50 re1) 51 fe1) 52 ge1) 50 re2) 51 fe2) 52 ge2) 65 4 (16 * xa)) 65 5 (16 * xb)) 65 6 0) 65 7 0) 65 8 0) 65 (4 + k)) (sm_go xa xb 0 0) from ⟨rfl, rfl, rfl, rfl, rfl⟩)
      refine mz_doPQ (R := mz_r155) (as := [.ref 65, .int xa, .int xb, .int (w 7 5)]) (rest := []) (r1 := some (.int (sm_end w (w 7 5) xa xb 0 0))) (m1 := mz_set (mz_set (mz_set (mz_up (mz_up (mz_up (mz_up (mz_up (mz_set (mz_set (mz_set (mz_set (mz_set (mz_set w 50 re1) 51 fe1) 52 ge1) 50 re2) 51 fe2) 52 ge2) 65 4 (16 * xa)) 65 5 (16 * xb)) 65 6 0) 65 7 0) 65 8 0) 65 re3) 70 fe3) 71 ge3) mz_t155 mz_v155_65 rfl rfl rfl rfl rfl ⟨?_, rfl⟩ ?_
      · refine mz_go 5 (c' := (5, [some (.ref 65), some (.int xa), some (.int xb), some (.int (w 7 5))], [.int 0, .int 0, .int xb, .int xa, .ref 65], mz_set (mz_set (mz_set (mz_set (mz_set (mz_set w 50 re1) 51 fe1) 52 ge1) 50 re2) 51 fe2) 52 ge2)) rfl ?_
        refine mz_doQ (R := mz_r144) (as := [.ref 65, .int xa, .int xb, .int 0, .int 0]) (rest := []) (r1 := none) (m1 := mz_up (mz_up (mz_up (mz_up (mz_up (mz_set (mz_set (mz_set (mz_set (mz_set (mz_set w 50 re1) 51 fe1) 52 ge1) 50 re2) 51 fe2) 52 ge2) 65 4 (16 * xa)) 65 5 (16 * xb)) 65 6 0) 65 7 0) 65 8 0) mz_t144 mz_v144_65 rfl rfl rfl rfl rfl ⟨?_, rfl⟩ ?_
        · refine mz_go 19 (c' := (32, [some (.ref 65), some (.int xa), some (.int xb), some (.int 0), some (.int 0)], [], mz_up (mz_up (mz_up (mz_up (mz_up (mz_set (mz_set (mz_set (mz_set (mz_set (mz_set w 50 re1) 51 fe1) 52 ge1) 50 re2) 51 fe2) 52 ge2) 65 4 (16 * xa)) 65 5 (16 * xb)) 65 6 0) 65 7 0) 65 8 0)) rfl ?_
          exact mz_ret rfl
        refine mz_go 2 (c' := (10, [some (.ref 65), some (.int xa), some (.int xb), some (.int (w 7 5))], [.int (w 7 5), .ref 65], mz_up (mz_up (mz_up (mz_up (mz_up (mz_set (mz_set (mz_set (mz_set (mz_set (mz_set w 50 re1) 51 fe1) 52 ge1) 50 re2) 51 fe2) 52 ge2) 65 4 (16 * xa)) 65 5 (16 * xb)) 65 6 0) 65 7 0) 65 8 0)) rfl ?_
        refine mz_doQ (R := mz_r154) (as := [.ref 65, .int (w 7 5)]) (rest := []) (r1 := some (.int (sm_end w (w 7 5) xa xb 0 0))) (m1 := mz_set (mz_set (mz_set (mz_up (mz_up (mz_up (mz_up (mz_up (mz_set (mz_set (mz_set (mz_set (mz_set (mz_set w 50 re1) 51 fe1) 52 ge1) 50 re2) 51 fe2) 52 ge2) 65 4 (16 * xa)) 65 5 (16 * xb)) 65 6 0) 65 7 0) 65 8 0) 65 re3) 70 fe3) 71 ge3) mz_t154 mz_v154_65 rfl rfl rfl rfl rfl (Ee3.deep (by decide)) ?_
        exact mz_ret rfl
      refine mz_goP 5 (c' := (29, [some (.ref 65), some (.int xa), some (.int xb)], [.ref 65, .int 2, .int xb, .int xa, .ref 65, .int (sm_end w (w 7 5) xa xb 0 0)], mz_set (mz_set (mz_set (mz_up (mz_up (mz_up (mz_up (mz_up (mz_set (mz_set (mz_set (mz_set (mz_set (mz_set w 50 re1) 51 fe1) 52 ge1) 50 re2) 51 fe2) 52 ge2) 65 4 (16 * xa)) 65 5 (16 * xb)) 65 6 0) 65 7 0) 65 8 0) 65 re3) 70 fe3) 71 ge3)) rfl ?_
      refine mz_doPQ (R := mz_r156) (as := [.ref 65]) (rest := [.int 2, .int xb, .int xa, .ref 65, .int (sm_end w (w 7 5) xa xb 0 0)]) (r1 := some (.int (w 7 5))) (m1 := mz_set (mz_set (mz_set (mz_up (mz_up (mz_up (mz_up (mz_up (mz_set (mz_set (mz_set (mz_set (mz_set (mz_set w 50 re1) 51 fe1) 52 ge1) 50 re2) 51 fe2) 52 ge2) 65 4 (16 * xa)) 65 5 (16 * xb)) 65 6 0) 65 7 0) 65 8 0) 65 re3) 70 fe3) 71 ge3) mz_t156 mz_v156_65 rfl rfl rfl rfl rfl ⟨?_, rfl⟩ ?_
      · refine mz_go 4 (c' := (7, [some (.ref 65)], [.int (w 66 15)], mz_set (mz_set (mz_set (mz_up (mz_up (mz_up (mz_up (mz_up (mz_set (mz_set (mz_set (mz_set (mz_set (mz_set w 50 re1) 51 fe1) 52 ge1) 50 re2) 51 fe2) 52 ge2) 65 4 (16 * xa)) 65 5 (16 * xb)) 65 6 0) 65 7 0) 65 8 0) 65 re3) 70 fe3) 71 ge3)) rfl ?_
        rw [show w 66 15 = w 7 5 from hrr 5 (by decide)]
        exact mz_ret rfl
      refine mz_goP 1 (c' := (33, [some (.ref 65), some (.int xa), some (.int xb)], [.int (2 * (w 7 5)), .int xb, .int xa, .ref 65, .int (sm_end w (w 7 5) xa xb 0 0)], mz_set (mz_set (mz_set (mz_up (mz_up (mz_up (mz_up (mz_up (mz_set (mz_set (mz_set (mz_set (mz_set (mz_set w 50 re1) 51 fe1) 52 ge1) 50 re2) 51 fe2) 52 ge2) 65 4 (16 * xa)) 65 5 (16 * xb)) 65 6 0) 65 7 0) 65 8 0) 65 re3) 70 fe3) 71 ge3)) rfl ?_
      obtain ⟨re4, fe4, ge4, le4, ke4, Ee4⟩ := ct_end (w := w) (m := mz_up (mz_up (mz_up (mz_up (mz_up (mz_set (mz_set (mz_set (mz_up (mz_up (mz_up (mz_up (mz_up (mz_set (mz_set (mz_set (mz_set (mz_set (mz_set w 50 re1) 51 fe1) 52 ge1) 50 re2) 51 fe2) 52 ge2) 65 4 (16 * xa)) 65 5 (16 * xb)) 65 6 0) 65 7 0) 65 8 0) 65 re3) 70 fe3) 71 ge3) 65 4 (16 * xa)) 65 5 (16 * xb)) 65 6 0) 65 7 0) 65 8 0) hw hr2 (sm_f4 hr5) hr80 (sm_B_of (sm_plc_of q1).1.1 (sm_plc_of q1).1.2) (sm_B_of (sm_plc_of q1).2.1 (sm_plc_of q1).2.2) (show sm_like (fun k => (mz_up (mz_up (mz_up (mz_up (mz_up (mz_set (mz_set (mz_set (mz_up (mz_up (mz_up (mz_up (mz_up (mz_set (mz_set (mz_set (mz_set (mz_set (mz_set w 50 re1) 51 fe1) 52 ge1) 50 re2) 51 fe2) 52 ge2) 65 4 (16 * xa)) 65 5 (16 * xb)) 65 6 0) 65 7 0) 65 8 0) 65 re3) 70 fe3) 71 ge3) 65 4 (16 * xa)) 65 5 (16 * xb)) 65 6 0) 65 7 0) 65 8 0) 65 (4 + k)) (sm_go xa xb 0 0) from ⟨rfl, rfl, rfl, rfl, rfl⟩)
      refine mz_doPQ (R := mz_r155) (as := [.ref 65, .int xa, .int xb, .int (2 * (w 7 5))]) (rest := [.int (sm_end w (w 7 5) xa xb 0 0)]) (r1 := some (.int (sm_end w (2 * (w 7 5)) xa xb 0 0))) (m1 := mz_set (mz_set (mz_set (mz_up (mz_up (mz_up (mz_up (mz_up (mz_set (mz_set (mz_set (mz_up (mz_up (mz_up (mz_up (mz_up (mz_set (mz_set (mz_set (mz_set (mz_set (mz_set w 50 re1) 51 fe1) 52 ge1) 50 re2) 51 fe2) 52 ge2) 65 4 (16 * xa)) 65 5 (16 * xb)) 65 6 0) 65 7 0) 65 8 0) 65 re3) 70 fe3) 71 ge3) 65 4 (16 * xa)) 65 5 (16 * xb)) 65 6 0) 65 7 0) 65 8 0) 65 re4) 70 fe4) 71 ge4) mz_t155 mz_v155_65 rfl rfl rfl rfl rfl ⟨?_, rfl⟩ ?_
      · refine mz_go 5 (c' := (5, [some (.ref 65), some (.int xa), some (.int xb), some (.int (2 * (w 7 5)))], [.int 0, .int 0, .int xb, .int xa, .ref 65], mz_set (mz_set (mz_set (mz_up (mz_up (mz_up (mz_up (mz_up (mz_set (mz_set (mz_set (mz_set (mz_set (mz_set w 50 re1) 51 fe1) 52 ge1) 50 re2) 51 fe2) 52 ge2) 65 4 (16 * xa)) 65 5 (16 * xb)) 65 6 0) 65 7 0) 65 8 0) 65 re3) 70 fe3) 71 ge3)) rfl ?_
        refine mz_doQ (R := mz_r144) (as := [.ref 65, .int xa, .int xb, .int 0, .int 0]) (rest := []) (r1 := none) (m1 := mz_up (mz_up (mz_up (mz_up (mz_up (mz_set (mz_set (mz_set (mz_up (mz_up (mz_up (mz_up (mz_up (mz_set (mz_set (mz_set (mz_set (mz_set (mz_set w 50 re1) 51 fe1) 52 ge1) 50 re2) 51 fe2) 52 ge2) 65 4 (16 * xa)) 65 5 (16 * xb)) 65 6 0) 65 7 0) 65 8 0) 65 re3) 70 fe3) 71 ge3) 65 4 (16 * xa)) 65 5 (16 * xb)) 65 6 0) 65 7 0) 65 8 0) mz_t144 mz_v144_65 rfl rfl rfl rfl rfl ⟨?_, rfl⟩ ?_
        · refine mz_go 19 (c' := (32, [some (.ref 65), some (.int xa), some (.int xb), some (.int 0), some (.int 0)], [], mz_up (mz_up (mz_up (mz_up (mz_up (mz_set (mz_set (mz_set (mz_up (mz_up (mz_up (mz_up (mz_up (mz_set (mz_set (mz_set (mz_set (mz_set (mz_set w 50 re1) 51 fe1) 52 ge1) 50 re2) 51 fe2) 52 ge2) 65 4 (16 * xa)) 65 5 (16 * xb)) 65 6 0) 65 7 0) 65 8 0) 65 re3) 70 fe3) 71 ge3) 65 4 (16 * xa)) 65 5 (16 * xb)) 65 6 0) 65 7 0) 65 8 0)) rfl ?_
          exact mz_ret rfl
        refine mz_go 2 (c' := (10, [some (.ref 65), some (.int xa), some (.int xb), some (.int (2 * (w 7 5)))], [.int (2 * (w 7 5)), .ref 65], mz_up (mz_up (mz_up (mz_up (mz_up (mz_set (mz_set (mz_set (mz_up (mz_up (mz_up (mz_up (mz_up (mz_set (mz_set (mz_set (mz_set (mz_set (mz_set w 50 re1) 51 fe1) 52 ge1) 50 re2) 51 fe2) 52 ge2) 65 4 (16 * xa)) 65 5 (16 * xb)) 65 6 0) 65 7 0) 65 8 0) 65 re3) 70 fe3) 71 ge3) 65 4 (16 * xa)) 65 5 (16 * xb)) 65 6 0) 65 7 0) 65 8 0)) rfl ?_
        refine mz_doQ (R := mz_r154) (as := [.ref 65, .int (2 * (w 7 5))]) (rest := []) (r1 := some (.int (sm_end w (2 * (w 7 5)) xa xb 0 0))) (m1 := mz_set (mz_set (mz_set (mz_up (mz_up (mz_up (mz_up (mz_up (mz_set (mz_set (mz_set (mz_up (mz_up (mz_up (mz_up (mz_up (mz_set (mz_set (mz_set (mz_set (mz_set (mz_set w 50 re1) 51 fe1) 52 ge1) 50 re2) 51 fe2) 52 ge2) 65 4 (16 * xa)) 65 5 (16 * xb)) 65 6 0) 65 7 0) 65 8 0) 65 re3) 70 fe3) 71 ge3) 65 4 (16 * xa)) 65 5 (16 * xb)) 65 6 0) 65 7 0) 65 8 0) 65 re4) 70 fe4) 71 ge4) mz_t154 mz_v154_65 rfl rfl rfl rfl rfl (Ee4.deep (by decide)) ?_
        exact mz_ret rfl
      refine mz_goP 1 (c' := (if (sm_end w (w 7 5) xa xb 0 0) = (sm_end w (2 * (w 7 5)) xa xb 0 0) then 39 else 43, [some (.ref 65), some (.int xa), some (.int xb)], [], mz_set (mz_set (mz_set (mz_up (mz_up (mz_up (mz_up (mz_up (mz_set (mz_set (mz_set (mz_up (mz_up (mz_up (mz_up (mz_up (mz_set (mz_set (mz_set (mz_set (mz_set (mz_set w 50 re1) 51 fe1) 52 ge1) 50 re2) 51 fe2) 52 ge2) 65 4 (16 * xa)) 65 5 (16 * xb)) 65 6 0) 65 7 0) 65 8 0) 65 re3) 70 fe3) 71 ge3) 65 4 (16 * xa)) 65 5 (16 * xb)) 65 6 0) 65 7 0) 65 8 0) 65 re4) 70 fe4) 71 ge4)) rfl ?_
      refine mz_ifTP q2 ?_
      refine mz_goP 2 (c' := (44, [some (.ref 65), some (.int xa), some (.int xb)], [.int 0], mz_set (mz_set (mz_set (mz_up (mz_up (mz_up (mz_up (mz_up (mz_set (mz_set (mz_set (mz_up (mz_up (mz_up (mz_up (mz_up (mz_set (mz_set (mz_set (mz_set (mz_set (mz_set w 50 re1) 51 fe1) 52 ge1) 50 re2) 51 fe2) 52 ge2) 65 4 (16 * xa)) 65 5 (16 * xb)) 65 6 0) 65 7 0) 65 8 0) 65 re3) 70 fe3) 71 ge3) 65 4 (16 * xa)) 65 5 (16 * xb)) 65 6 0) 65 7 0) 65 8 0) 65 re4) 70 fe4) 71 ge4)) rfl ?_
      refine mz_retP (r := (some (.int (0)), mz_set (mz_set (mz_set (mz_up (mz_up (mz_up (mz_up (mz_up (mz_set (mz_set (mz_set (mz_up (mz_up (mz_up (mz_up (mz_up (mz_set (mz_set (mz_set (mz_set (mz_set (mz_set w 50 re1) 51 fe1) 52 ge1) 50 re2) 51 fe2) 52 ge2) 65 4 (16 * xa)) 65 5 (16 * xb)) 65 6 0) 65 7 0) 65 8 0) 65 re3) 70 fe3) 71 ge3) 65 4 (16 * xa)) 65 5 (16 * xb)) 65 6 0) 65 7 0) 65 8 0) 65 re4) 70 fe4) 71 ge4)) rfl ⟨0, rfl, ?_, rfl⟩
      show sm_I (n + 1) (mz_set (mz_set (mz_set (mz_up (mz_up (mz_up (mz_up (mz_up (mz_set (mz_set (mz_set (mz_up (mz_up (mz_up (mz_up (mz_up (mz_set (mz_set (mz_set (mz_set (mz_set (mz_set w 50 re1) 51 fe1) 52 ge1) 50 re2) 51 fe2) 52 ge2) 65 4 (16 * xa)) 65 5 (16 * xb)) 65 6 0) 65 7 0) 65 8 0) 65 re3) 70 fe3) 71 ge3) 65 4 (16 * xa)) 65 5 (16 * xb)) 65 6 0) 65 7 0) 65 8 0) 65 re4) 70 fe4) 71 ge4)
      exact sm_I_scr hn hI2 (fun i hi => by
        have hne : ∀ r, sm_scr r = true → i ≠ r := fun r hr e => by
          rw [e, hr] at hi
          cases hi
        simp only [mz_set_ne (hne 50 rfl), mz_set_ne (hne 51 rfl), mz_set_ne (hne 52 rfl), mz_set_ne (hne 65 rfl), mz_set_ne (hne 70 rfl), mz_set_ne (hne 71 rfl), mz_up_ne (hne 65 rfl)]) ((ke4 2 (by omega)).trans ((ke3 2 (by omega)).trans rfl)) ((ke4 19 (by omega)).trans ((ke3 19 (by omega)).trans rfl))
    · refine mz_ifFP q2 ?_
      refine mz_goP 1 (c' := (62, [some (.ref 0), some (.int xa), some (.int xb), some (.int (w 7 5)), some (.int (sm_end w (w 7 5) xa xb 0 0))], [.int 1], mz_set (mz_set (mz_set (mz_set (mz_set (mz_set w 50 re1) 51 fe1) 52 ge1) 50 re2) 51 fe2) 52 ge2)) rfl ?_
      refine mz_retP (r := (some (.int (1)), mz_set (mz_set (mz_set (mz_set (mz_set (mz_set w 50 re1) 51 fe1) 52 ge1) 50 re2) 51 fe2) 52 ge2)) rfl ⟨1, rfl, ?_⟩
      refine mz_goP 2 (c' := (2, [some (.ref 65), some (.int xa), some (.int xb)], [.int xb, .int xa], mz_set (mz_set (mz_set (mz_set (mz_set (mz_set w 50 re1) 51 fe1) 52 ge1) 50 re2) 51 fe2) 52 ge2)) rfl ?_
      refine mz_doPQ (R := mz_r131) (as := [.int xa, .int xb]) (rest := []) (r1 := some (.int 1)) (m1 := mz_set (mz_set (mz_set (mz_set (mz_set (mz_set w 50 re1) 51 fe1) 52 ge1) 50 re2) 51 fe2) 52 ge2) mz_t131 mz_v131 rfl rfl rfl rfl rfl ⟨?_, rfl⟩ ?_
      · refine mz_go 3 (c' := (5, [some (.int xa), some (.int xb)], [.int 100, .int (-100), .int xa], mz_set (mz_set (mz_set (mz_set (mz_set (mz_set w 50 re1) 51 fe1) 52 ge1) 50 re2) 51 fe2) 52 ge2)) rfl ?_
        refine mz_doQ (R := mz_r128) (as := [.int xa, .int (-100), .int 100]) (rest := []) (r1 := some (.int 1)) (m1 := mz_set (mz_set (mz_set (mz_set (mz_set (mz_set w 50 re1) 51 fe1) 52 ge1) 50 re2) 51 fe2) 52 ge2) mz_t128 mz_v128 rfl rfl rfl rfl rfl ((ct_in1 (m := mz_set (mz_set (mz_set (mz_set (mz_set (mz_set w 50 re1) 51 fe1) 52 ge1) 50 re2) 51 fe2) 52 ge2) (v := xa) (a := (-100)) (b := 100) (show ¬ (xa < (-100)) from (sm_plc_of q1).1.1) (show ¬ (100 < xa) from (sm_plc_of q1).1.2)).deep (by decide)) ?_
        refine mz_go 4 (c' := (16, [some (.int xa), some (.int xb)], [.int 100, .int (-100), .int xb], mz_set (mz_set (mz_set (mz_set (mz_set (mz_set w 50 re1) 51 fe1) 52 ge1) 50 re2) 51 fe2) 52 ge2)) rfl ?_
        refine mz_doQ (R := mz_r128) (as := [.int xb, .int (-100), .int 100]) (rest := []) (r1 := some (.int 1)) (m1 := mz_set (mz_set (mz_set (mz_set (mz_set (mz_set w 50 re1) 51 fe1) 52 ge1) 50 re2) 51 fe2) 52 ge2) mz_t128 mz_v128 rfl rfl rfl rfl rfl ((ct_in1 (m := mz_set (mz_set (mz_set (mz_set (mz_set (mz_set w 50 re1) 51 fe1) 52 ge1) 50 re2) 51 fe2) 52 ge2) (v := xb) (a := (-100)) (b := 100) (show ¬ (xb < (-100)) from (sm_plc_of q1).2.1) (show ¬ (100 < xb) from (sm_plc_of q1).2.2)).deep (by decide)) ?_
        refine mz_go 3 (c' := (27, [some (.int xa), some (.int xb)], [.int 1], mz_set (mz_set (mz_set (mz_set (mz_set (mz_set w 50 re1) 51 fe1) 52 ge1) 50 re2) 51 fe2) 52 ge2)) rfl ?_
        exact mz_ret rfl
      refine mz_goP 5 (c' := (18, [some (.ref 65), some (.int xa), some (.int xb)], [.ref 65, .int xb, .int xa, .ref 65], mz_set (mz_set (mz_set (mz_set (mz_set (mz_set w 50 re1) 51 fe1) 52 ge1) 50 re2) 51 fe2) 52 ge2)) rfl ?_
      refine mz_doPQ (R := mz_r156) (as := [.ref 65]) (rest := [.int xb, .int xa, .ref 65]) (r1 := some (.int (w 7 5))) (m1 := mz_set (mz_set (mz_set (mz_set (mz_set (mz_set w 50 re1) 51 fe1) 52 ge1) 50 re2) 51 fe2) 52 ge2) mz_t156 mz_v156_65 rfl rfl rfl rfl rfl ⟨?_, rfl⟩ ?_
      · refine mz_go 4 (c' := (7, [some (.ref 65)], [.int (w 66 15)], mz_set (mz_set (mz_set (mz_set (mz_set (mz_set w 50 re1) 51 fe1) 52 ge1) 50 re2) 51 fe2) 52 ge2)) rfl ?_
        rw [show w 66 15 = w 7 5 from hrr 5 (by decide)]
        exact mz_ret rfl
      obtain ⟨re3, fe3, ge3, le3, ke3, Ee3⟩ := ct_end (w := w) (m := mz_up (mz_up (mz_up (mz_up (mz_up (mz_set (mz_set (mz_set (mz_set (mz_set (mz_set w 50 re1) 51 fe1) 52 ge1) 50 re2) 51 fe2) 52 ge2) 65 4 (16 * xa)) 65 5 (16 * xb)) 65 6 0) 65 7 0) 65 8 0) hw hr2 (hr5.imp id Or.inl) hr80 (sm_B_of (sm_plc_of q1).1.1 (sm_plc_of q1).1.2) (sm_B_of (sm_plc_of q1).2.1 (sm_plc_of q1).2.2) (show sm_like (fun k => (mz_up (mz_up (mz_up (mz_up (mz_up (mz_set (mz_set (mz_set (mz_set (mz_set (mz_set w 50 re1) 51 fe1) 52 ge1) 50 re2) 51 fe2) 52 ge2) 65 4 (16 * xa)) 65 5 (16 * xb)) 65 6 0) 65 7 0) 65 8 0) 65 (4 + k)) (sm_go xa xb 0 0) from ⟨rfl, rfl, rfl, rfl, rfl⟩)
      refine mz_doPQ (R := mz_r155) (as := [.ref 65, .int xa, .int xb, .int (w 7 5)]) (rest := []) (r1 := some (.int (sm_end w (w 7 5) xa xb 0 0))) (m1 := mz_set (mz_set (mz_set (mz_up (mz_up (mz_up (mz_up (mz_up (mz_set (mz_set (mz_set (mz_set (mz_set (mz_set w 50 re1) 51 fe1) 52 ge1) 50 re2) 51 fe2) 52 ge2) 65 4 (16 * xa)) 65 5 (16 * xb)) 65 6 0) 65 7 0) 65 8 0) 65 re3) 70 fe3) 71 ge3) mz_t155 mz_v155_65 rfl rfl rfl rfl rfl ⟨?_, rfl⟩ ?_
      · refine mz_go 5 (c' := (5, [some (.ref 65), some (.int xa), some (.int xb), some (.int (w 7 5))], [.int 0, .int 0, .int xb, .int xa, .ref 65], mz_set (mz_set (mz_set (mz_set (mz_set (mz_set w 50 re1) 51 fe1) 52 ge1) 50 re2) 51 fe2) 52 ge2)) rfl ?_
        refine mz_doQ (R := mz_r144) (as := [.ref 65, .int xa, .int xb, .int 0, .int 0]) (rest := []) (r1 := none) (m1 := mz_up (mz_up (mz_up (mz_up (mz_up (mz_set (mz_set (mz_set (mz_set (mz_set (mz_set w 50 re1) 51 fe1) 52 ge1) 50 re2) 51 fe2) 52 ge2) 65 4 (16 * xa)) 65 5 (16 * xb)) 65 6 0) 65 7 0) 65 8 0) mz_t144 mz_v144_65 rfl rfl rfl rfl rfl ⟨?_, rfl⟩ ?_
        · refine mz_go 19 (c' := (32, [some (.ref 65), some (.int xa), some (.int xb), some (.int 0), some (.int 0)], [], mz_up (mz_up (mz_up (mz_up (mz_up (mz_set (mz_set (mz_set (mz_set (mz_set (mz_set w 50 re1) 51 fe1) 52 ge1) 50 re2) 51 fe2) 52 ge2) 65 4 (16 * xa)) 65 5 (16 * xb)) 65 6 0) 65 7 0) 65 8 0)) rfl ?_
          exact mz_ret rfl
        refine mz_go 2 (c' := (10, [some (.ref 65), some (.int xa), some (.int xb), some (.int (w 7 5))], [.int (w 7 5), .ref 65], mz_up (mz_up (mz_up (mz_up (mz_up (mz_set (mz_set (mz_set (mz_set (mz_set (mz_set w 50 re1) 51 fe1) 52 ge1) 50 re2) 51 fe2) 52 ge2) 65 4 (16 * xa)) 65 5 (16 * xb)) 65 6 0) 65 7 0) 65 8 0)) rfl ?_
        refine mz_doQ (R := mz_r154) (as := [.ref 65, .int (w 7 5)]) (rest := []) (r1 := some (.int (sm_end w (w 7 5) xa xb 0 0))) (m1 := mz_set (mz_set (mz_set (mz_up (mz_up (mz_up (mz_up (mz_up (mz_set (mz_set (mz_set (mz_set (mz_set (mz_set w 50 re1) 51 fe1) 52 ge1) 50 re2) 51 fe2) 52 ge2) 65 4 (16 * xa)) 65 5 (16 * xb)) 65 6 0) 65 7 0) 65 8 0) 65 re3) 70 fe3) 71 ge3) mz_t154 mz_v154_65 rfl rfl rfl rfl rfl (Ee3.deep (by decide)) ?_
        exact mz_ret rfl
      refine mz_goP 5 (c' := (29, [some (.ref 65), some (.int xa), some (.int xb)], [.ref 65, .int 2, .int xb, .int xa, .ref 65, .int (sm_end w (w 7 5) xa xb 0 0)], mz_set (mz_set (mz_set (mz_up (mz_up (mz_up (mz_up (mz_up (mz_set (mz_set (mz_set (mz_set (mz_set (mz_set w 50 re1) 51 fe1) 52 ge1) 50 re2) 51 fe2) 52 ge2) 65 4 (16 * xa)) 65 5 (16 * xb)) 65 6 0) 65 7 0) 65 8 0) 65 re3) 70 fe3) 71 ge3)) rfl ?_
      refine mz_doPQ (R := mz_r156) (as := [.ref 65]) (rest := [.int 2, .int xb, .int xa, .ref 65, .int (sm_end w (w 7 5) xa xb 0 0)]) (r1 := some (.int (w 7 5))) (m1 := mz_set (mz_set (mz_set (mz_up (mz_up (mz_up (mz_up (mz_up (mz_set (mz_set (mz_set (mz_set (mz_set (mz_set w 50 re1) 51 fe1) 52 ge1) 50 re2) 51 fe2) 52 ge2) 65 4 (16 * xa)) 65 5 (16 * xb)) 65 6 0) 65 7 0) 65 8 0) 65 re3) 70 fe3) 71 ge3) mz_t156 mz_v156_65 rfl rfl rfl rfl rfl ⟨?_, rfl⟩ ?_
      · refine mz_go 4 (c' := (7, [some (.ref 65)], [.int (w 66 15)], mz_set (mz_set (mz_set (mz_up (mz_up (mz_up (mz_up (mz_up (mz_set (mz_set (mz_set (mz_set (mz_set (mz_set w 50 re1) 51 fe1) 52 ge1) 50 re2) 51 fe2) 52 ge2) 65 4 (16 * xa)) 65 5 (16 * xb)) 65 6 0) 65 7 0) 65 8 0) 65 re3) 70 fe3) 71 ge3)) rfl ?_
        rw [show w 66 15 = w 7 5 from hrr 5 (by decide)]
        exact mz_ret rfl
      refine mz_goP 1 (c' := (33, [some (.ref 65), some (.int xa), some (.int xb)], [.int (2 * (w 7 5)), .int xb, .int xa, .ref 65, .int (sm_end w (w 7 5) xa xb 0 0)], mz_set (mz_set (mz_set (mz_up (mz_up (mz_up (mz_up (mz_up (mz_set (mz_set (mz_set (mz_set (mz_set (mz_set w 50 re1) 51 fe1) 52 ge1) 50 re2) 51 fe2) 52 ge2) 65 4 (16 * xa)) 65 5 (16 * xb)) 65 6 0) 65 7 0) 65 8 0) 65 re3) 70 fe3) 71 ge3)) rfl ?_
      obtain ⟨re4, fe4, ge4, le4, ke4, Ee4⟩ := ct_end (w := w) (m := mz_up (mz_up (mz_up (mz_up (mz_up (mz_set (mz_set (mz_set (mz_up (mz_up (mz_up (mz_up (mz_up (mz_set (mz_set (mz_set (mz_set (mz_set (mz_set w 50 re1) 51 fe1) 52 ge1) 50 re2) 51 fe2) 52 ge2) 65 4 (16 * xa)) 65 5 (16 * xb)) 65 6 0) 65 7 0) 65 8 0) 65 re3) 70 fe3) 71 ge3) 65 4 (16 * xa)) 65 5 (16 * xb)) 65 6 0) 65 7 0) 65 8 0) hw hr2 (sm_f4 hr5) hr80 (sm_B_of (sm_plc_of q1).1.1 (sm_plc_of q1).1.2) (sm_B_of (sm_plc_of q1).2.1 (sm_plc_of q1).2.2) (show sm_like (fun k => (mz_up (mz_up (mz_up (mz_up (mz_up (mz_set (mz_set (mz_set (mz_up (mz_up (mz_up (mz_up (mz_up (mz_set (mz_set (mz_set (mz_set (mz_set (mz_set w 50 re1) 51 fe1) 52 ge1) 50 re2) 51 fe2) 52 ge2) 65 4 (16 * xa)) 65 5 (16 * xb)) 65 6 0) 65 7 0) 65 8 0) 65 re3) 70 fe3) 71 ge3) 65 4 (16 * xa)) 65 5 (16 * xb)) 65 6 0) 65 7 0) 65 8 0) 65 (4 + k)) (sm_go xa xb 0 0) from ⟨rfl, rfl, rfl, rfl, rfl⟩)
      refine mz_doPQ (R := mz_r155) (as := [.ref 65, .int xa, .int xb, .int (2 * (w 7 5))]) (rest := [.int (sm_end w (w 7 5) xa xb 0 0)]) (r1 := some (.int (sm_end w (2 * (w 7 5)) xa xb 0 0))) (m1 := mz_set (mz_set (mz_set (mz_up (mz_up (mz_up (mz_up (mz_up (mz_set (mz_set (mz_set (mz_up (mz_up (mz_up (mz_up (mz_up (mz_set (mz_set (mz_set (mz_set (mz_set (mz_set w 50 re1) 51 fe1) 52 ge1) 50 re2) 51 fe2) 52 ge2) 65 4 (16 * xa)) 65 5 (16 * xb)) 65 6 0) 65 7 0) 65 8 0) 65 re3) 70 fe3) 71 ge3) 65 4 (16 * xa)) 65 5 (16 * xb)) 65 6 0) 65 7 0) 65 8 0) 65 re4) 70 fe4) 71 ge4) mz_t155 mz_v155_65 rfl rfl rfl rfl rfl ⟨?_, rfl⟩ ?_
      · refine mz_go 5 (c' := (5, [some (.ref 65), some (.int xa), some (.int xb), some (.int (2 * (w 7 5)))], [.int 0, .int 0, .int xb, .int xa, .ref 65], mz_set (mz_set (mz_set (mz_up (mz_up (mz_up (mz_up (mz_up (mz_set (mz_set (mz_set (mz_set (mz_set (mz_set w 50 re1) 51 fe1) 52 ge1) 50 re2) 51 fe2) 52 ge2) 65 4 (16 * xa)) 65 5 (16 * xb)) 65 6 0) 65 7 0) 65 8 0) 65 re3) 70 fe3) 71 ge3)) rfl ?_
        refine mz_doQ (R := mz_r144) (as := [.ref 65, .int xa, .int xb, .int 0, .int 0]) (rest := []) (r1 := none) (m1 := mz_up (mz_up (mz_up (mz_up (mz_up (mz_set (mz_set (mz_set (mz_up (mz_up (mz_up (mz_up (mz_up (mz_set (mz_set (mz_set (mz_set (mz_set (mz_set w 50 re1) 51 fe1) 52 ge1) 50 re2) 51 fe2) 52 ge2) 65 4 (16 * xa)) 65 5 (16 * xb)) 65 6 0) 65 7 0) 65 8 0) 65 re3) 70 fe3) 71 ge3) 65 4 (16 * xa)) 65 5 (16 * xb)) 65 6 0) 65 7 0) 65 8 0) mz_t144 mz_v144_65 rfl rfl rfl rfl rfl ⟨?_, rfl⟩ ?_
        · refine mz_go 19 (c' := (32, [some (.ref 65), some (.int xa), some (.int xb), some (.int 0), some (.int 0)], [], mz_up (mz_up (mz_up (mz_up (mz_up (mz_set (mz_set (mz_set (mz_up (mz_up (mz_up (mz_up (mz_up (mz_set (mz_set (mz_set (mz_set (mz_set (mz_set w 50 re1) 51 fe1) 52 ge1) 50 re2) 51 fe2) 52 ge2) 65 4 (16 * xa)) 65 5 (16 * xb)) 65 6 0) 65 7 0) 65 8 0) 65 re3) 70 fe3) 71 ge3) 65 4 (16 * xa)) 65 5 (16 * xb)) 65 6 0) 65 7 0) 65 8 0)) rfl ?_
          exact mz_ret rfl
        refine mz_go 2 (c' := (10, [some (.ref 65), some (.int xa), some (.int xb), some (.int (2 * (w 7 5)))], [.int (2 * (w 7 5)), .ref 65], mz_up (mz_up (mz_up (mz_up (mz_up (mz_set (mz_set (mz_set (mz_up (mz_up (mz_up (mz_up (mz_up (mz_set (mz_set (mz_set (mz_set (mz_set (mz_set w 50 re1) 51 fe1) 52 ge1) 50 re2) 51 fe2) 52 ge2) 65 4 (16 * xa)) 65 5 (16 * xb)) 65 6 0) 65 7 0) 65 8 0) 65 re3) 70 fe3) 71 ge3) 65 4 (16 * xa)) 65 5 (16 * xb)) 65 6 0) 65 7 0) 65 8 0)) rfl ?_
        refine mz_doQ (R := mz_r154) (as := [.ref 65, .int (2 * (w 7 5))]) (rest := []) (r1 := some (.int (sm_end w (2 * (w 7 5)) xa xb 0 0))) (m1 := mz_set (mz_set (mz_set (mz_up (mz_up (mz_up (mz_up (mz_up (mz_set (mz_set (mz_set (mz_up (mz_up (mz_up (mz_up (mz_up (mz_set (mz_set (mz_set (mz_set (mz_set (mz_set w 50 re1) 51 fe1) 52 ge1) 50 re2) 51 fe2) 52 ge2) 65 4 (16 * xa)) 65 5 (16 * xb)) 65 6 0) 65 7 0) 65 8 0) 65 re3) 70 fe3) 71 ge3) 65 4 (16 * xa)) 65 5 (16 * xb)) 65 6 0) 65 7 0) 65 8 0) 65 re4) 70 fe4) 71 ge4) mz_t154 mz_v154_65 rfl rfl rfl rfl rfl (Ee4.deep (by decide)) ?_
        exact mz_ret rfl
      refine mz_goP 1 (c' := (if (sm_end w (w 7 5) xa xb 0 0) = (sm_end w (2 * (w 7 5)) xa xb 0 0) then 39 else 43, [some (.ref 65), some (.int xa), some (.int xb)], [], mz_set (mz_set (mz_set (mz_up (mz_up (mz_up (mz_up (mz_up (mz_set (mz_set (mz_set (mz_up (mz_up (mz_up (mz_up (mz_up (mz_set (mz_set (mz_set (mz_set (mz_set (mz_set w 50 re1) 51 fe1) 52 ge1) 50 re2) 51 fe2) 52 ge2) 65 4 (16 * xa)) 65 5 (16 * xb)) 65 6 0) 65 7 0) 65 8 0) 65 re3) 70 fe3) 71 ge3) 65 4 (16 * xa)) 65 5 (16 * xb)) 65 6 0) 65 7 0) 65 8 0) 65 re4) 70 fe4) 71 ge4)) rfl ?_
      refine mz_ifFP q2 ?_
      refine mz_goP 1 (c' := (44, [some (.ref 65), some (.int xa), some (.int xb)], [.int 1], mz_set (mz_set (mz_set (mz_up (mz_up (mz_up (mz_up (mz_up (mz_set (mz_set (mz_set (mz_up (mz_up (mz_up (mz_up (mz_up (mz_set (mz_set (mz_set (mz_set (mz_set (mz_set w 50 re1) 51 fe1) 52 ge1) 50 re2) 51 fe2) 52 ge2) 65 4 (16 * xa)) 65 5 (16 * xb)) 65 6 0) 65 7 0) 65 8 0) 65 re3) 70 fe3) 71 ge3) 65 4 (16 * xa)) 65 5 (16 * xb)) 65 6 0) 65 7 0) 65 8 0) 65 re4) 70 fe4) 71 ge4)) rfl ?_
      refine mz_retP (r := (some (.int (1)), mz_set (mz_set (mz_set (mz_up (mz_up (mz_up (mz_up (mz_up (mz_set (mz_set (mz_set (mz_up (mz_up (mz_up (mz_up (mz_up (mz_set (mz_set (mz_set (mz_set (mz_set (mz_set w 50 re1) 51 fe1) 52 ge1) 50 re2) 51 fe2) 52 ge2) 65 4 (16 * xa)) 65 5 (16 * xb)) 65 6 0) 65 7 0) 65 8 0) 65 re3) 70 fe3) 71 ge3) 65 4 (16 * xa)) 65 5 (16 * xb)) 65 6 0) 65 7 0) 65 8 0) 65 re4) 70 fe4) 71 ge4)) rfl ⟨1, rfl, ?_, rfl⟩
      show sm_I (n + 1) (mz_set (mz_set (mz_set (mz_up (mz_up (mz_up (mz_up (mz_up (mz_set (mz_set (mz_set (mz_up (mz_up (mz_up (mz_up (mz_up (mz_set (mz_set (mz_set (mz_set (mz_set (mz_set w 50 re1) 51 fe1) 52 ge1) 50 re2) 51 fe2) 52 ge2) 65 4 (16 * xa)) 65 5 (16 * xb)) 65 6 0) 65 7 0) 65 8 0) 65 re3) 70 fe3) 71 ge3) 65 4 (16 * xa)) 65 5 (16 * xb)) 65 6 0) 65 7 0) 65 8 0) 65 re4) 70 fe4) 71 ge4)
      exact sm_I_scr hn hI2 (fun i hi => by
        have hne : ∀ r, sm_scr r = true → i ≠ r := fun r hr e => by
          rw [e, hr] at hi
          cases hi
        simp only [mz_set_ne (hne 50 rfl), mz_set_ne (hne 51 rfl), mz_set_ne (hne 52 rfl), mz_set_ne (hne 65 rfl), mz_set_ne (hne 70 rfl), mz_set_ne (hne 71 rfl), mz_up_ne (hne 65 rfl)]) ((ke4 2 (by omega)).trans ((ke3 2 (by omega)).trans rfl)) ((ke4 19 (by omega)).trans ((ke3 19 (by omega)).trans rfl))
set_option maxHeartbeats 4000000 in
set_option maxRecDepth 100000 in
theorem sc_magnetIs {n : Nat} (hn : n < 64) {w : mz_M} (hI : sm_I n w) (xa : Int32) (xb : Int32) : ∃ v1 v2 m1 m2, mz_Me 100 mz_r68 [.ref 0, .int xa, .int xb] w (some (.int v1)) m1 ∧ mz_Me 100 mz_r138 [.ref 65, .int xa, .int xb] m1 (some (.int v2)) m2 ∧ sm_I (n + 1) m2 ∧ v1 = v2 := by
  have hI2 := hI
  obtain ⟨hn0, ⟨-, ⟨hr80, hr5, hrr⟩, ⟨⟨TT, hTT, h81, h661⟩, htp⟩, ⟨⟨T0, hT0, hU0, hV0, -⟩, ⟨T1, hT1, hU1, hV1, -⟩, ⟨T2, hT2, hU2, hV2, -⟩⟩, ⟨hbx, hby, hbl⟩, ⟨⟨WW, HH, hWW, hHH, hWH, h202, h203, h6660, h6661⟩, h6662, h6663, h6664, hpc⟩, ⟨hth, h66160, hthr⟩, ⟨⟨AA, hAA, h111, h662⟩, h663, hwt⟩⟩, ⟨hsh, hsn⟩, ⟨hcb1, hcb2⟩, ⟨JJ, hJJ, h07, h652, hkept⟩⟩ := hI
  obtain ⟨N, hw, hr2, h660, -, -, h6615⟩ := sm_world hI2
  have hw2 := hw
  obtain ⟨hN, h4, hpb, -, -⟩ := hw2
  have hT60a := sm_T60 hV0
  have hT60b := sm_T60 hV1
  have hT60c := sm_T60 hV2
  obtain ⟨B1, hB1, e571⟩ := sm_Nof (by decide) hcb1
  obtain ⟨B2, hB2, e6519⟩ := sm_Nof (by decide) hcb2
  refine mz_two (fun _ => rfl) (fun _ => rfl) ?_
  by_cases q1 : xa < 0
  · refine mz_goP 6 (c' := (10, [some (.ref 0), some (.int xa), some (.int xb), some (.ref 2), none], [.int xa, .ref 2], w)) rfl ?_
    refine mz_doPQ (R := mz_r21) (as := [.ref 2, .int xa]) (rest := []) (r1 := some (.int 0)) (m1 := w) mz_t21 mz_v21_2 rfl rfl rfl rfl rfl ⟨?_, rfl⟩ ?_
    · refine mz_go 2 (c' := (if xa < 0 then 22 else 4, [some (.ref 2), some (.int xa)], [], w)) rfl ?_
      refine mz_ifT q1 ?_
      refine mz_go 1 (c' := (23, [some (.ref 2), some (.int xa)], [.int 0], w)) rfl ?_
      exact mz_ret rfl
    refine mz_goP 3 (c' := (27, [some (.ref 0), some (.int xa), some (.int xb), some (.ref 2), none], [.int 1, .ref 0], w)) rfl ?_
    refine mz_doPQ (R := mz_r109) (as := [.ref 0, .int 1]) (rest := []) (r1 := some (.int (-1000001))) (m1 := mz_up w 64 1 ((w 64 1) + 1)) mz_t109 mz_v109_0 rfl rfl rfl rfl rfl ((cs_err1 (m := w)).deep (by decide)) ?_
    refine mz_retP (r := (some (.int ((-1000001))), mz_up w 64 1 ((w 64 1) + 1))) rfl ⟨(-1000001), rfl, ?_⟩
    refine mz_goP 2 (c' := (2, [some (.ref 65), some (.int xa), some (.int xb)], [.int xa, .ref 65], mz_up w 64 1 ((w 64 1) + 1))) rfl ?_
    by_cases q2 : N = 0
    · refine mz_doPQ (R := mz_r132) (as := [.ref 65, .int xa]) (rest := []) (r1 := some (.int 0)) (m1 := mz_up w 64 1 ((w 64 1) + 1)) mz_t132 mz_v132_65 rfl rfl rfl rfl rfl ⟨?_, rfl⟩ ?_
      · refine mz_go 6 (c' := (8, [some (.ref 65), some (.int xa)], [.int (w 66 0), .int 0, .int xa], mz_up w 64 1 ((w 64 1) + 1))) rfl ?_
        rw [h660]
        refine mz_go 2 (c' := (10, [some (.ref 65), some (.int xa)], [.int ((nI N) - 1), .int 0, .int xa], mz_up w 64 1 ((w 64 1) + 1))) rfl ?_
        rw [show nI N - 1 = -1 from by rw [show N = 0 by omega]; decide]
        refine mz_doQ (R := mz_r128) (as := [.int xa, .int 0, .int (-1)]) (rest := []) (r1 := some (.int 0)) (m1 := mz_up w 64 1 ((w 64 1) + 1)) mz_t128 mz_v128 rfl rfl rfl rfl rfl ((ct_inL (m := mz_up w 64 1 ((w 64 1) + 1)) (v := xa) (a := 0) (b := (-1)) q1).deep (by decide)) ?_
        exact mz_ret rfl
      refine mz_goP 3 (c' := (19, [some (.ref 65), some (.int xa), some (.int xb)], [.int 1, .ref 65], mz_up w 64 1 ((w 64 1) + 1))) rfl ?_
      refine mz_doPQ (R := mz_r127) (as := [.ref 65, .int 1]) (rest := []) (r1 := some (.int (-1000001))) (m1 := mz_up (mz_up w 64 1 ((w 64 1) + 1)) 68 1 ((w 68 1) + 1)) mz_t127 mz_v127_65 rfl rfl rfl rfl rfl ((ct_err1 (m := mz_up w 64 1 ((w 64 1) + 1))).deep (by decide)) ?_
      refine mz_retP (r := (some (.int ((-1000001))), mz_up (mz_up w 64 1 ((w 64 1) + 1)) 68 1 ((w 68 1) + 1))) rfl ⟨(-1000001), rfl, ?_, rfl⟩
      show sm_I (n + 1) (mz_up (mz_up w 64 1 ((w 64 1) + 1)) 68 1 ((w 68 1) + 1))
      exact sm_I_scr hn hI2 (fun i hi => by
        have hne : ∀ r, sm_scr r = true → i ≠ r := fun r hr e => by
          rw [e, hr] at hi
          cases hi
        simp only [mz_up_ne (hne 64 rfl), mz_up_ne (hne 68 rfl)]) rfl rfl
    · refine mz_doPQ (R := mz_r132) (as := [.ref 65, .int xa]) (rest := []) (r1 := some (.int 0)) (m1 := mz_up w 64 1 ((w 64 1) + 1)) mz_t132 mz_v132_65 rfl rfl rfl rfl rfl ⟨?_, rfl⟩ ?_
      · refine mz_go 6 (c' := (8, [some (.ref 65), some (.int xa)], [.int (w 66 0), .int 0, .int xa], mz_up w 64 1 ((w 64 1) + 1))) rfl ?_
        rw [h660]
        refine mz_go 2 (c' := (10, [some (.ref 65), some (.int xa)], [.int ((nI N) - 1), .int 0, .int xa], mz_up w 64 1 ((w 64 1) + 1))) rfl ?_
        refine mz_doQ (R := mz_r128) (as := [.int xa, .int 0, .int ((nI N) - 1)]) (rest := []) (r1 := some (.int 0)) (m1 := mz_up w 64 1 ((w 64 1) + 1)) mz_t128 mz_v128 rfl rfl rfl rfl rfl ((ct_inL (m := mz_up w 64 1 ((w 64 1) + 1)) (v := xa) (a := 0) (b := (nI N) - 1) q1).deep (by decide)) ?_
        exact mz_ret rfl
      refine mz_goP 3 (c' := (19, [some (.ref 65), some (.int xa), some (.int xb)], [.int 1, .ref 65], mz_up w 64 1 ((w 64 1) + 1))) rfl ?_
      refine mz_doPQ (R := mz_r127) (as := [.ref 65, .int 1]) (rest := []) (r1 := some (.int (-1000001))) (m1 := mz_up (mz_up w 64 1 ((w 64 1) + 1)) 68 1 ((w 68 1) + 1)) mz_t127 mz_v127_65 rfl rfl rfl rfl rfl ((ct_err1 (m := mz_up w 64 1 ((w 64 1) + 1))).deep (by decide)) ?_
      refine mz_retP (r := (some (.int ((-1000001))), mz_up (mz_up w 64 1 ((w 64 1) + 1)) 68 1 ((w 68 1) + 1))) rfl ⟨(-1000001), rfl, ?_, rfl⟩
      show sm_I (n + 1) (mz_up (mz_up w 64 1 ((w 64 1) + 1)) 68 1 ((w 68 1) + 1))
      exact sm_I_scr hn hI2 (fun i hi => by
        have hne : ∀ r, sm_scr r = true → i ≠ r := fun r hr e => by
          rw [e, hr] at hi
          cases hi
        simp only [mz_up_ne (hne 64 rfl), mz_up_ne (hne 68 rfl)]) rfl rfl
  · obtain ⟨jxa, hjxa, rfl⟩ := nI_of q1
    by_cases q3 : N ≤ jxa
    · refine mz_goP 6 (c' := (10, [some (.ref 0), some (.int (nI jxa)), some (.int xb), some (.ref 2), none], [.int (nI jxa), .ref 2], w)) rfl ?_
      refine mz_doPQ (R := mz_r21) (as := [.ref 2, .int (nI jxa)]) (rest := []) (r1 := some (.int 0)) (m1 := w) mz_t21 mz_v21_2 rfl rfl rfl rfl rfl ⟨?_, rfl⟩ ?_
      · refine mz_go 2 (c' := (if (nI jxa) < 0 then 22 else 4, [some (.ref 2), some (.int (nI jxa))], [], w)) rfl ?_
        refine mz_ifF q1 ?_
        refine mz_go 3 (c' := (9, [some (.ref 2), some (.int (nI jxa))], [.int (w 2 4), .int (nI jxa)], w)) rfl ?_
        rw [h4]
        refine mz_go 1 (c' := (if (nI N) ≤ (nI jxa) then 22 else 12, [some (.ref 2), some (.int (nI jxa))], [], w)) rfl ?_
        refine mz_ifT (show ((nI N) ≤ (nI jxa)) from (sm_leN rfl rfl (show N ≤ jxa by omega) (show jxa < 2 ^ 31 by omega))) ?_
        refine mz_go 1 (c' := (23, [some (.ref 2), some (.int (nI jxa))], [.int 0], w)) rfl ?_
        exact mz_ret rfl
      refine mz_goP 3 (c' := (27, [some (.ref 0), some (.int (nI jxa)), some (.int xb), some (.ref 2), none], [.int 1, .ref 0], w)) rfl ?_
      refine mz_doPQ (R := mz_r109) (as := [.ref 0, .int 1]) (rest := []) (r1 := some (.int (-1000001))) (m1 := mz_up w 64 1 ((w 64 1) + 1)) mz_t109 mz_v109_0 rfl rfl rfl rfl rfl ((cs_err1 (m := w)).deep (by decide)) ?_
      refine mz_retP (r := (some (.int ((-1000001))), mz_up w 64 1 ((w 64 1) + 1))) rfl ⟨(-1000001), rfl, ?_⟩
      refine mz_goP 2 (c' := (2, [some (.ref 65), some (.int (nI jxa)), some (.int xb)], [.int (nI jxa), .ref 65], mz_up w 64 1 ((w 64 1) + 1))) rfl ?_
      by_cases q4 : N = 0
      · refine mz_doPQ (R := mz_r132) (as := [.ref 65, .int (nI jxa)]) (rest := []) (r1 := some (.int 0)) (m1 := mz_up w 64 1 ((w 64 1) + 1)) mz_t132 mz_v132_65 rfl rfl rfl rfl rfl ⟨?_, rfl⟩ ?_
        · refine mz_go 6 (c' := (8, [some (.ref 65), some (.int (nI jxa))], [.int (w 66 0), .int 0, .int (nI jxa)], mz_up w 64 1 ((w 64 1) + 1))) rfl ?_
          rw [h660]
          refine mz_go 2 (c' := (10, [some (.ref 65), some (.int (nI jxa))], [.int ((nI N) - 1), .int 0, .int (nI jxa)], mz_up w 64 1 ((w 64 1) + 1))) rfl ?_
          rw [show nI N - 1 = -1 from by rw [show N = 0 by omega]; decide]
          refine mz_doQ (R := mz_r128) (as := [.int (nI jxa), .int 0, .int (-1)]) (rest := []) (r1 := some (.int 0)) (m1 := mz_up w 64 1 ((w 64 1) + 1)) mz_t128 mz_v128 rfl rfl rfl rfl rfl ((ct_inG (m := mz_up w 64 1 ((w 64 1) + 1)) (v := nI jxa) (a := 0) (b := (-1)) q1 (show ((-1) < (nI jxa)) from (sm_m1lt rfl (show jxa < 2 ^ 31 by omega)))).deep (by decide)) ?_
          exact mz_ret rfl
        refine mz_goP 3 (c' := (19, [some (.ref 65), some (.int (nI jxa)), some (.int xb)], [.int 1, .ref 65], mz_up w 64 1 ((w 64 1) + 1))) rfl ?_
        refine mz_doPQ (R := mz_r127) (as := [.ref 65, .int 1]) (rest := []) (r1 := some (.int (-1000001))) (m1 := mz_up (mz_up w 64 1 ((w 64 1) + 1)) 68 1 ((w 68 1) + 1)) mz_t127 mz_v127_65 rfl rfl rfl rfl rfl ((ct_err1 (m := mz_up w 64 1 ((w 64 1) + 1))).deep (by decide)) ?_
        refine mz_retP (r := (some (.int ((-1000001))), mz_up (mz_up w 64 1 ((w 64 1) + 1)) 68 1 ((w 68 1) + 1))) rfl ⟨(-1000001), rfl, ?_, rfl⟩
        show sm_I (n + 1) (mz_up (mz_up w 64 1 ((w 64 1) + 1)) 68 1 ((w 68 1) + 1))
        exact sm_I_scr hn hI2 (fun i hi => by
          have hne : ∀ r, sm_scr r = true → i ≠ r := fun r hr e => by
            rw [e, hr] at hi
            cases hi
          simp only [mz_up_ne (hne 64 rfl), mz_up_ne (hne 68 rfl)]) rfl rfl
      · refine mz_doPQ (R := mz_r132) (as := [.ref 65, .int (nI jxa)]) (rest := []) (r1 := some (.int 0)) (m1 := mz_up w 64 1 ((w 64 1) + 1)) mz_t132 mz_v132_65 rfl rfl rfl rfl rfl ⟨?_, rfl⟩ ?_
        · refine mz_go 6 (c' := (8, [some (.ref 65), some (.int (nI jxa))], [.int (w 66 0), .int 0, .int (nI jxa)], mz_up w 64 1 ((w 64 1) + 1))) rfl ?_
          rw [h660]
          refine mz_go 2 (c' := (10, [some (.ref 65), some (.int (nI jxa))], [.int ((nI N) - 1), .int 0, .int (nI jxa)], mz_up w 64 1 ((w 64 1) + 1))) rfl ?_
          refine mz_doQ (R := mz_r128) (as := [.int (nI jxa), .int 0, .int ((nI N) - 1)]) (rest := []) (r1 := some (.int 0)) (m1 := mz_up w 64 1 ((w 64 1) + 1)) mz_t128 mz_v128 rfl rfl rfl rfl rfl ((ct_inG (m := mz_up w 64 1 ((w 64 1) + 1)) (v := nI jxa) (a := 0) (b := (nI N) - 1) q1 (show (((nI N) - 1) < (nI jxa)) from (sm_ltN (sm_subN (a := N) (b := 1) rfl rfl (by omega)) rfl (show (N - 1) < jxa by omega) (show jxa < 2 ^ 31 by omega)))).deep (by decide)) ?_
          exact mz_ret rfl
        refine mz_goP 3 (c' := (19, [some (.ref 65), some (.int (nI jxa)), some (.int xb)], [.int 1, .ref 65], mz_up w 64 1 ((w 64 1) + 1))) rfl ?_
        refine mz_doPQ (R := mz_r127) (as := [.ref 65, .int 1]) (rest := []) (r1 := some (.int (-1000001))) (m1 := mz_up (mz_up w 64 1 ((w 64 1) + 1)) 68 1 ((w 68 1) + 1)) mz_t127 mz_v127_65 rfl rfl rfl rfl rfl ((ct_err1 (m := mz_up w 64 1 ((w 64 1) + 1))).deep (by decide)) ?_
        refine mz_retP (r := (some (.int ((-1000001))), mz_up (mz_up w 64 1 ((w 64 1) + 1)) 68 1 ((w 68 1) + 1))) rfl ⟨(-1000001), rfl, ?_, rfl⟩
        show sm_I (n + 1) (mz_up (mz_up w 64 1 ((w 64 1) + 1)) 68 1 ((w 68 1) + 1))
        exact sm_I_scr hn hI2 (fun i hi => by
          have hne : ∀ r, sm_scr r = true → i ≠ r := fun r hr e => by
            rw [e, hr] at hi
            cases hi
          simp only [mz_up_ne (hne 64 rfl), mz_up_ne (hne 68 rfl)]) rfl rfl
    · by_cases q5 : (sm_bI (sm_in xb 0 5)) = 0
      · refine mz_goP 6 (c' := (10, [some (.ref 0), some (.int (nI jxa)), some (.int xb), some (.ref 2), none], [.int (nI jxa), .ref 2], w)) rfl ?_
        refine mz_doPQ (R := mz_r21) (as := [.ref 2, .int (nI jxa)]) (rest := []) (r1 := some (.int 1)) (m1 := w) mz_t21 mz_v21_2 rfl rfl rfl rfl rfl ((cs_has hN (m := w) h4 (show jxa < N by omega)).deep (by decide)) ?_
        refine mz_goP 4 (c' := (19, [some (.ref 0), some (.int (nI jxa)), some (.int xb), some (.ref 2), none], [.int 5, .int 0, .int xb], w)) rfl ?_
        refine mz_doPQ (R := mz_r121) (as := [.int xb, .int 0, .int 5]) (rest := []) (r1 := some (.int (sm_bI (sm_in xb 0 5)))) (m1 := w) mz_t121 mz_v121 rfl rfl rfl rfl rfl ((cs_in (m := w) xb 0 5).deep (by decide)) ?_
        refine mz_goP 1 (c' := (if (sm_bI (sm_in xb 0 5)) = 0 then 25 else 31, [some (.ref 0), some (.int (nI jxa)), some (.int xb), some (.ref 2), none], [], w)) rfl ?_
        refine mz_ifTP q5 ?_
        refine mz_goP 2 (c' := (27, [some (.ref 0), some (.int (nI jxa)), some (.int xb), some (.ref 2), none], [.int 1, .ref 0], w)) rfl ?_
        refine mz_doPQ (R := mz_r109) (as := [.ref 0, .int 1]) (rest := []) (r1 := some (.int (-1000001))) (m1 := mz_up w 64 1 ((w 64 1) + 1)) mz_t109 mz_v109_0 rfl rfl rfl rfl rfl ((cs_err1 (m := w)).deep (by decide)) ?_
        refine mz_retP (r := (some (.int ((-1000001))), mz_up w 64 1 ((w 64 1) + 1))) rfl ⟨(-1000001), rfl, ?_⟩
        refine mz_goP 2 (c' := (2, [some (.ref 65), some (.int (nI jxa)), some (.int xb)], [.int (nI jxa), .ref 65], mz_up w 64 1 ((w 64 1) + 1))) rfl ?_
        refine mz_doPQ (R := mz_r132) (as := [.ref 65, .int (nI jxa)]) (rest := []) (r1 := some (.int 1)) (m1 := mz_up w 64 1 ((w 64 1) + 1)) mz_t132 mz_v132_65 rfl rfl rfl rfl rfl ⟨?_, rfl⟩ ?_
        · refine mz_go 6 (c' := (8, [some (.ref 65), some (.int (nI jxa))], [.int (w 66 0), .int 0, .int (nI jxa)], mz_up w 64 1 ((w 64 1) + 1))) rfl ?_
          rw [h660]
          refine mz_go 2 (c' := (10, [some (.ref 65), some (.int (nI jxa))], [.int ((nI N) - 1), .int 0, .int (nI jxa)], mz_up w 64 1 ((w 64 1) + 1))) rfl ?_
          refine mz_doQ (R := mz_r128) (as := [.int (nI jxa), .int 0, .int ((nI N) - 1)]) (rest := []) (r1 := some (.int 1)) (m1 := mz_up w 64 1 ((w 64 1) + 1)) mz_t128 mz_v128 rfl rfl rfl rfl rfl ((ct_in1 (m := mz_up w 64 1 ((w 64 1) + 1)) (v := nI jxa) (a := 0) (b := (nI N) - 1) q1 (show ¬ (((nI N) - 1) < (nI jxa)) from (sm_nltN (sm_subN (a := N) (b := 1) rfl rfl (by omega)) rfl (show jxa ≤ (N - 1) by omega) (show (N - 1) < 2 ^ 31 by omega)))).deep (by decide)) ?_
          exact mz_ret rfl
        refine mz_goP 4 (c' := (11, [some (.ref 65), some (.int (nI jxa)), some (.int xb)], [.int 5, .int 0, .int xb], mz_up w 64 1 ((w 64 1) + 1))) rfl ?_
        refine mz_doPQ (R := mz_r128) (as := [.int xb, .int 0, .int 5]) (rest := []) (r1 := some (.int (sm_bI (sm_in xb 0 5)))) (m1 := mz_up w 64 1 ((w 64 1) + 1)) mz_t128 mz_v128 rfl rfl rfl rfl rfl ((ct_in (m := mz_up w 64 1 ((w 64 1) + 1)) xb 0 5).deep (by decide)) ?_
        refine mz_goP 1 (c' := (if (sm_bI (sm_in xb 0 5)) = 0 then 17 else 23, [some (.ref 65), some (.int (nI jxa)), some (.int xb)], [], mz_up w 64 1 ((w 64 1) + 1))) rfl ?_
        refine mz_ifTP q5 ?_
        refine mz_goP 2 (c' := (19, [some (.ref 65), some (.int (nI jxa)), some (.int xb)], [.int 1, .ref 65], mz_up w 64 1 ((w 64 1) + 1))) rfl ?_
        refine mz_doPQ (R := mz_r127) (as := [.ref 65, .int 1]) (rest := []) (r1 := some (.int (-1000001))) (m1 := mz_up (mz_up w 64 1 ((w 64 1) + 1)) 68 1 ((w 68 1) + 1)) mz_t127 mz_v127_65 rfl rfl rfl rfl rfl ((ct_err1 (m := mz_up w 64 1 ((w 64 1) + 1))).deep (by decide)) ?_
        refine mz_retP (r := (some (.int ((-1000001))), mz_up (mz_up w 64 1 ((w 64 1) + 1)) 68 1 ((w 68 1) + 1))) rfl ⟨(-1000001), rfl, ?_, rfl⟩
        show sm_I (n + 1) (mz_up (mz_up w 64 1 ((w 64 1) + 1)) 68 1 ((w 68 1) + 1))
        exact sm_I_scr hn hI2 (fun i hi => by
          have hne : ∀ r, sm_scr r = true → i ≠ r := fun r hr e => by
            rw [e, hr] at hi
            cases hi
          simp only [mz_up_ne (hne 64 rfl), mz_up_ne (hne 68 rfl)]) rfl rfl
      · by_cases q6 : 4 < xb
        · refine mz_goP 6 (c' := (10, [some (.ref 0), some (.int (nI jxa)), some (.int xb), some (.ref 2), none], [.int (nI jxa), .ref 2], w)) rfl ?_
          refine mz_doPQ (R := mz_r21) (as := [.ref 2, .int (nI jxa)]) (rest := []) (r1 := some (.int 1)) (m1 := w) mz_t21 mz_v21_2 rfl rfl rfl rfl rfl ((cs_has hN (m := w) h4 (show jxa < N by omega)).deep (by decide)) ?_
          refine mz_goP 4 (c' := (19, [some (.ref 0), some (.int (nI jxa)), some (.int xb), some (.ref 2), none], [.int 5, .int 0, .int xb], w)) rfl ?_
          refine mz_doPQ (R := mz_r121) (as := [.int xb, .int 0, .int 5]) (rest := []) (r1 := some (.int 1)) (m1 := w) mz_t121 mz_v121 rfl rfl rfl rfl rfl ((cs_in1 (m := w) (v := xb) (a := 0) (b := 5) (show ¬ (xb < 0) from (sm_in_lo q5)) (show ¬ (5 < xb) from (sm_in_hi q5))).deep (by decide)) ?_
          refine mz_goP 11 (c' := (53, [some (.ref 0), some (.int (nI jxa)), some (.int xb), some (.ref 2), none], [.int (w 19 1), .int (w 19 0), .int (nI jxa), .ref 2], w)) rfl ?_
          refine mz_doPQ (R := mz_r24) (as := [.ref 2, .int (nI jxa), .int (w 19 0), .int (w 19 1)]) (rest := []) (r1 := some (.int (sm_far (w 4 jxa) (w 5 jxa) (w 19 0) (w 19 1)))) (m1 := w) mz_t24 mz_v24_2 rfl rfl rfl rfl rfl ((cs_far hN (m := w) h4 (show jxa < N by omega) (w 19 0) (w 19 1)).deep (by decide)) ?_
          refine mz_goP 2 (c' := (59, [some (.ref 0), some (.int (nI jxa)), some (.int xb), some (.ref 2), some (.int (sm_far (w 4 jxa) (w 5 jxa) (w 19 0) (w 19 1)))], [.int xb], w)) rfl ?_
          refine mz_swdP (c' := (123, [some (.ref 0), some (.int (nI jxa)), some (.int xb), some (.ref 2), some (.int (sm_far (w 4 jxa) (w 5 jxa) (w 19 0) (w 19 1)))], [], w)) rfl (Or.inr (Int32.lt_iff_toInt_lt.mp q6)) ?_
          refine mz_goP 8 (c' := (140, [some (.ref 0), some (.int (nI jxa)), some (.int xb), some (.ref 2), some (.int (sm_far (w 4 jxa) (w 5 jxa) (w 19 0) (w 19 1)))], [.int (w 19 4), .int (sm_far (w 4 jxa) (w 5 jxa) (w 19 0) (w 19 1)), .int (nI jxa), .ref 49], w)) rfl ?_
          obtain ⟨fe1, ge1, Ee1⟩ := cw_full (m := w) (w := w) (sm_Wl_r w) hw.2.2.2.1 (w 6 jxa) (sm_far (w 4 jxa) (w 5 jxa) (w 19 0) (w 19 1)) (w 19 4) (sm_by (sm_far_N (hpb jxa (by omega)).2.1 (hpb jxa (by omega)).2.2.1 hbx hby)).2
          refine mz_doPQ (R := mz_r40) (as := [.ref 49, .int (nI jxa), .int (sm_far (w 4 jxa) (w 5 jxa) (w 19 0) (w 19 1)), .int (w 19 4)]) (rest := []) (r1 := some (.int (sm_pull w jxa (w 19 0) (w 19 1) (w 19 4)))) (m1 := mz_set (mz_set w 51 fe1) 52 ge1) mz_t40 mz_v40_49 rfl rfl rfl rfl rfl ⟨?_, rfl⟩ ?_
          · refine mz_go 4 (c' := (8, [some (.ref 49), some (.int (nI jxa)), some (.int (sm_far (w 4 jxa) (w 5 jxa) (w 19 0) (w 19 1))), some (.int (w 19 4)), none], [.int (nI jxa), .ref 2], w)) rfl ?_
            refine mz_doQ (R := mz_r21) (as := [.ref 2, .int (nI jxa)]) (rest := []) (r1 := some (.int 1)) (m1 := w) mz_t21 mz_v21_2 rfl rfl rfl rfl rfl ((cs_has hN (m := w) h4 (show jxa < N by omega)).deep (by decide)) ?_
            refine mz_go 7 (c' := (28, [some (.ref 49), some (.int (nI jxa)), some (.int (sm_far (w 4 jxa) (w 5 jxa) (w 19 0) (w 19 1))), some (.int (w 19 4)), none], [.int (nI jxa), .ref 6, .ref 49], w)) rfl ?_
            refine mz_arr (c' := (29, [some (.ref 49), some (.int (nI jxa)), some (.int (sm_far (w 4 jxa) (w 5 jxa) (w 19 0) (w 19 1))), some (.int (w 19 4)), none], [.int (w 6 ((nI jxa).toNatClampNeg)), .ref 49], w)) rfl (show mz_in (nI jxa) 6 = true from sm_inN rfl (show jxa < 6 by omega) (by decide)) ?_
            rw [show (nI jxa : Int32).toNatClampNeg = jxa from sm_clN rfl (show jxa < 2 ^ 31 by omega)]
            refine mz_go 2 (c' := (31, [some (.ref 49), some (.int (nI jxa)), some (.int (sm_far (w 4 jxa) (w 5 jxa) (w 19 0) (w 19 1))), some (.int (w 19 4)), none], [.int (w 19 4), .int (sm_far (w 4 jxa) (w 5 jxa) (w 19 0) (w 19 1)), .int (w 6 jxa), .ref 49], w)) rfl ?_
            refine mz_doQ (R := mz_r42) (as := [.ref 49, .int (w 6 jxa), .int (sm_far (w 4 jxa) (w 5 jxa) (w 19 0) (w 19 1)), .int (w 19 4)]) (rest := []) (r1 := some (.int (sm_full w (w 6 jxa) (sm_far (w 4 jxa) (w 5 jxa) (w 19 0) (w 19 1)) (w 19 4)))) (m1 := mz_set (mz_set w 51 fe1) 52 ge1) mz_t42 mz_v42_49 rfl rfl rfl rfl rfl (Ee1.deep (by decide)) ?_
            refine mz_go 6 (c' := (47, [some (.ref 49), some (.int (nI jxa)), some (.int (sm_far (w 4 jxa) (w 5 jxa) (w 19 0) (w 19 1))), some (.int (w 19 4)), some (.int (sm_full w (w 6 jxa) (sm_far (w 4 jxa) (w 5 jxa) (w 19 0) (w 19 1)) (w 19 4)))], [.int (nI jxa), .ref 3], mz_set (mz_set w 51 fe1) 52 ge1)) rfl ?_
            refine mz_arr (c' := (48, [some (.ref 49), some (.int (nI jxa)), some (.int (sm_far (w 4 jxa) (w 5 jxa) (w 19 0) (w 19 1))), some (.int (w 19 4)), some (.int (sm_full w (w 6 jxa) (sm_far (w 4 jxa) (w 5 jxa) (w 19 0) (w 19 1)) (w 19 4)))], [.int (w 3 ((nI jxa).toNatClampNeg))], mz_set (mz_set w 51 fe1) 52 ge1)) rfl (show mz_in (nI jxa) 6 = true from sm_inN rfl (show jxa < 6 by omega) (by decide)) ?_
            rw [show (nI jxa : Int32).toNatClampNeg = jxa from sm_clN rfl (show jxa < 2 ^ 31 by omega)]
            refine mz_go 3 (c' := (52, [some (.ref 49), some (.int (nI jxa)), some (.int (sm_far (w 4 jxa) (w 5 jxa) (w 19 0) (w 19 1))), some (.int (w 19 4)), some (.int (sm_full w (w 6 jxa) (sm_far (w 4 jxa) (w 5 jxa) (w 19 0) (w 19 1)) (w 19 4)))], [.int (w 19 4), .int (sm_far (w 4 jxa) (w 5 jxa) (w 19 0) (w 19 1)), .int (sm_full w (w 6 jxa) (sm_far (w 4 jxa) (w 5 jxa) (w 19 0) (w 19 1)) (w 19 4)), .int (w 3 jxa)], mz_set (mz_set w 51 fe1) 52 ge1)) rfl ?_
            refine mz_doQ (R := mz_r41) (as := [.int (w 3 jxa), .int (sm_full w (w 6 jxa) (sm_far (w 4 jxa) (w 5 jxa) (w 19 0) (w 19 1)) (w 19 4)), .int (sm_far (w 4 jxa) (w 5 jxa) (w 19 0) (w 19 1)), .int (w 19 4)]) (rest := []) (r1 := some (.int (sm_kind (w 3 jxa) (sm_full w (w 6 jxa) (sm_far (w 4 jxa) (w 5 jxa) (w 19 0) (w 19 1)) (w 19 4)) (sm_far (w 4 jxa) (w 5 jxa) (w 19 0) (w 19 1)) (w 19 4)))) (m1 := mz_set (mz_set w 51 fe1) 52 ge1) mz_t41 mz_v41 rfl rfl rfl rfl rfl ((cs_kindN (m := mz_set (mz_set w 51 fe1) 52 ge1) (hpb jxa (by omega)).1 (sm_full_B (m := w) (hpb jxa (by omega)).2.2.2 (sm_far_N (hpb jxa (by omega)).2.1 (hpb jxa (by omega)).2.2.1 hbx hby)) (sm_far (w 4 jxa) (w 5 jxa) (w 19 0) (w 19 1)) (w 19 4)).deep (by decide)) ?_
            rw [show sm_kind (w 3 jxa) (sm_full w (w 6 jxa) (sm_far (w 4 jxa) (w 5 jxa) (w 19 0) (w 19 1)) (w 19 4)) (sm_far (w 4 jxa) (w 5 jxa) (w 19 0) (w 19 1)) (w 19 4) = sm_pull w jxa (w 19 0) (w 19 1) (w 19 4) from rfl]
            exact mz_ret rfl
          refine mz_retP (r := (some (.int (sm_pull w jxa (w 19 0) (w 19 1) (w 19 4))), mz_set (mz_set w 51 fe1) 52 ge1)) rfl ⟨sm_pull w jxa (w 19 0) (w 19 1) (w 19 4), rfl, ?_⟩
          refine mz_goP 2 (c' := (2, [some (.ref 65), some (.int (nI jxa)), some (.int xb)], [.int (nI jxa), .ref 65], mz_set (mz_set w 51 fe1) 52 ge1)) rfl ?_
          refine mz_doPQ (R := mz_r132) (as := [.ref 65, .int (nI jxa)]) (rest := []) (r1 := some (.int 1)) (m1 := mz_set (mz_set w 51 fe1) 52 ge1) mz_t132 mz_v132_65 rfl rfl rfl rfl rfl ⟨?_, rfl⟩ ?_
          · refine mz_go 6 (c' := (8, [some (.ref 65), some (.int (nI jxa))], [.int (w 66 0), .int 0, .int (nI jxa)], mz_set (mz_set w 51 fe1) 52 ge1)) rfl ?_
            rw [h660]
            refine mz_go 2 (c' := (10, [some (.ref 65), some (.int (nI jxa))], [.int ((nI N) - 1), .int 0, .int (nI jxa)], mz_set (mz_set w 51 fe1) 52 ge1)) rfl ?_
            refine mz_doQ (R := mz_r128) (as := [.int (nI jxa), .int 0, .int ((nI N) - 1)]) (rest := []) (r1 := some (.int 1)) (m1 := mz_set (mz_set w 51 fe1) 52 ge1) mz_t128 mz_v128 rfl rfl rfl rfl rfl ((ct_in1 (m := mz_set (mz_set w 51 fe1) 52 ge1) (v := nI jxa) (a := 0) (b := (nI N) - 1) q1 (show ¬ (((nI N) - 1) < (nI jxa)) from (sm_nltN (sm_subN (a := N) (b := 1) rfl rfl (by omega)) rfl (show jxa ≤ (N - 1) by omega) (show (N - 1) < 2 ^ 31 by omega)))).deep (by decide)) ?_
            exact mz_ret rfl
          refine mz_goP 4 (c' := (11, [some (.ref 65), some (.int (nI jxa)), some (.int xb)], [.int 5, .int 0, .int xb], mz_set (mz_set w 51 fe1) 52 ge1)) rfl ?_
          refine mz_doPQ (R := mz_r128) (as := [.int xb, .int 0, .int 5]) (rest := []) (r1 := some (.int 1)) (m1 := mz_set (mz_set w 51 fe1) 52 ge1) mz_t128 mz_v128 rfl rfl rfl rfl rfl ((ct_in1 (m := mz_set (mz_set w 51 fe1) 52 ge1) (v := xb) (a := 0) (b := 5) (show ¬ (xb < 0) from (sm_in_lo q5)) (show ¬ (5 < xb) from (sm_in_hi q5))).deep (by decide)) ?_
          refine mz_goP 4 (c' := (if 4 ≤ xb then 35 else 28, [some (.ref 65), some (.int (nI jxa)), some (.int xb)], [], mz_set (mz_set w 51 fe1) 52 ge1)) rfl ?_
          refine mz_ifTP (by have hl : (4 : Int) < (xb).toInt := Int32.lt_iff_toInt_lt.mp q6; have hu : (xb).toInt ≤ (5 : Int) := Int32.le_iff_toInt_le.mp (Int32.not_lt.mp (sm_in_hi q5)); exact Int32.le_iff_toInt_le.mpr (show (4 : Int) ≤ (xb).toInt by omega)) ?_
          refine mz_goP 1 (c' := (36, [some (.ref 65), some (.int (nI jxa)), some (.int xb)], [.ref 65], mz_set (mz_set w 51 fe1) 52 ge1)) rfl ?_
          refine mz_doPQ (R := mz_r145) (as := [.ref 65]) (rest := []) (r1 := none) (m1 := mz_up (mz_up (mz_up (mz_up (mz_up (mz_set (mz_set w 51 fe1) 52 ge1) 65 4 (w 19 0)) 65 5 (w 19 1)) 65 6 (w 19 2)) 65 7 (w 19 3)) 65 8 (w 19 4)) mz_t145 mz_v145_65 rfl rfl rfl rfl rfl ⟨?_, rfl⟩ ?_
          · refine mz_go 5 (c' := (8, [some (.ref 65)], [.int (w 66 20), .ref 65], mz_set (mz_set w 51 fe1) 52 ge1)) rfl ?_
            rw [show w 66 20 = w 19 0 from hbl.1]
            refine mz_go 6 (c' := (19, [some (.ref 65)], [.int (w 66 21), .ref 65], mz_up (mz_set (mz_set w 51 fe1) 52 ge1) 65 4 (w 19 0))) rfl ?_
            rw [show w 66 21 = w 19 1 from hbl.2.1]
            refine mz_go 6 (c' := (30, [some (.ref 65)], [.int (w 66 22), .ref 65], mz_up (mz_up (mz_set (mz_set w 51 fe1) 52 ge1) 65 4 (w 19 0)) 65 5 (w 19 1))) rfl ?_
            rw [show w 66 22 = w 19 2 from hbl.2.2.1]
            refine mz_go 6 (c' := (41, [some (.ref 65)], [.int (w 66 23), .ref 65], mz_up (mz_up (mz_up (mz_set (mz_set w 51 fe1) 52 ge1) 65 4 (w 19 0)) 65 5 (w 19 1)) 65 6 (w 19 2))) rfl ?_
            rw [show w 66 23 = w 19 3 from hbl.2.2.2.1]
            refine mz_go 6 (c' := (52, [some (.ref 65)], [.int (w 66 24), .ref 65], mz_up (mz_up (mz_up (mz_up (mz_set (mz_set w 51 fe1) 52 ge1) 65 4 (w 19 0)) 65 5 (w 19 1)) 65 6 (w 19 2)) 65 7 (w 19 3))) rfl ?_
            rw [show w 66 24 = w 19 4 from hbl.2.2.2.2]
            refine mz_go 1 (c' := (55, [some (.ref 65)], [], mz_up (mz_up (mz_up (mz_up (mz_up (mz_set (mz_set w 51 fe1) 52 ge1) 65 4 (w 19 0)) 65 5 (w 19 1)) 65 6 (w 19 2)) 65 7 (w 19 3)) 65 8 (w 19 4))) rfl ?_
            exact mz_ret rfl
          refine mz_goP 3 (c' := (if xb = 4 then 44 else 52, [some (.ref 65), some (.int (nI jxa)), some (.int xb)], [], mz_up (mz_up (mz_up (mz_up (mz_up (mz_set (mz_set w 51 fe1) 52 ge1) 65 4 (w 19 0)) 65 5 (w 19 1)) 65 6 (w 19 2)) 65 7 (w 19 3)) 65 8 (w 19 4))) rfl ?_
          refine mz_ifFP (by have hl : (4 : Int) < (xb).toInt := Int32.lt_iff_toInt_lt.mp q6; have hu : (xb).toInt ≤ (5 : Int) := Int32.le_iff_toInt_le.mp (Int32.not_lt.mp (sm_in_hi q5)); intro he; rw [he] at hl; exact absurd hl (by decide)) ?_
          refine mz_goP 2 (c' := (54, [some (.ref 65), some (.int (nI jxa)), some (.int xb)], [.int (nI jxa), .ref 65], mz_up (mz_up (mz_up (mz_up (mz_up (mz_set (mz_set w 51 fe1) 52 ge1) 65 4 (w 19 0)) 65 5 (w 19 1)) 65 6 (w 19 2)) 65 7 (w 19 3)) 65 8 (w 19 4))) rfl ?_
          obtain ⟨fe2, ge2, Ee2⟩ := ct_pull (w := w) (m := mz_up (mz_up (mz_up (mz_up (mz_up (mz_set (mz_set w 51 fe1) 52 ge1) 65 4 (w 19 0)) 65 5 (w 19 1)) 65 6 (w 19 2)) 65 7 (w 19 3)) 65 8 (w 19 4)) hw hr2 (show jxa < N by omega) (x := w 19 0) (y := w 19 1) (t := w 19 4) rfl rfl rfl hbx hby
          refine mz_doPQ (R := mz_r150) (as := [.ref 65, .int (nI jxa)]) (rest := []) (r1 := some (.int (sm_pull w jxa (w 19 0) (w 19 1) (w 19 4)))) (m1 := mz_set (mz_set (mz_up (mz_up (mz_up (mz_up (mz_up (mz_set (mz_set w 51 fe1) 52 ge1) 65 4 (w 19 0)) 65 5 (w 19 1)) 65 6 (w 19 2)) 65 7 (w 19 3)) 65 8 (w 19 4)) 70 fe2) 71 ge2) mz_t150 mz_v150_65 rfl rfl rfl rfl rfl (Ee2.deep (by decide)) ?_
          refine mz_retP (r := (some (.int (sm_pull w jxa (w 19 0) (w 19 1) (w 19 4))), mz_set (mz_set (mz_up (mz_up (mz_up (mz_up (mz_up (mz_set (mz_set w 51 fe1) 52 ge1) 65 4 (w 19 0)) 65 5 (w 19 1)) 65 6 (w 19 2)) 65 7 (w 19 3)) 65 8 (w 19 4)) 70 fe2) 71 ge2)) rfl ⟨sm_pull w jxa (w 19 0) (w 19 1) (w 19 4), rfl, ?_, rfl⟩
          show sm_I (n + 1) (mz_set (mz_set (mz_up (mz_up (mz_up (mz_up (mz_up (mz_set (mz_set w 51 fe1) 52 ge1) 65 4 (w 19 0)) 65 5 (w 19 1)) 65 6 (w 19 2)) 65 7 (w 19 3)) 65 8 (w 19 4)) 70 fe2) 71 ge2)
          exact sm_I_scr hn hI2 (fun i hi => by
            have hne : ∀ r, sm_scr r = true → i ≠ r := fun r hr e => by
              rw [e, hr] at hi
              cases hi
            simp only [mz_set_ne (hne 51 rfl), mz_set_ne (hne 52 rfl), mz_set_ne (hne 70 rfl), mz_set_ne (hne 71 rfl), mz_up_ne (hne 65 rfl)]) rfl rfl
        · have hl7 : (0 : Int) ≤ (xb).toInt := Int32.le_iff_toInt_le.mp (Int32.not_lt.mp (sm_in_lo q5))
          have hu7 : (xb).toInt ≤ (4 : Int) := Int32.le_iff_toInt_le.mp (Int32.not_lt.mp q6)
          obtain rfl | rfl | rfl | rfl | rfl : xb = 0 ∨ xb = 1 ∨ xb = 2 ∨ xb = 3 ∨ xb = 4 := by
            rcases (show xb.toInt = 0 ∨ xb.toInt = 1 ∨ xb.toInt = 2 ∨ xb.toInt = 3 ∨ xb.toInt = 4 by omega) with h | h | h | h | h
            · exact (Or.inl (Int32.toInt_inj.mp h))
            · exact (Or.inr (Or.inl (Int32.toInt_inj.mp h)))
            · exact (Or.inr (Or.inr (Or.inl (Int32.toInt_inj.mp h))))
            · exact (Or.inr (Or.inr (Or.inr (Or.inl (Int32.toInt_inj.mp h)))))
            · exact (Or.inr (Or.inr (Or.inr (Or.inr (Int32.toInt_inj.mp h)))))
          · refine mz_goP 6 (c' := (10, [some (.ref 0), some (.int (nI jxa)), some (.int 0), some (.ref 2), none], [.int (nI jxa), .ref 2], w)) rfl ?_
            refine mz_doPQ (R := mz_r21) (as := [.ref 2, .int (nI jxa)]) (rest := []) (r1 := some (.int 1)) (m1 := w) mz_t21 mz_v21_2 rfl rfl rfl rfl rfl ((cs_has hN (m := w) h4 (show jxa < N by omega)).deep (by decide)) ?_
            refine mz_goP 4 (c' := (19, [some (.ref 0), some (.int (nI jxa)), some (.int 0), some (.ref 2), none], [.int 5, .int 0, .int 0], w)) rfl ?_
            refine mz_doPQ (R := mz_r121) (as := [.int 0, .int 0, .int 5]) (rest := []) (r1 := some (.int 1)) (m1 := w) mz_t121 mz_v121 rfl rfl rfl rfl rfl ((cs_in1 (m := w) (v := 0) (a := 0) (b := 5) (by decide) (by decide)).deep (by decide)) ?_
            refine mz_goP 11 (c' := (53, [some (.ref 0), some (.int (nI jxa)), some (.int 0), some (.ref 2), none], [.int (w 19 1), .int (w 19 0), .int (nI jxa), .ref 2], w)) rfl ?_
            refine mz_doPQ (R := mz_r24) (as := [.ref 2, .int (nI jxa), .int (w 19 0), .int (w 19 1)]) (rest := []) (r1 := some (.int (sm_far (w 4 jxa) (w 5 jxa) (w 19 0) (w 19 1)))) (m1 := w) mz_t24 mz_v24_2 rfl rfl rfl rfl rfl ((cs_far hN (m := w) h4 (show jxa < N by omega) (w 19 0) (w 19 1)).deep (by decide)) ?_
            refine mz_goP 6 (c' := (97, [some (.ref 0), some (.int (nI jxa)), some (.int 0), some (.ref 2), some (.int (sm_far (w 4 jxa) (w 5 jxa) (w 19 0) (w 19 1)))], [.int (nI jxa), .ref 3], w)) rfl ?_
            refine mz_arrP (c' := (98, [some (.ref 0), some (.int (nI jxa)), some (.int 0), some (.ref 2), some (.int (sm_far (w 4 jxa) (w 5 jxa) (w 19 0) (w 19 1)))], [.int (w 3 ((nI jxa).toNatClampNeg))], w)) rfl (show mz_in (nI jxa) 6 = true from sm_inN rfl (show jxa < 6 by omega) (by decide)) ?_
            rw [show (nI jxa : Int32).toNatClampNeg = jxa from sm_clN rfl (show jxa < 2 ^ 31 by omega)]
            refine mz_retP (r := (some (.int (w 3 jxa)), w)) rfl ⟨w 3 jxa, rfl, ?_⟩
            refine mz_goP 2 (c' := (2, [some (.ref 65), some (.int (nI jxa)), some (.int 0)], [.int (nI jxa), .ref 65], w)) rfl ?_
            refine mz_doPQ (R := mz_r132) (as := [.ref 65, .int (nI jxa)]) (rest := []) (r1 := some (.int 1)) (m1 := w) mz_t132 mz_v132_65 rfl rfl rfl rfl rfl ⟨?_, rfl⟩ ?_
            · refine mz_go 6 (c' := (8, [some (.ref 65), some (.int (nI jxa))], [.int (w 66 0), .int 0, .int (nI jxa)], w)) rfl ?_
              rw [h660]
              refine mz_go 2 (c' := (10, [some (.ref 65), some (.int (nI jxa))], [.int ((nI N) - 1), .int 0, .int (nI jxa)], w)) rfl ?_
              refine mz_doQ (R := mz_r128) (as := [.int (nI jxa), .int 0, .int ((nI N) - 1)]) (rest := []) (r1 := some (.int 1)) (m1 := w) mz_t128 mz_v128 rfl rfl rfl rfl rfl ((ct_in1 (m := w) (v := nI jxa) (a := 0) (b := (nI N) - 1) q1 (show ¬ (((nI N) - 1) < (nI jxa)) from (sm_nltN (sm_subN (a := N) (b := 1) rfl rfl (by omega)) rfl (show jxa ≤ (N - 1) by omega) (show (N - 1) < 2 ^ 31 by omega)))).deep (by decide)) ?_
              exact mz_ret rfl
            refine mz_goP 4 (c' := (11, [some (.ref 65), some (.int (nI jxa)), some (.int 0)], [.int 5, .int 0, .int 0], w)) rfl ?_
            refine mz_doPQ (R := mz_r128) (as := [.int 0, .int 0, .int 5]) (rest := []) (r1 := some (.int 1)) (m1 := w) mz_t128 mz_v128 rfl rfl rfl rfl rfl ((ct_in1 (m := w) (v := 0) (a := 0) (b := 5) (by decide) (by decide)).deep (by decide)) ?_
            refine mz_goP 7 (c' := (31, [some (.ref 65), some (.int (nI jxa)), some (.int 0)], [.int 0, .int (nI jxa), .ref 65], w)) rfl ?_
            refine mz_doPQ (R := mz_r133) (as := [.ref 65, .int (nI jxa), .int 0]) (rest := []) (r1 := some (.int (w 3 jxa))) (m1 := w) mz_t133 mz_v133_65 rfl rfl rfl rfl rfl ⟨?_, rfl⟩ ?_
            · refine mz_go 9 (c' := (12, [some (.ref 65), some (.int (nI jxa)), some (.int 0)], [.int ((30 + (4 * (nI jxa))) + 0), .ref 66], w)) rfl ?_
              refine mz_arr (c' := (13, [some (.ref 65), some (.int (nI jxa)), some (.int 0)], [.int (w 66 (((30 + (4 * (nI jxa))) + 0).toNatClampNeg))], w)) rfl (show mz_in ((30 + (4 * (nI jxa))) + 0) 650 = true from sm_inN (sm_addN (sm_addN rfl (sm_mulN rfl rfl)) rfl) (show ((30 + (4 * jxa)) + 0) < 650 by omega) (by decide)) ?_
              rw [show ((30 + (4 * (nI jxa))) + 0 : Int32).toNatClampNeg = ((30 + (4 * jxa)) + 0) from sm_clN (sm_addN (sm_addN rfl (sm_mulN rfl rfl)) rfl) (show ((30 + (4 * jxa)) + 0) < 2 ^ 31 by omega)]
              rw [show w 66 ((30 + (4 * jxa)) + 0) = w 3 jxa from (hr2.2.1 jxa (by omega)).1]
              exact mz_ret rfl
            refine mz_retP (r := (some (.int (w 3 jxa)), w)) rfl ⟨w 3 jxa, rfl, ?_, rfl⟩
            show sm_I (n + 1) (w)
            exact sm_I_scr hn hI2 (fun _ _ => rfl) rfl rfl
          · refine mz_goP 6 (c' := (10, [some (.ref 0), some (.int (nI jxa)), some (.int 1), some (.ref 2), none], [.int (nI jxa), .ref 2], w)) rfl ?_
            refine mz_doPQ (R := mz_r21) (as := [.ref 2, .int (nI jxa)]) (rest := []) (r1 := some (.int 1)) (m1 := w) mz_t21 mz_v21_2 rfl rfl rfl rfl rfl ((cs_has hN (m := w) h4 (show jxa < N by omega)).deep (by decide)) ?_
            refine mz_goP 4 (c' := (19, [some (.ref 0), some (.int (nI jxa)), some (.int 1), some (.ref 2), none], [.int 5, .int 0, .int 1], w)) rfl ?_
            refine mz_doPQ (R := mz_r121) (as := [.int 1, .int 0, .int 5]) (rest := []) (r1 := some (.int 1)) (m1 := w) mz_t121 mz_v121 rfl rfl rfl rfl rfl ((cs_in1 (m := w) (v := 1) (a := 0) (b := 5) (by decide) (by decide)).deep (by decide)) ?_
            refine mz_goP 11 (c' := (53, [some (.ref 0), some (.int (nI jxa)), some (.int 1), some (.ref 2), none], [.int (w 19 1), .int (w 19 0), .int (nI jxa), .ref 2], w)) rfl ?_
            refine mz_doPQ (R := mz_r24) (as := [.ref 2, .int (nI jxa), .int (w 19 0), .int (w 19 1)]) (rest := []) (r1 := some (.int (sm_far (w 4 jxa) (w 5 jxa) (w 19 0) (w 19 1)))) (m1 := w) mz_t24 mz_v24_2 rfl rfl rfl rfl rfl ((cs_far hN (m := w) h4 (show jxa < N by omega) (w 19 0) (w 19 1)).deep (by decide)) ?_
            refine mz_goP 6 (c' := (104, [some (.ref 0), some (.int (nI jxa)), some (.int 1), some (.ref 2), some (.int (sm_far (w 4 jxa) (w 5 jxa) (w 19 0) (w 19 1)))], [.int (nI jxa), .ref 4], w)) rfl ?_
            refine mz_arrP (c' := (105, [some (.ref 0), some (.int (nI jxa)), some (.int 1), some (.ref 2), some (.int (sm_far (w 4 jxa) (w 5 jxa) (w 19 0) (w 19 1)))], [.int (w 4 ((nI jxa).toNatClampNeg))], w)) rfl (show mz_in (nI jxa) 6 = true from sm_inN rfl (show jxa < 6 by omega) (by decide)) ?_
            rw [show (nI jxa : Int32).toNatClampNeg = jxa from sm_clN rfl (show jxa < 2 ^ 31 by omega)]
            refine mz_retP (r := (some (.int (w 4 jxa)), w)) rfl ⟨w 4 jxa, rfl, ?_⟩
            refine mz_goP 2 (c' := (2, [some (.ref 65), some (.int (nI jxa)), some (.int 1)], [.int (nI jxa), .ref 65], w)) rfl ?_
            refine mz_doPQ (R := mz_r132) (as := [.ref 65, .int (nI jxa)]) (rest := []) (r1 := some (.int 1)) (m1 := w) mz_t132 mz_v132_65 rfl rfl rfl rfl rfl ⟨?_, rfl⟩ ?_
            · refine mz_go 6 (c' := (8, [some (.ref 65), some (.int (nI jxa))], [.int (w 66 0), .int 0, .int (nI jxa)], w)) rfl ?_
              rw [h660]
              refine mz_go 2 (c' := (10, [some (.ref 65), some (.int (nI jxa))], [.int ((nI N) - 1), .int 0, .int (nI jxa)], w)) rfl ?_
              refine mz_doQ (R := mz_r128) (as := [.int (nI jxa), .int 0, .int ((nI N) - 1)]) (rest := []) (r1 := some (.int 1)) (m1 := w) mz_t128 mz_v128 rfl rfl rfl rfl rfl ((ct_in1 (m := w) (v := nI jxa) (a := 0) (b := (nI N) - 1) q1 (show ¬ (((nI N) - 1) < (nI jxa)) from (sm_nltN (sm_subN (a := N) (b := 1) rfl rfl (by omega)) rfl (show jxa ≤ (N - 1) by omega) (show (N - 1) < 2 ^ 31 by omega)))).deep (by decide)) ?_
              exact mz_ret rfl
            refine mz_goP 4 (c' := (11, [some (.ref 65), some (.int (nI jxa)), some (.int 1)], [.int 5, .int 0, .int 1], w)) rfl ?_
            refine mz_doPQ (R := mz_r128) (as := [.int 1, .int 0, .int 5]) (rest := []) (r1 := some (.int 1)) (m1 := w) mz_t128 mz_v128 rfl rfl rfl rfl rfl ((ct_in1 (m := w) (v := 1) (a := 0) (b := 5) (by decide) (by decide)).deep (by decide)) ?_
            refine mz_goP 7 (c' := (31, [some (.ref 65), some (.int (nI jxa)), some (.int 1)], [.int 1, .int (nI jxa), .ref 65], w)) rfl ?_
            refine mz_doPQ (R := mz_r133) (as := [.ref 65, .int (nI jxa), .int 1]) (rest := []) (r1 := some (.int (w 4 jxa))) (m1 := w) mz_t133 mz_v133_65 rfl rfl rfl rfl rfl ⟨?_, rfl⟩ ?_
            · refine mz_go 9 (c' := (12, [some (.ref 65), some (.int (nI jxa)), some (.int 1)], [.int ((30 + (4 * (nI jxa))) + 1), .ref 66], w)) rfl ?_
              refine mz_arr (c' := (13, [some (.ref 65), some (.int (nI jxa)), some (.int 1)], [.int (w 66 (((30 + (4 * (nI jxa))) + 1).toNatClampNeg))], w)) rfl (show mz_in ((30 + (4 * (nI jxa))) + 1) 650 = true from sm_inN (sm_addN (sm_addN rfl (sm_mulN rfl rfl)) rfl) (show ((30 + (4 * jxa)) + 1) < 650 by omega) (by decide)) ?_
              rw [show ((30 + (4 * (nI jxa))) + 1 : Int32).toNatClampNeg = ((30 + (4 * jxa)) + 1) from sm_clN (sm_addN (sm_addN rfl (sm_mulN rfl rfl)) rfl) (show ((30 + (4 * jxa)) + 1) < 2 ^ 31 by omega)]
              rw [show w 66 ((30 + (4 * jxa)) + 1) = w 4 jxa from (hr2.2.1 jxa (by omega)).2.1]
              exact mz_ret rfl
            refine mz_retP (r := (some (.int (w 4 jxa)), w)) rfl ⟨w 4 jxa, rfl, ?_, rfl⟩
            show sm_I (n + 1) (w)
            exact sm_I_scr hn hI2 (fun _ _ => rfl) rfl rfl
          · refine mz_goP 6 (c' := (10, [some (.ref 0), some (.int (nI jxa)), some (.int 2), some (.ref 2), none], [.int (nI jxa), .ref 2], w)) rfl ?_
            refine mz_doPQ (R := mz_r21) (as := [.ref 2, .int (nI jxa)]) (rest := []) (r1 := some (.int 1)) (m1 := w) mz_t21 mz_v21_2 rfl rfl rfl rfl rfl ((cs_has hN (m := w) h4 (show jxa < N by omega)).deep (by decide)) ?_
            refine mz_goP 4 (c' := (19, [some (.ref 0), some (.int (nI jxa)), some (.int 2), some (.ref 2), none], [.int 5, .int 0, .int 2], w)) rfl ?_
            refine mz_doPQ (R := mz_r121) (as := [.int 2, .int 0, .int 5]) (rest := []) (r1 := some (.int 1)) (m1 := w) mz_t121 mz_v121 rfl rfl rfl rfl rfl ((cs_in1 (m := w) (v := 2) (a := 0) (b := 5) (by decide) (by decide)).deep (by decide)) ?_
            refine mz_goP 11 (c' := (53, [some (.ref 0), some (.int (nI jxa)), some (.int 2), some (.ref 2), none], [.int (w 19 1), .int (w 19 0), .int (nI jxa), .ref 2], w)) rfl ?_
            refine mz_doPQ (R := mz_r24) (as := [.ref 2, .int (nI jxa), .int (w 19 0), .int (w 19 1)]) (rest := []) (r1 := some (.int (sm_far (w 4 jxa) (w 5 jxa) (w 19 0) (w 19 1)))) (m1 := w) mz_t24 mz_v24_2 rfl rfl rfl rfl rfl ((cs_far hN (m := w) h4 (show jxa < N by omega) (w 19 0) (w 19 1)).deep (by decide)) ?_
            refine mz_goP 6 (c' := (111, [some (.ref 0), some (.int (nI jxa)), some (.int 2), some (.ref 2), some (.int (sm_far (w 4 jxa) (w 5 jxa) (w 19 0) (w 19 1)))], [.int (nI jxa), .ref 5], w)) rfl ?_
            refine mz_arrP (c' := (112, [some (.ref 0), some (.int (nI jxa)), some (.int 2), some (.ref 2), some (.int (sm_far (w 4 jxa) (w 5 jxa) (w 19 0) (w 19 1)))], [.int (w 5 ((nI jxa).toNatClampNeg))], w)) rfl (show mz_in (nI jxa) 6 = true from sm_inN rfl (show jxa < 6 by omega) (by decide)) ?_
            rw [show (nI jxa : Int32).toNatClampNeg = jxa from sm_clN rfl (show jxa < 2 ^ 31 by omega)]
            refine mz_retP (r := (some (.int (w 5 jxa)), w)) rfl ⟨w 5 jxa, rfl, ?_⟩
            refine mz_goP 2 (c' := (2, [some (.ref 65), some (.int (nI jxa)), some (.int 2)], [.int (nI jxa), .ref 65], w)) rfl ?_
            refine mz_doPQ (R := mz_r132) (as := [.ref 65, .int (nI jxa)]) (rest := []) (r1 := some (.int 1)) (m1 := w) mz_t132 mz_v132_65 rfl rfl rfl rfl rfl ⟨?_, rfl⟩ ?_
            · refine mz_go 6 (c' := (8, [some (.ref 65), some (.int (nI jxa))], [.int (w 66 0), .int 0, .int (nI jxa)], w)) rfl ?_
              rw [h660]
              refine mz_go 2 (c' := (10, [some (.ref 65), some (.int (nI jxa))], [.int ((nI N) - 1), .int 0, .int (nI jxa)], w)) rfl ?_
              refine mz_doQ (R := mz_r128) (as := [.int (nI jxa), .int 0, .int ((nI N) - 1)]) (rest := []) (r1 := some (.int 1)) (m1 := w) mz_t128 mz_v128 rfl rfl rfl rfl rfl ((ct_in1 (m := w) (v := nI jxa) (a := 0) (b := (nI N) - 1) q1 (show ¬ (((nI N) - 1) < (nI jxa)) from (sm_nltN (sm_subN (a := N) (b := 1) rfl rfl (by omega)) rfl (show jxa ≤ (N - 1) by omega) (show (N - 1) < 2 ^ 31 by omega)))).deep (by decide)) ?_
              exact mz_ret rfl
            refine mz_goP 4 (c' := (11, [some (.ref 65), some (.int (nI jxa)), some (.int 2)], [.int 5, .int 0, .int 2], w)) rfl ?_
            refine mz_doPQ (R := mz_r128) (as := [.int 2, .int 0, .int 5]) (rest := []) (r1 := some (.int 1)) (m1 := w) mz_t128 mz_v128 rfl rfl rfl rfl rfl ((ct_in1 (m := w) (v := 2) (a := 0) (b := 5) (by decide) (by decide)).deep (by decide)) ?_
            refine mz_goP 7 (c' := (31, [some (.ref 65), some (.int (nI jxa)), some (.int 2)], [.int 2, .int (nI jxa), .ref 65], w)) rfl ?_
            refine mz_doPQ (R := mz_r133) (as := [.ref 65, .int (nI jxa), .int 2]) (rest := []) (r1 := some (.int (w 5 jxa))) (m1 := w) mz_t133 mz_v133_65 rfl rfl rfl rfl rfl ⟨?_, rfl⟩ ?_
            · refine mz_go 9 (c' := (12, [some (.ref 65), some (.int (nI jxa)), some (.int 2)], [.int ((30 + (4 * (nI jxa))) + 2), .ref 66], w)) rfl ?_
              refine mz_arr (c' := (13, [some (.ref 65), some (.int (nI jxa)), some (.int 2)], [.int (w 66 (((30 + (4 * (nI jxa))) + 2).toNatClampNeg))], w)) rfl (show mz_in ((30 + (4 * (nI jxa))) + 2) 650 = true from sm_inN (sm_addN (sm_addN rfl (sm_mulN rfl rfl)) rfl) (show ((30 + (4 * jxa)) + 2) < 650 by omega) (by decide)) ?_
              rw [show ((30 + (4 * (nI jxa))) + 2 : Int32).toNatClampNeg = ((30 + (4 * jxa)) + 2) from sm_clN (sm_addN (sm_addN rfl (sm_mulN rfl rfl)) rfl) (show ((30 + (4 * jxa)) + 2) < 2 ^ 31 by omega)]
              rw [show w 66 ((30 + (4 * jxa)) + 2) = w 5 jxa from (hr2.2.1 jxa (by omega)).2.2.1]
              exact mz_ret rfl
            refine mz_retP (r := (some (.int (w 5 jxa)), w)) rfl ⟨w 5 jxa, rfl, ?_, rfl⟩
            show sm_I (n + 1) (w)
            exact sm_I_scr hn hI2 (fun _ _ => rfl) rfl rfl
          · refine mz_goP 6 (c' := (10, [some (.ref 0), some (.int (nI jxa)), some (.int 3), some (.ref 2), none], [.int (nI jxa), .ref 2], w)) rfl ?_
            refine mz_doPQ (R := mz_r21) (as := [.ref 2, .int (nI jxa)]) (rest := []) (r1 := some (.int 1)) (m1 := w) mz_t21 mz_v21_2 rfl rfl rfl rfl rfl ((cs_has hN (m := w) h4 (show jxa < N by omega)).deep (by decide)) ?_
            refine mz_goP 4 (c' := (19, [some (.ref 0), some (.int (nI jxa)), some (.int 3), some (.ref 2), none], [.int 5, .int 0, .int 3], w)) rfl ?_
            refine mz_doPQ (R := mz_r121) (as := [.int 3, .int 0, .int 5]) (rest := []) (r1 := some (.int 1)) (m1 := w) mz_t121 mz_v121 rfl rfl rfl rfl rfl ((cs_in1 (m := w) (v := 3) (a := 0) (b := 5) (by decide) (by decide)).deep (by decide)) ?_
            refine mz_goP 11 (c' := (53, [some (.ref 0), some (.int (nI jxa)), some (.int 3), some (.ref 2), none], [.int (w 19 1), .int (w 19 0), .int (nI jxa), .ref 2], w)) rfl ?_
            refine mz_doPQ (R := mz_r24) (as := [.ref 2, .int (nI jxa), .int (w 19 0), .int (w 19 1)]) (rest := []) (r1 := some (.int (sm_far (w 4 jxa) (w 5 jxa) (w 19 0) (w 19 1)))) (m1 := w) mz_t24 mz_v24_2 rfl rfl rfl rfl rfl ((cs_far hN (m := w) h4 (show jxa < N by omega) (w 19 0) (w 19 1)).deep (by decide)) ?_
            refine mz_goP 6 (c' := (118, [some (.ref 0), some (.int (nI jxa)), some (.int 3), some (.ref 2), some (.int (sm_far (w 4 jxa) (w 5 jxa) (w 19 0) (w 19 1)))], [.int (nI jxa), .ref 6], w)) rfl ?_
            refine mz_arrP (c' := (119, [some (.ref 0), some (.int (nI jxa)), some (.int 3), some (.ref 2), some (.int (sm_far (w 4 jxa) (w 5 jxa) (w 19 0) (w 19 1)))], [.int (w 6 ((nI jxa).toNatClampNeg))], w)) rfl (show mz_in (nI jxa) 6 = true from sm_inN rfl (show jxa < 6 by omega) (by decide)) ?_
            rw [show (nI jxa : Int32).toNatClampNeg = jxa from sm_clN rfl (show jxa < 2 ^ 31 by omega)]
            refine mz_retP (r := (some (.int (w 6 jxa)), w)) rfl ⟨w 6 jxa, rfl, ?_⟩
            refine mz_goP 2 (c' := (2, [some (.ref 65), some (.int (nI jxa)), some (.int 3)], [.int (nI jxa), .ref 65], w)) rfl ?_
            refine mz_doPQ (R := mz_r132) (as := [.ref 65, .int (nI jxa)]) (rest := []) (r1 := some (.int 1)) (m1 := w) mz_t132 mz_v132_65 rfl rfl rfl rfl rfl ⟨?_, rfl⟩ ?_
            · refine mz_go 6 (c' := (8, [some (.ref 65), some (.int (nI jxa))], [.int (w 66 0), .int 0, .int (nI jxa)], w)) rfl ?_
              rw [h660]
              refine mz_go 2 (c' := (10, [some (.ref 65), some (.int (nI jxa))], [.int ((nI N) - 1), .int 0, .int (nI jxa)], w)) rfl ?_
              refine mz_doQ (R := mz_r128) (as := [.int (nI jxa), .int 0, .int ((nI N) - 1)]) (rest := []) (r1 := some (.int 1)) (m1 := w) mz_t128 mz_v128 rfl rfl rfl rfl rfl ((ct_in1 (m := w) (v := nI jxa) (a := 0) (b := (nI N) - 1) q1 (show ¬ (((nI N) - 1) < (nI jxa)) from (sm_nltN (sm_subN (a := N) (b := 1) rfl rfl (by omega)) rfl (show jxa ≤ (N - 1) by omega) (show (N - 1) < 2 ^ 31 by omega)))).deep (by decide)) ?_
              exact mz_ret rfl
            refine mz_goP 4 (c' := (11, [some (.ref 65), some (.int (nI jxa)), some (.int 3)], [.int 5, .int 0, .int 3], w)) rfl ?_
            refine mz_doPQ (R := mz_r128) (as := [.int 3, .int 0, .int 5]) (rest := []) (r1 := some (.int 1)) (m1 := w) mz_t128 mz_v128 rfl rfl rfl rfl rfl ((ct_in1 (m := w) (v := 3) (a := 0) (b := 5) (by decide) (by decide)).deep (by decide)) ?_
            refine mz_goP 7 (c' := (31, [some (.ref 65), some (.int (nI jxa)), some (.int 3)], [.int 3, .int (nI jxa), .ref 65], w)) rfl ?_
            refine mz_doPQ (R := mz_r133) (as := [.ref 65, .int (nI jxa), .int 3]) (rest := []) (r1 := some (.int (w 6 jxa))) (m1 := w) mz_t133 mz_v133_65 rfl rfl rfl rfl rfl ⟨?_, rfl⟩ ?_
            · refine mz_go 9 (c' := (12, [some (.ref 65), some (.int (nI jxa)), some (.int 3)], [.int ((30 + (4 * (nI jxa))) + 3), .ref 66], w)) rfl ?_
              refine mz_arr (c' := (13, [some (.ref 65), some (.int (nI jxa)), some (.int 3)], [.int (w 66 (((30 + (4 * (nI jxa))) + 3).toNatClampNeg))], w)) rfl (show mz_in ((30 + (4 * (nI jxa))) + 3) 650 = true from sm_inN (sm_addN (sm_addN rfl (sm_mulN rfl rfl)) rfl) (show ((30 + (4 * jxa)) + 3) < 650 by omega) (by decide)) ?_
              rw [show ((30 + (4 * (nI jxa))) + 3 : Int32).toNatClampNeg = ((30 + (4 * jxa)) + 3) from sm_clN (sm_addN (sm_addN rfl (sm_mulN rfl rfl)) rfl) (show ((30 + (4 * jxa)) + 3) < 2 ^ 31 by omega)]
              rw [show w 66 ((30 + (4 * jxa)) + 3) = w 6 jxa from (hr2.2.1 jxa (by omega)).2.2.2]
              exact mz_ret rfl
            refine mz_retP (r := (some (.int (w 6 jxa)), w)) rfl ⟨w 6 jxa, rfl, ?_, rfl⟩
            show sm_I (n + 1) (w)
            exact sm_I_scr hn hI2 (fun _ _ => rfl) rfl rfl
          · refine mz_goP 6 (c' := (10, [some (.ref 0), some (.int (nI jxa)), some (.int 4), some (.ref 2), none], [.int (nI jxa), .ref 2], w)) rfl ?_
            refine mz_doPQ (R := mz_r21) (as := [.ref 2, .int (nI jxa)]) (rest := []) (r1 := some (.int 1)) (m1 := w) mz_t21 mz_v21_2 rfl rfl rfl rfl rfl ((cs_has hN (m := w) h4 (show jxa < N by omega)).deep (by decide)) ?_
            refine mz_goP 4 (c' := (19, [some (.ref 0), some (.int (nI jxa)), some (.int 4), some (.ref 2), none], [.int 5, .int 0, .int 4], w)) rfl ?_
            refine mz_doPQ (R := mz_r121) (as := [.int 4, .int 0, .int 5]) (rest := []) (r1 := some (.int 1)) (m1 := w) mz_t121 mz_v121 rfl rfl rfl rfl rfl ((cs_in1 (m := w) (v := 4) (a := 0) (b := 5) (by decide) (by decide)).deep (by decide)) ?_
            refine mz_goP 11 (c' := (53, [some (.ref 0), some (.int (nI jxa)), some (.int 4), some (.ref 2), none], [.int (w 19 1), .int (w 19 0), .int (nI jxa), .ref 2], w)) rfl ?_
            refine mz_doPQ (R := mz_r24) (as := [.ref 2, .int (nI jxa), .int (w 19 0), .int (w 19 1)]) (rest := []) (r1 := some (.int (sm_far (w 4 jxa) (w 5 jxa) (w 19 0) (w 19 1)))) (m1 := w) mz_t24 mz_v24_2 rfl rfl rfl rfl rfl ((cs_far hN (m := w) h4 (show jxa < N by omega) (w 19 0) (w 19 1)).deep (by decide)) ?_
            refine mz_goP 4 (c' := (122, [some (.ref 0), some (.int (nI jxa)), some (.int 4), some (.ref 2), some (.int (sm_far (w 4 jxa) (w 5 jxa) (w 19 0) (w 19 1)))], [.int (sm_far (w 4 jxa) (w 5 jxa) (w 19 0) (w 19 1))], w)) rfl ?_
            refine mz_retP (r := (some (.int (sm_far (w 4 jxa) (w 5 jxa) (w 19 0) (w 19 1))), w)) rfl ⟨sm_far (w 4 jxa) (w 5 jxa) (w 19 0) (w 19 1), rfl, ?_⟩
            refine mz_goP 2 (c' := (2, [some (.ref 65), some (.int (nI jxa)), some (.int 4)], [.int (nI jxa), .ref 65], w)) rfl ?_
            refine mz_doPQ (R := mz_r132) (as := [.ref 65, .int (nI jxa)]) (rest := []) (r1 := some (.int 1)) (m1 := w) mz_t132 mz_v132_65 rfl rfl rfl rfl rfl ⟨?_, rfl⟩ ?_
            · refine mz_go 6 (c' := (8, [some (.ref 65), some (.int (nI jxa))], [.int (w 66 0), .int 0, .int (nI jxa)], w)) rfl ?_
              rw [h660]
              refine mz_go 2 (c' := (10, [some (.ref 65), some (.int (nI jxa))], [.int ((nI N) - 1), .int 0, .int (nI jxa)], w)) rfl ?_
              refine mz_doQ (R := mz_r128) (as := [.int (nI jxa), .int 0, .int ((nI N) - 1)]) (rest := []) (r1 := some (.int 1)) (m1 := w) mz_t128 mz_v128 rfl rfl rfl rfl rfl ((ct_in1 (m := w) (v := nI jxa) (a := 0) (b := (nI N) - 1) q1 (show ¬ (((nI N) - 1) < (nI jxa)) from (sm_nltN (sm_subN (a := N) (b := 1) rfl rfl (by omega)) rfl (show jxa ≤ (N - 1) by omega) (show (N - 1) < 2 ^ 31 by omega)))).deep (by decide)) ?_
              exact mz_ret rfl
            refine mz_goP 4 (c' := (11, [some (.ref 65), some (.int (nI jxa)), some (.int 4)], [.int 5, .int 0, .int 4], w)) rfl ?_
            refine mz_doPQ (R := mz_r128) (as := [.int 4, .int 0, .int 5]) (rest := []) (r1 := some (.int 1)) (m1 := w) mz_t128 mz_v128 rfl rfl rfl rfl rfl ((ct_in1 (m := w) (v := 4) (a := 0) (b := 5) (by decide) (by decide)).deep (by decide)) ?_
            refine mz_goP 5 (c' := (36, [some (.ref 65), some (.int (nI jxa)), some (.int 4)], [.ref 65], w)) rfl ?_
            refine mz_doPQ (R := mz_r145) (as := [.ref 65]) (rest := []) (r1 := none) (m1 := mz_up (mz_up (mz_up (mz_up (mz_up w 65 4 (w 19 0)) 65 5 (w 19 1)) 65 6 (w 19 2)) 65 7 (w 19 3)) 65 8 (w 19 4)) mz_t145 mz_v145_65 rfl rfl rfl rfl rfl ⟨?_, rfl⟩ ?_
            · refine mz_go 5 (c' := (8, [some (.ref 65)], [.int (w 66 20), .ref 65], w)) rfl ?_
              rw [show w 66 20 = w 19 0 from hbl.1]
              refine mz_go 6 (c' := (19, [some (.ref 65)], [.int (w 66 21), .ref 65], mz_up w 65 4 (w 19 0))) rfl ?_
              rw [show w 66 21 = w 19 1 from hbl.2.1]
              refine mz_go 6 (c' := (30, [some (.ref 65)], [.int (w 66 22), .ref 65], mz_up (mz_up w 65 4 (w 19 0)) 65 5 (w 19 1))) rfl ?_
              rw [show w 66 22 = w 19 2 from hbl.2.2.1]
              refine mz_go 6 (c' := (41, [some (.ref 65)], [.int (w 66 23), .ref 65], mz_up (mz_up (mz_up w 65 4 (w 19 0)) 65 5 (w 19 1)) 65 6 (w 19 2))) rfl ?_
              rw [show w 66 23 = w 19 3 from hbl.2.2.2.1]
              refine mz_go 6 (c' := (52, [some (.ref 65)], [.int (w 66 24), .ref 65], mz_up (mz_up (mz_up (mz_up w 65 4 (w 19 0)) 65 5 (w 19 1)) 65 6 (w 19 2)) 65 7 (w 19 3))) rfl ?_
              rw [show w 66 24 = w 19 4 from hbl.2.2.2.2]
              refine mz_go 1 (c' := (55, [some (.ref 65)], [], mz_up (mz_up (mz_up (mz_up (mz_up w 65 4 (w 19 0)) 65 5 (w 19 1)) 65 6 (w 19 2)) 65 7 (w 19 3)) 65 8 (w 19 4))) rfl ?_
              exact mz_ret rfl
            refine mz_goP 5 (c' := (46, [some (.ref 65), some (.int (nI jxa)), some (.int 4)], [.int (nI jxa), .ref 65], mz_up (mz_up (mz_up (mz_up (mz_up w 65 4 (w 19 0)) 65 5 (w 19 1)) 65 6 (w 19 2)) 65 7 (w 19 3)) 65 8 (w 19 4))) rfl ?_
            refine mz_doPQ (R := mz_r147) (as := [.ref 65, .int (nI jxa)]) (rest := []) (r1 := some (.int (sm_far (w 4 jxa) (w 5 jxa) (w 19 0) (w 19 1)))) (m1 := mz_up (mz_up (mz_up (mz_up (mz_up w 65 4 (w 19 0)) 65 5 (w 19 1)) 65 6 (w 19 2)) 65 7 (w 19 3)) 65 8 (w 19 4)) mz_t147 mz_v147_65 rfl rfl rfl rfl rfl ((ct_farx (w := w) (m := mz_up (mz_up (mz_up (mz_up (mz_up w 65 4 (w 19 0)) 65 5 (w 19 1)) 65 6 (w 19 2)) 65 7 (w 19 3)) 65 8 (w 19 4)) hr2 (show jxa < 6 by omega) (x := (w 19 0)) (y := (w 19 1)) rfl rfl).deep (by decide)) ?_
            refine mz_goP 1 (c' := (57, [some (.ref 65), some (.int (nI jxa)), some (.int 4)], [.int (sm_far (w 4 jxa) (w 5 jxa) (w 19 0) (w 19 1))], mz_up (mz_up (mz_up (mz_up (mz_up w 65 4 (w 19 0)) 65 5 (w 19 1)) 65 6 (w 19 2)) 65 7 (w 19 3)) 65 8 (w 19 4))) rfl ?_
            refine mz_retP (r := (some (.int (sm_far (w 4 jxa) (w 5 jxa) (w 19 0) (w 19 1))), mz_up (mz_up (mz_up (mz_up (mz_up w 65 4 (w 19 0)) 65 5 (w 19 1)) 65 6 (w 19 2)) 65 7 (w 19 3)) 65 8 (w 19 4))) rfl ⟨sm_far (w 4 jxa) (w 5 jxa) (w 19 0) (w 19 1), rfl, ?_, rfl⟩
            show sm_I (n + 1) (mz_up (mz_up (mz_up (mz_up (mz_up w 65 4 (w 19 0)) 65 5 (w 19 1)) 65 6 (w 19 2)) 65 7 (w 19 3)) 65 8 (w 19 4))
            exact sm_I_scr hn hI2 (fun i hi => by
              have hne : ∀ r, sm_scr r = true → i ≠ r := fun r hr e => by
                rw [e, hr] at hi
                cases hi
              simp only [mz_up_ne (hne 65 rfl)]) rfl rfl
