set_option maxHeartbeats 4000000 in
set_option maxRecDepth 100000 in
theorem sc_as {n : Nat} (hn : n < 64) {w : mz_M} (hI : sm_I n w) (xa : Int32) (xb : Int32) : ∃ v1 v2 m1 m2, mz_Me 100 mz_r69 [.ref 0, .int xa, .int xb] w (some (.int v1)) m1 ∧ mz_Me 100 mz_r139 [.ref 65, .int xa, .int xb] m1 (some (.int v2)) m2 ∧ sm_I (n + 1) m2 ∧ v1 = v2 := by
  have hI2 := hI
  obtain ⟨hn0, ⟨-, ⟨hr80, hr5, hrr⟩, ⟨⟨TT, hTT, h81, h661⟩, htp⟩, ⟨⟨T0, hT0, hU0, hV0, -⟩, ⟨T1, hT1, hU1, hV1, -⟩, ⟨T2, hT2, hU2, hV2, -⟩⟩, ⟨hbx, hby, hbl⟩, ⟨⟨WW, HH, hWW, hHH, hWH, h202, h203, h6660, h6661⟩, h6662, h6663, h6664, hpc⟩, ⟨hth, h66160, hthr⟩, ⟨⟨AA, hAA, h111, h662⟩, h663, hwt⟩⟩, ⟨hsh, hsn⟩, ⟨hcb1, hcb2⟩, ⟨JJ, hJJ, h07, h652, hkept⟩⟩ := hI
  obtain ⟨N, hw, hr2, h660, -, -, h6615⟩ := sm_world hI2
  have hw2 := hw
  obtain ⟨hN, h4, hpb, -, -⟩ := hw2
  have hT60a := sm_T60 hV0
  have hT60b := sm_T60 hV1
  have hT60c := sm_T60 hV2
  obtain ⟨B1, hB1, e571⟩ := sm_Nof (by decide) hcb1
  obtain ⟨B2, hB2, e6519⟩ := sm_Nof (by decide) hcb2
  refine mz_two (fun _ => rfl) (fun _ => rfl) ?_
  by_cases q1 : xa < 0
  · refine mz_goP 4 (c' := (8, [some (.ref 0), some (.int xa), some (.int xb)], [.int xa, .ref 2], w)) rfl ?_
    refine mz_doPQ (R := mz_r21) (as := [.ref 2, .int xa]) (rest := []) (r1 := some (.int 0)) (m1 := w) mz_t21 mz_v21_2 rfl rfl rfl rfl rfl ⟨?_, rfl⟩ ?_
    · refine mz_go 2 (c' := (if xa < 0 then 22 else 4, [some (.ref 2), some (.int xa)], [], w)) rfl ?_
      refine mz_ifT q1 ?_
      refine mz_go 1 (c' := (23, [some (.ref 2), some (.int xa)], [.int 0], w)) rfl ?_
      exact mz_ret rfl
    refine mz_goP 3 (c' := (23, [some (.ref 0), some (.int xa), some (.int xb)], [.int 1, .ref 0], w)) rfl ?_
    refine mz_doPQ (R := mz_r109) (as := [.ref 0, .int 1]) (rest := []) (r1 := some (.int (-1000001))) (m1 := mz_up w 64 1 ((w 64 1) + 1)) mz_t109 mz_v109_0 rfl rfl rfl rfl rfl ((cs_err1 (m := w)).deep (by decide)) ?_
    refine mz_retP (r := (some (.int ((-1000001))), mz_up w 64 1 ((w 64 1) + 1))) rfl ⟨(-1000001), rfl, ?_⟩
    refine mz_goP 2 (c' := (2, [some (.ref 65), some (.int xa), some (.int xb)], [.int xa, .ref 65], mz_up w 64 1 ((w 64 1) + 1))) rfl ?_
    by_cases q2 : N = 0
    · refine mz_doPQ (R := mz_r132) (as := [.ref 65, .int xa]) (rest := []) (r1 := some (.int 0)) (m1 := mz_up w 64 1 ((w 64 1) + 1)) mz_t132 mz_v132_65 rfl rfl rfl rfl rfl ⟨?_, rfl⟩ ?_
      · refine mz_go 6 (c' := (8, [some (.ref 65), some (.int xa)], [.int (w 66 0), .int 0, .int xa], mz_up w 64 1 ((w 64 1) + 1))) rfl ?_
        rw [h660]
        refine mz_go 2 (c' := (10, [some (.ref 65), some (.int xa)], [.int ((nI N) - 1), .int 0, .int xa], mz_up w 64 1 ((w 64 1) + 1))) rfl ?_
        rw [show nI N - 1 = -1 from by rw [show N = 0 by omega]; decide]
        refine mz_doQ (R := mz_r128) (as := [.int xa, .int 0, .int (-1)]) (rest := []) (r1 := some (.int 0)) (m1 := mz_up w 64 1 ((w 64 1) + 1)) mz_t128 mz_v128 rfl rfl rfl rfl rfl ((ct_inL (m := mz_up w 64 1 ((w 64 1) + 1)) (v := xa) (a := 0) (b := (-1)) q1).deep (by decide)) ?_
        exact mz_ret rfl
      refine mz_goP 3 (c' := (20, [some (.ref 65), some (.int xa), some (.int xb)], [.int 1, .ref 65], mz_up w 64 1 ((w 64 1) + 1))) rfl ?_
      refine mz_doPQ (R := mz_r127) (as := [.ref 65, .int 1]) (rest := []) (r1 := some (.int (-1000001))) (m1 := mz_up (mz_up w 64 1 ((w 64 1) + 1)) 68 1 ((w 68 1) + 1)) mz_t127 mz_v127_65 rfl rfl rfl rfl rfl ((ct_err1 (m := mz_up w 64 1 ((w 64 1) + 1))).deep (by decide)) ?_
      refine mz_retP (r := (some (.int ((-1000001))), mz_up (mz_up w 64 1 ((w 64 1) + 1)) 68 1 ((w 68 1) + 1))) rfl ⟨(-1000001), rfl, ?_, rfl⟩
      show sm_I (n + 1) (mz_up (mz_up w 64 1 ((w 64 1) + 1)) 68 1 ((w 68 1) + 1))
      exact sm_I_scr hn hI2 (fun i hi => by
        have hne : ∀ r, sm_scr r = true → i ≠ r := fun r hr e => by
          rw [e, hr] at hi
          cases hi
        simp only [mz_up_ne (hne 64 rfl), mz_up_ne (hne 68 rfl)]) rfl rfl
    · refine mz_doPQ (R := mz_r132) (as := [.ref 65, .int xa]) (rest := []) (r1 := some (.int 0)) (m1 := mz_up w 64 1 ((w 64 1) + 1)) mz_t132 mz_v132_65 rfl rfl rfl rfl rfl ⟨?_, rfl⟩ ?_
      · refine mz_go 6 (c' := (8, [some (.ref 65), some (.int xa)], [.int (w 66 0), .int 0, .int xa], mz_up w 64 1 ((w 64 1) + 1))) rfl ?_
        rw [h660]
        refine mz_go 2 (c' := (10, [some (.ref 65), some (.int xa)], [.int ((nI N) - 1), .int 0, .int xa], mz_up w 64 1 ((w 64 1) + 1))) rfl ?_
        refine mz_doQ (R := mz_r128) (as := [.int xa, .int 0, .int ((nI N) - 1)]) (rest := []) (r1 := some (.int 0)) (m1 := mz_up w 64 1 ((w 64 1) + 1)) mz_t128 mz_v128 rfl rfl rfl rfl rfl ((ct_inL (m := mz_up w 64 1 ((w 64 1) + 1)) (v := xa) (a := 0) (b := (nI N) - 1) q1).deep (by decide)) ?_
        exact mz_ret rfl
      refine mz_goP 3 (c' := (20, [some (.ref 65), some (.int xa), some (.int xb)], [.int 1, .ref 65], mz_up w 64 1 ((w 64 1) + 1))) rfl ?_
      refine mz_doPQ (R := mz_r127) (as := [.ref 65, .int 1]) (rest := []) (r1 := some (.int (-1000001))) (m1 := mz_up (mz_up w 64 1 ((w 64 1) + 1)) 68 1 ((w 68 1) + 1)) mz_t127 mz_v127_65 rfl rfl rfl rfl rfl ((ct_err1 (m := mz_up w 64 1 ((w 64 1) + 1))).deep (by decide)) ?_
      refine mz_retP (r := (some (.int ((-1000001))), mz_up (mz_up w 64 1 ((w 64 1) + 1)) 68 1 ((w 68 1) + 1))) rfl ⟨(-1000001), rfl, ?_, rfl⟩
      show sm_I (n + 1) (mz_up (mz_up w 64 1 ((w 64 1) + 1)) 68 1 ((w 68 1) + 1))
      exact sm_I_scr hn hI2 (fun i hi => by
        have hne : ∀ r, sm_scr r = true → i ≠ r := fun r hr e => by
          rw [e, hr] at hi
          cases hi
        simp only [mz_up_ne (hne 64 rfl), mz_up_ne (hne 68 rfl)]) rfl rfl
  · obtain ⟨jxa, hjxa, rfl⟩ := nI_of q1
    by_cases q3 : N ≤ jxa
    · refine mz_goP 4 (c' := (8, [some (.ref 0), some (.int (nI jxa)), some (.int xb)], [.int (nI jxa), .ref 2], w)) rfl ?_
      refine mz_doPQ (R := mz_r21) (as := [.ref 2, .int (nI jxa)]) (rest := []) (r1 := some (.int 0)) (m1 := w) mz_t21 mz_v21_2 rfl rfl rfl rfl rfl ⟨?_, rfl⟩ ?_
      · refine mz_go 2 (c' := (if (nI jxa) < 0 then 22 else 4, [some (.ref 2), some (.int (nI jxa))], [], w)) rfl ?_
        refine mz_ifF q1 ?_
        refine mz_go 3 (c' := (9, [some (.ref 2), some (.int (nI jxa))], [.int (w 2 4), .int (nI jxa)], w)) rfl ?_
        rw [h4]
        refine mz_go 1 (c' := (if (nI N) ≤ (nI jxa) then 22 else 12, [some (.ref 2), some (.int (nI jxa))], [], w)) rfl ?_
        refine mz_ifT (show ((nI N) ≤ (nI jxa)) from (sm_leN rfl rfl (show N ≤ jxa by omega) (show jxa < 2 ^ 31 by omega))) ?_
        refine mz_go 1 (c' := (23, [some (.ref 2), some (.int (nI jxa))], [.int 0], w)) rfl ?_
        exact mz_ret rfl
      refine mz_goP 3 (c' := (23, [some (.ref 0), some (.int (nI jxa)), some (.int xb)], [.int 1, .ref 0], w)) rfl ?_
      refine mz_doPQ (R := mz_r109) (as := [.ref 0, .int 1]) (rest := []) (r1 := some (.int (-1000001))) (m1 := mz_up w 64 1 ((w 64 1) + 1)) mz_t109 mz_v109_0 rfl rfl rfl rfl rfl ((cs_err1 (m := w)).deep (by decide)) ?_
      refine mz_retP (r := (some (.int ((-1000001))), mz_up w 64 1 ((w 64 1) + 1))) rfl ⟨(-1000001), rfl, ?_⟩
      refine mz_goP 2 (c' := (2, [some (.ref 65), some (.int (nI jxa)), some (.int xb)], [.int (nI jxa), .ref 65], mz_up w 64 1 ((w 64 1) + 1))) rfl ?_
      by_cases q4 : N = 0
      · refine mz_doPQ (R := mz_r132) (as := [.ref 65, .int (nI jxa)]) (rest := []) (r1 := some (.int 0)) (m1 := mz_up w 64 1 ((w 64 1) + 1)) mz_t132 mz_v132_65 rfl rfl rfl rfl rfl ⟨?_, rfl⟩ ?_
        · refine mz_go 6 (c' := (8, [some (.ref 65), some (.int (nI jxa))], [.int (w 66 0), .int 0, .int (nI jxa)], mz_up w 64 1 ((w 64 1) + 1))) rfl ?_
          rw [h660]
          refine mz_go 2 (c' := (10, [some (.ref 65), some (.int (nI jxa))], [.int ((nI N) - 1), .int 0, .int (nI jxa)], mz_up w 64 1 ((w 64 1) + 1))) rfl ?_
          rw [show nI N - 1 = -1 from by rw [show N = 0 by omega]; decide]
          refine mz_doQ (R := mz_r128) (as := [.int (nI jxa), .int 0, .int (-1)]) (rest := []) (r1 := some (.int 0)) (m1 := mz_up w 64 1 ((w 64 1) + 1)) mz_t128 mz_v128 rfl rfl rfl rfl rfl ((ct_inG (m := mz_up w 64 1 ((w 64 1) + 1)) (v := nI jxa) (a := 0) (b := (-1)) q1 (show ((-1) < (nI jxa)) from (sm_m1lt rfl (show jxa < 2 ^ 31 by omega)))).deep (by decide)) ?_
          exact mz_ret rfl
        refine mz_goP 3 (c' := (20, [some (.ref 65), some (.int (nI jxa)), some (.int xb)], [.int 1, .ref 65], mz_up w 64 1 ((w 64 1) + 1))) rfl ?_
        refine mz_doPQ (R := mz_r127) (as := [.ref 65, .int 1]) (rest := []) (r1 := some (.int (-1000001))) (m1 := mz_up (mz_up w 64 1 ((w 64 1) + 1)) 68 1 ((w 68 1) + 1)) mz_t127 mz_v127_65 rfl rfl rfl rfl rfl ((ct_err1 (m := mz_up w 64 1 ((w 64 1) + 1))).deep (by decide)) ?_
        refine mz_retP (r := (some (.int ((-1000001))), mz_up (mz_up w 64 1 ((w 64 1) + 1)) 68 1 ((w 68 1) + 1))) rfl ⟨(-1000001), rfl, ?_, rfl⟩
        show sm_I (n + 1) (mz_up (mz_up w 64 1 ((w 64 1) + 1)) 68 1 ((w 68 1) + 1))
        exact sm_I_scr hn hI2 (fun i hi => by
          have hne : ∀ r, sm_scr r = true → i ≠ r := fun r hr e => by
            rw [e, hr] at hi
            cases hi
          simp only [mz_up_ne (hne 64 rfl), mz_up_ne (hne 68 rfl)]) rfl rfl
      · refine mz_doPQ (R := mz_r132) (as := [.ref 65, .int (nI jxa)]) (rest := []) (r1 := some (.int 0)) (m1 := mz_up w 64 1 ((w 64 1) + 1)) mz_t132 mz_v132_65 rfl rfl rfl rfl rfl ⟨?_, rfl⟩ ?_
        · refine mz_go 6 (c' := (8, [some (.ref 65), some (.int (nI jxa))], [.int (w 66 0), .int 0, .int (nI jxa)], mz_up w 64 1 ((w 64 1) + 1))) rfl ?_
          rw [h660]
          refine mz_go 2 (c' := (10, [some (.ref 65), some (.int (nI jxa))], [.int ((nI N) - 1), .int 0, .int (nI jxa)], mz_up w 64 1 ((w 64 1) + 1))) rfl ?_
          refine mz_doQ (R := mz_r128) (as := [.int (nI jxa), .int 0, .int ((nI N) - 1)]) (rest := []) (r1 := some (.int 0)) (m1 := mz_up w 64 1 ((w 64 1) + 1)) mz_t128 mz_v128 rfl rfl rfl rfl rfl ((ct_inG (m := mz_up w 64 1 ((w 64 1) + 1)) (v := nI jxa) (a := 0) (b := (nI N) - 1) q1 (show (((nI N) - 1) < (nI jxa)) from (sm_ltN (sm_subN (a := N) (b := 1) rfl rfl (by omega)) rfl (show (N - 1) < jxa by omega) (show jxa < 2 ^ 31 by omega)))).deep (by decide)) ?_
          exact mz_ret rfl
        refine mz_goP 3 (c' := (20, [some (.ref 65), some (.int (nI jxa)), some (.int xb)], [.int 1, .ref 65], mz_up w 64 1 ((w 64 1) + 1))) rfl ?_
        refine mz_doPQ (R := mz_r127) (as := [.ref 65, .int 1]) (rest := []) (r1 := some (.int (-1000001))) (m1 := mz_up (mz_up w 64 1 ((w 64 1) + 1)) 68 1 ((w 68 1) + 1)) mz_t127 mz_v127_65 rfl rfl rfl rfl rfl ((ct_err1 (m := mz_up w 64 1 ((w 64 1) + 1))).deep (by decide)) ?_
        refine mz_retP (r := (some (.int ((-1000001))), mz_up (mz_up w 64 1 ((w 64 1) + 1)) 68 1 ((w 68 1) + 1))) rfl ⟨(-1000001), rfl, ?_, rfl⟩
        show sm_I (n + 1) (mz_up (mz_up w 64 1 ((w 64 1) + 1)) 68 1 ((w 68 1) + 1))
        exact sm_I_scr hn hI2 (fun i hi => by
          have hne : ∀ r, sm_scr r = true → i ≠ r := fun r hr e => by
            rw [e, hr] at hi
            cases hi
          simp only [mz_up_ne (hne 64 rfl), mz_up_ne (hne 68 rfl)]) rfl rfl
    · by_cases q5 : (sm_bI (sm_in xb 0 6)) = 0
      · refine mz_goP 4 (c' := (8, [some (.ref 0), some (.int (nI jxa)), some (.int xb)], [.int (nI jxa), .ref 2], w)) rfl ?_
        refine mz_doPQ (R := mz_r21) (as := [.ref 2, .int (nI jxa)]) (rest := []) (r1 := some (.int 1)) (m1 := w) mz_t21 mz_v21_2 rfl rfl rfl rfl rfl ((cs_has hN (m := w) h4 (show jxa < N by omega)).deep (by decide)) ?_
        refine mz_goP 2 (c' := (15, [some (.ref 0), some (.int (nI jxa)), some (.int xb)], [.int xb], w)) rfl ?_
        refine mz_doPQ (R := mz_r114) (as := [.int xb]) (rest := []) (r1 := some (.int (sm_bI (sm_in xb 0 6)))) (m1 := w) mz_t114 mz_v114 rfl rfl rfl rfl rfl ⟨?_, sm_fitB _⟩ ?_
        · refine mz_go 3 (c' := (4, [some (.int xb)], [.int 6, .int 0, .int xb], w)) rfl ?_
          refine mz_doQ (R := mz_r121) (as := [.int xb, .int 0, .int 6]) (rest := []) (r1 := some (.int (sm_bI (sm_in xb 0 6)))) (m1 := w) mz_t121 mz_v121 rfl rfl rfl rfl rfl ((cs_in (m := w) xb 0 6).deep (by decide)) ?_
          exact mz_ret rfl
        refine mz_goP 1 (c' := (if (sm_bI (sm_in xb 0 6)) = 0 then 21 else 27, [some (.ref 0), some (.int (nI jxa)), some (.int xb)], [], w)) rfl ?_
        refine mz_ifTP q5 ?_
        refine mz_goP 2 (c' := (23, [some (.ref 0), some (.int (nI jxa)), some (.int xb)], [.int 1, .ref 0], w)) rfl ?_
        refine mz_doPQ (R := mz_r109) (as := [.ref 0, .int 1]) (rest := []) (r1 := some (.int (-1000001))) (m1 := mz_up w 64 1 ((w 64 1) + 1)) mz_t109 mz_v109_0 rfl rfl rfl rfl rfl ((cs_err1 (m := w)).deep (by decide)) ?_
        refine mz_retP (r := (some (.int ((-1000001))), mz_up w 64 1 ((w 64 1) + 1))) rfl ⟨(-1000001), rfl, ?_⟩
        refine mz_goP 2 (c' := (2, [some (.ref 65), some (.int (nI jxa)), some (.int xb)], [.int (nI jxa), .ref 65], mz_up w 64 1 ((w 64 1) + 1))) rfl ?_
        refine mz_doPQ (R := mz_r132) (as := [.ref 65, .int (nI jxa)]) (rest := []) (r1 := some (.int 1)) (m1 := mz_up w 64 1 ((w 64 1) + 1)) mz_t132 mz_v132_65 rfl rfl rfl rfl rfl ⟨?_, rfl⟩ ?_
        · refine mz_go 6 (c' := (8, [some (.ref 65), some (.int (nI jxa))], [.int (w 66 0), .int 0, .int (nI jxa)], mz_up w 64 1 ((w 64 1) + 1))) rfl ?_
          rw [h660]
          refine mz_go 2 (c' := (10, [some (.ref 65), some (.int (nI jxa))], [.int ((nI N) - 1), .int 0, .int (nI jxa)], mz_up w 64 1 ((w 64 1) + 1))) rfl ?_
          refine mz_doQ (R := mz_r128) (as := [.int (nI jxa), .int 0, .int ((nI N) - 1)]) (rest := []) (r1 := some (.int 1)) (m1 := mz_up w 64 1 ((w 64 1) + 1)) mz_t128 mz_v128 rfl rfl rfl rfl rfl ((ct_in1 (m := mz_up w 64 1 ((w 64 1) + 1)) (v := nI jxa) (a := 0) (b := (nI N) - 1) q1 (show ¬ (((nI N) - 1) < (nI jxa)) from (sm_nltN (sm_subN (a := N) (b := 1) rfl rfl (by omega)) rfl (show jxa ≤ (N - 1) by omega) (show (N - 1) < 2 ^ 31 by omega)))).deep (by decide)) ?_
          exact mz_ret rfl
        refine mz_goP 4 (c' := (12, [some (.ref 65), some (.int (nI jxa)), some (.int xb)], [.int 6, .int 0, .int xb], mz_up w 64 1 ((w 64 1) + 1))) rfl ?_
        refine mz_doPQ (R := mz_r128) (as := [.int xb, .int 0, .int 6]) (rest := []) (r1 := some (.int (sm_bI (sm_in xb 0 6)))) (m1 := mz_up w 64 1 ((w 64 1) + 1)) mz_t128 mz_v128 rfl rfl rfl rfl rfl ((ct_in (m := mz_up w 64 1 ((w 64 1) + 1)) xb 0 6).deep (by decide)) ?_
        refine mz_goP 1 (c' := (if (sm_bI (sm_in xb 0 6)) = 0 then 18 else 24, [some (.ref 65), some (.int (nI jxa)), some (.int xb)], [], mz_up w 64 1 ((w 64 1) + 1))) rfl ?_
        refine mz_ifTP q5 ?_
        refine mz_goP 2 (c' := (20, [some (.ref 65), some (.int (nI jxa)), some (.int xb)], [.int 1, .ref 65], mz_up w 64 1 ((w 64 1) + 1))) rfl ?_
        refine mz_doPQ (R := mz_r127) (as := [.ref 65, .int 1]) (rest := []) (r1 := some (.int (-1000001))) (m1 := mz_up (mz_up w 64 1 ((w 64 1) + 1)) 68 1 ((w 68 1) + 1)) mz_t127 mz_v127_65 rfl rfl rfl rfl rfl ((ct_err1 (m := mz_up w 64 1 ((w 64 1) + 1))).deep (by decide)) ?_
        refine mz_retP (r := (some (.int ((-1000001))), mz_up (mz_up w 64 1 ((w 64 1) + 1)) 68 1 ((w 68 1) + 1))) rfl ⟨(-1000001), rfl, ?_, rfl⟩
        show sm_I (n + 1) (mz_up (mz_up w 64 1 ((w 64 1) + 1)) 68 1 ((w 68 1) + 1))
        exact sm_I_scr hn hI2 (fun i hi => by
          have hne : ∀ r, sm_scr r = true → i ≠ r := fun r hr e => by
            rw [e, hr] at hi
            cases hi
          simp only [mz_up_ne (hne 64 rfl), mz_up_ne (hne 68 rfl)]) rfl rfl
      · obtain ⟨jxb, hjxb, rfl⟩ := nI_of (sm_in_lo q5)
        have zxb0 : ¬ 6 < jxb := fun z => (sm_in_hi q5) ((nI_ltI (by decide) hjxb).mpr z)
        refine mz_goP 4 (c' := (8, [some (.ref 0), some (.int (nI jxa)), some (.int (nI jxb))], [.int (nI jxa), .ref 2], w)) rfl ?_
        refine mz_doPQ (R := mz_r21) (as := [.ref 2, .int (nI jxa)]) (rest := []) (r1 := some (.int 1)) (m1 := w) mz_t21 mz_v21_2 rfl rfl rfl rfl rfl ((cs_has hN (m := w) h4 (show jxa < N by omega)).deep (by decide)) ?_
        refine mz_goP 2 (c' := (15, [some (.ref 0), some (.int (nI jxa)), some (.int (nI jxb))], [.int (nI jxb)], w)) rfl ?_
        refine mz_doPQ (R := mz_r114) (as := [.int (nI jxb)]) (rest := []) (r1 := some (.int 1)) (m1 := w) mz_t114 mz_v114 rfl rfl rfl rfl rfl ⟨?_, rfl⟩ ?_
        · refine mz_go 3 (c' := (4, [some (.int (nI jxb))], [.int 6, .int 0, .int (nI jxb)], w)) rfl ?_
          refine mz_doQ (R := mz_r121) (as := [.int (nI jxb), .int 0, .int 6]) (rest := []) (r1 := some (.int 1)) (m1 := w) mz_t121 mz_v121 rfl rfl rfl rfl rfl ((cs_in1 (m := w) (v := nI jxb) (a := 0) (b := 6) (show ¬ ((nI jxb) < 0) from (sm_in_lo q5)) (show ¬ (6 < (nI jxb)) from (sm_in_hi q5))).deep (by decide)) ?_
          exact mz_ret rfl
        refine mz_goP 6 (c' := (38, [some (.ref 0), some (.int (nI jxa)), some (.int (nI jxb))], [.int (nI jxa), .ref 3], w)) rfl ?_
        refine mz_arrP (c' := (39, [some (.ref 0), some (.int (nI jxa)), some (.int (nI jxb))], [.int (w 3 ((nI jxa).toNatClampNeg))], w)) rfl (show mz_in (nI jxa) 6 = true from sm_inN rfl (show jxa < 6 by omega) (by decide)) ?_
        rw [show (nI jxa : Int32).toNatClampNeg = jxa from sm_clN rfl (show jxa < 2 ^ 31 by omega)]
        refine mz_goP 1 (c' := (40, [some (.ref 0), some (.int (nI jxa)), some (.int (nI jxb))], [.int (nI jxb), .int (w 3 jxa)], w)) rfl ?_
        refine mz_doPQ (R := mz_r115) (as := [.int (w 3 jxa), .int (nI jxb)]) (rest := []) (r1 := some (.int (sm_bI (sm_undr (w 3 jxa) (nI jxb))))) (m1 := w) mz_t115 mz_v115 rfl rfl rfl rfl rfl ((cs_undr (m := w) (hpb jxa (by omega)).1 (show jxb ≤ 6 by omega)).deep (by decide)) ?_
        refine mz_goP 1 (c' := (if (sm_bI (sm_undr (w 3 jxa) (nI jxb))) = 0 then 46 else 52, [some (.ref 0), some (.int (nI jxa)), some (.int (nI jxb))], [], w)) rfl ?_
        by_cases q6 : (sm_bI (sm_undr (w 3 jxa) (nI jxb))) = 0
        · refine mz_ifTP q6 ?_
          refine mz_goP 2 (c' := (48, [some (.ref 0), some (.int (nI jxa)), some (.int (nI jxb))], [.int 5, .ref 0], w)) rfl ?_
          refine mz_doPQ (R := mz_r109) (as := [.ref 0, .int 5]) (rest := []) (r1 := some (.int (-1000005))) (m1 := mz_up w 64 5 ((w 64 5) + 1)) mz_t109 mz_v109_0 rfl rfl rfl rfl rfl ((cs_err5 (m := w)).deep (by decide)) ?_
          refine mz_retP (r := (some (.int ((-1000005))), mz_up w 64 5 ((w 64 5) + 1))) rfl ⟨(-1000005), rfl, ?_⟩
          refine mz_goP 2 (c' := (2, [some (.ref 65), some (.int (nI jxa)), some (.int (nI jxb))], [.int (nI jxa), .ref 65], mz_up w 64 5 ((w 64 5) + 1))) rfl ?_
          refine mz_doPQ (R := mz_r132) (as := [.ref 65, .int (nI jxa)]) (rest := []) (r1 := some (.int 1)) (m1 := mz_up w 64 5 ((w 64 5) + 1)) mz_t132 mz_v132_65 rfl rfl rfl rfl rfl ⟨?_, rfl⟩ ?_
          · refine mz_go 6 (c' := (8, [some (.ref 65), some (.int (nI jxa))], [.int (w 66 0), .int 0, .int (nI jxa)], mz_up w 64 5 ((w 64 5) + 1))) rfl ?_
            rw [h660]
            refine mz_go 2 (c' := (10, [some (.ref 65), some (.int (nI jxa))], [.int ((nI N) - 1), .int 0, .int (nI jxa)], mz_up w 64 5 ((w 64 5) + 1))) rfl ?_
            refine mz_doQ (R := mz_r128) (as := [.int (nI jxa), .int 0, .int ((nI N) - 1)]) (rest := []) (r1 := some (.int 1)) (m1 := mz_up w 64 5 ((w 64 5) + 1)) mz_t128 mz_v128 rfl rfl rfl rfl rfl ((ct_in1 (m := mz_up w 64 5 ((w 64 5) + 1)) (v := nI jxa) (a := 0) (b := (nI N) - 1) q1 (show ¬ (((nI N) - 1) < (nI jxa)) from (sm_nltN (sm_subN (a := N) (b := 1) rfl rfl (by omega)) rfl (show jxa ≤ (N - 1) by omega) (show (N - 1) < 2 ^ 31 by omega)))).deep (by decide)) ?_
            exact mz_ret rfl
          refine mz_goP 4 (c' := (12, [some (.ref 65), some (.int (nI jxa)), some (.int (nI jxb))], [.int 6, .int 0, .int (nI jxb)], mz_up w 64 5 ((w 64 5) + 1))) rfl ?_
          refine mz_doPQ (R := mz_r128) (as := [.int (nI jxb), .int 0, .int 6]) (rest := []) (r1 := some (.int 1)) (m1 := mz_up w 64 5 ((w 64 5) + 1)) mz_t128 mz_v128 rfl rfl rfl rfl rfl ((ct_in1 (m := mz_up w 64 5 ((w 64 5) + 1)) (v := nI jxb) (a := 0) (b := 6) (show ¬ ((nI jxb) < 0) from (sm_in_lo q5)) (show ¬ (6 < (nI jxb)) from (sm_in_hi q5))).deep (by decide)) ?_
          refine mz_goP 4 (c' := (27, [some (.ref 65), some (.int (nI jxa)), some (.int (nI jxb))], [.int 0, .int (nI jxa), .ref 65], mz_up w 64 5 ((w 64 5) + 1))) rfl ?_
          refine mz_doPQ (R := mz_r133) (as := [.ref 65, .int (nI jxa), .int 0]) (rest := []) (r1 := some (.int (w 3 jxa))) (m1 := mz_up w 64 5 ((w 64 5) + 1)) mz_t133 mz_v133_65 rfl rfl rfl rfl rfl ⟨?_, rfl⟩ ?_
          · refine mz_go 9 (c' := (12, [some (.ref 65), some (.int (nI jxa)), some (.int 0)], [.int ((30 + (4 * (nI jxa))) + 0), .ref 66], mz_up w 64 5 ((w 64 5) + 1))) rfl ?_
            refine mz_arr (c' := (13, [some (.ref 65), some (.int (nI jxa)), some (.int 0)], [.int (w 66 (((30 + (4 * (nI jxa))) + 0).toNatClampNeg))], mz_up w 64 5 ((w 64 5) + 1))) rfl (show mz_in ((30 + (4 * (nI jxa))) + 0) 650 = true from sm_inN (sm_addN (sm_addN rfl (sm_mulN rfl rfl)) rfl) (show ((30 + (4 * jxa)) + 0) < 650 by omega) (by decide)) ?_
            rw [show ((30 + (4 * (nI jxa))) + 0 : Int32).toNatClampNeg = ((30 + (4 * jxa)) + 0) from sm_clN (sm_addN (sm_addN rfl (sm_mulN rfl rfl)) rfl) (show ((30 + (4 * jxa)) + 0) < 2 ^ 31 by omega)]
            rw [show w 66 ((30 + (4 * jxa)) + 0) = w 3 jxa from (hr2.2.1 jxa (by omega)).1]
            exact mz_ret rfl
          refine mz_goP 1 (c' := (31, [some (.ref 65), some (.int (nI jxa)), some (.int (nI jxb))], [.int (nI jxb), .int (w 3 jxa)], mz_up w 64 5 ((w 64 5) + 1))) rfl ?_
          refine mz_doPQ (R := mz_r134) (as := [.int (w 3 jxa), .int (nI jxb)]) (rest := []) (r1 := some (.int (sm_bI (sm_undr (w 3 jxa) (nI jxb))))) (m1 := mz_up w 64 5 ((w 64 5) + 1)) mz_t134 mz_v134 rfl rfl rfl rfl rfl ((ct_undr (m := mz_up w 64 5 ((w 64 5) + 1)) (hpb jxa (by omega)).1 (show jxb ≤ 6 by omega)).deep (by decide)) ?_
          refine mz_goP 1 (c' := (if (sm_bI (sm_undr (w 3 jxa) (nI jxb))) = 0 then 46 else 37, [some (.ref 65), some (.int (nI jxa)), some (.int (nI jxb))], [], mz_up w 64 5 ((w 64 5) + 1))) rfl ?_
          refine mz_ifTP q6 ?_
          refine mz_goP 2 (c' := (48, [some (.ref 65), some (.int (nI jxa)), some (.int (nI jxb))], [.int 5, .ref 65], mz_up w 64 5 ((w 64 5) + 1))) rfl ?_
          refine mz_doPQ (R := mz_r127) (as := [.ref 65, .int 5]) (rest := []) (r1 := some (.int (-1000005))) (m1 := mz_up (mz_up w 64 5 ((w 64 5) + 1)) 68 5 ((w 68 5) + 1)) mz_t127 mz_v127_65 rfl rfl rfl rfl rfl ((ct_err5 (m := mz_up w 64 5 ((w 64 5) + 1))).deep (by decide)) ?_
          refine mz_retP (r := (some (.int ((-1000005))), mz_up (mz_up w 64 5 ((w 64 5) + 1)) 68 5 ((w 68 5) + 1))) rfl ⟨(-1000005), rfl, ?_, rfl⟩
          show sm_I (n + 1) (mz_up (mz_up w 64 5 ((w 64 5) + 1)) 68 5 ((w 68 5) + 1))
          exact sm_I_scr hn hI2 (fun i hi => by
            have hne : ∀ r, sm_scr r = true → i ≠ r := fun r hr e => by
              rw [e, hr] at hi
              cases hi
            simp only [mz_up_ne (hne 64 rfl), mz_up_ne (hne 68 rfl)]) rfl rfl
        · refine mz_ifFP q6 ?_
          refine mz_goP 5 (c' := (63, [some (.ref 0), some (.int (nI jxa)), some (.int (nI jxb))], [.int (nI jxa), .ref 6], w)) rfl ?_
          refine mz_arrP (c' := (64, [some (.ref 0), some (.int (nI jxa)), some (.int (nI jxb))], [.int (w 6 ((nI jxa).toNatClampNeg))], w)) rfl (show mz_in (nI jxa) 6 = true from sm_inN rfl (show jxa < 6 by omega) (by decide)) ?_
          rw [show (nI jxa : Int32).toNatClampNeg = jxa from sm_clN rfl (show jxa < 2 ^ 31 by omega)]
          refine mz_retP (r := (some (.int (w 6 jxa)), w)) rfl ⟨w 6 jxa, rfl, ?_⟩
          refine mz_goP 2 (c' := (2, [some (.ref 65), some (.int (nI jxa)), some (.int (nI jxb))], [.int (nI jxa), .ref 65], w)) rfl ?_
          refine mz_doPQ (R := mz_r132) (as := [.ref 65, .int (nI jxa)]) (rest := []) (r1 := some (.int 1)) (m1 := w) mz_t132 mz_v132_65 rfl rfl rfl rfl rfl ⟨?_, rfl⟩ ?_
          · refine mz_go 6 (c' := (8, [some (.ref 65), some (.int (nI jxa))], [.int (w 66 0), .int 0, .int (nI jxa)], w)) rfl ?_
            rw [h660]
            refine mz_go 2 (c' := (10, [some (.ref 65), some (.int (nI jxa))], [.int ((nI N) - 1), .int 0, .int (nI jxa)], w)) rfl ?_
            refine mz_doQ (R := mz_r128) (as := [.int (nI jxa), .int 0, .int ((nI N) - 1)]) (rest := []) (r1 := some (.int 1)) (m1 := w) mz_t128 mz_v128 rfl rfl rfl rfl rfl ((ct_in1 (m := w) (v := nI jxa) (a := 0) (b := (nI N) - 1) q1 (show ¬ (((nI N) - 1) < (nI jxa)) from (sm_nltN (sm_subN (a := N) (b := 1) rfl rfl (by omega)) rfl (show jxa ≤ (N - 1) by omega) (show (N - 1) < 2 ^ 31 by omega)))).deep (by decide)) ?_
            exact mz_ret rfl
          refine mz_goP 4 (c' := (12, [some (.ref 65), some (.int (nI jxa)), some (.int (nI jxb))], [.int 6, .int 0, .int (nI jxb)], w)) rfl ?_
          refine mz_doPQ (R := mz_r128) (as := [.int (nI jxb), .int 0, .int 6]) (rest := []) (r1 := some (.int 1)) (m1 := w) mz_t128 mz_v128 rfl rfl rfl rfl rfl ((ct_in1 (m := w) (v := nI jxb) (a := 0) (b := 6) (show ¬ ((nI jxb) < 0) from (sm_in_lo q5)) (show ¬ (6 < (nI jxb)) from (sm_in_hi q5))).deep (by decide)) ?_
          refine mz_goP 4 (c' := (27, [some (.ref 65), some (.int (nI jxa)), some (.int (nI jxb))], [.int 0, .int (nI jxa), .ref 65], w)) rfl ?_
          refine mz_doPQ (R := mz_r133) (as := [.ref 65, .int (nI jxa), .int 0]) (rest := []) (r1 := some (.int (w 3 jxa))) (m1 := w) mz_t133 mz_v133_65 rfl rfl rfl rfl rfl ⟨?_, rfl⟩ ?_
          · refine mz_go 9 (c' := (12, [some (.ref 65), some (.int (nI jxa)), some (.int 0)], [.int ((30 + (4 * (nI jxa))) + 0), .ref 66], w)) rfl ?_
            refine mz_arr (c' := (13, [some (.ref 65), some (.int (nI jxa)), some (.int 0)], [.int (w 66 (((30 + (4 * (nI jxa))) + 0).toNatClampNeg))], w)) rfl (show mz_in ((30 + (4 * (nI jxa))) + 0) 650 = true from sm_inN (sm_addN (sm_addN rfl (sm_mulN rfl rfl)) rfl) (show ((30 + (4 * jxa)) + 0) < 650 by omega) (by decide)) ?_
            rw [show ((30 + (4 * (nI jxa))) + 0 : Int32).toNatClampNeg = ((30 + (4 * jxa)) + 0) from sm_clN (sm_addN (sm_addN rfl (sm_mulN rfl rfl)) rfl) (show ((30 + (4 * jxa)) + 0) < 2 ^ 31 by omega)]
            rw [show w 66 ((30 + (4 * jxa)) + 0) = w 3 jxa from (hr2.2.1 jxa (by omega)).1]
            exact mz_ret rfl
          refine mz_goP 1 (c' := (31, [some (.ref 65), some (.int (nI jxa)), some (.int (nI jxb))], [.int (nI jxb), .int (w 3 jxa)], w)) rfl ?_
          refine mz_doPQ (R := mz_r134) (as := [.int (w 3 jxa), .int (nI jxb)]) (rest := []) (r1 := some (.int (sm_bI (sm_undr (w 3 jxa) (nI jxb))))) (m1 := w) mz_t134 mz_v134 rfl rfl rfl rfl rfl ((ct_undr (m := w) (hpb jxa (by omega)).1 (show jxb ≤ 6 by omega)).deep (by decide)) ?_
          refine mz_goP 1 (c' := (if (sm_bI (sm_undr (w 3 jxa) (nI jxb))) = 0 then 46 else 37, [some (.ref 65), some (.int (nI jxa)), some (.int (nI jxb))], [], w)) rfl ?_
          refine mz_ifFP q6 ?_
          refine mz_goP 3 (c' := (40, [some (.ref 65), some (.int (nI jxa)), some (.int (nI jxb))], [.int 3, .int (nI jxa), .ref 65], w)) rfl ?_
          refine mz_doPQ (R := mz_r133) (as := [.ref 65, .int (nI jxa), .int 3]) (rest := []) (r1 := some (.int (w 6 jxa))) (m1 := w) mz_t133 mz_v133_65 rfl rfl rfl rfl rfl ⟨?_, rfl⟩ ?_
          · refine mz_go 9 (c' := (12, [some (.ref 65), some (.int (nI jxa)), some (.int 3)], [.int ((30 + (4 * (nI jxa))) + 3), .ref 66], w)) rfl ?_
            refine mz_arr (c' := (13, [some (.ref 65), some (.int (nI jxa)), some (.int 3)], [.int (w 66 (((30 + (4 * (nI jxa))) + 3).toNatClampNeg))], w)) rfl (show mz_in ((30 + (4 * (nI jxa))) + 3) 650 = true from sm_inN (sm_addN (sm_addN rfl (sm_mulN rfl rfl)) rfl) (show ((30 + (4 * jxa)) + 3) < 650 by omega) (by decide)) ?_
            rw [show ((30 + (4 * (nI jxa))) + 3 : Int32).toNatClampNeg = ((30 + (4 * jxa)) + 3) from sm_clN (sm_addN (sm_addN rfl (sm_mulN rfl rfl)) rfl) (show ((30 + (4 * jxa)) + 3) < 2 ^ 31 by omega)]
            rw [show w 66 ((30 + (4 * jxa)) + 3) = w 6 jxa from (hr2.2.1 jxa (by omega)).2.2.2]
            exact mz_ret rfl
          refine mz_goP 1 (c' := (51, [some (.ref 65), some (.int (nI jxa)), some (.int (nI jxb))], [.int (w 6 jxa)], w)) rfl ?_
          refine mz_retP (r := (some (.int (w 6 jxa)), w)) rfl ⟨w 6 jxa, rfl, ?_, rfl⟩
          show sm_I (n + 1) (w)
          exact sm_I_scr hn hI2 (fun _ _ => rfl) rfl rfl
set_option maxHeartbeats 4000000 in
set_option maxRecDepth 100000 in
theorem sc_nearest {n : Nat} (hn : n < 64) {w : mz_M} (hI : sm_I n w) (xa : Int32) (xb : Int32) (xc : Int32) : ∃ v1 v2 m1 m2, mz_Me 100 mz_r73 [.ref 0, .int xa, .int xb, .int xc] w (some (.int v1)) m1 ∧ mz_Me 100 mz_r157 [.ref 65, .int xa, .int xb, .int xc] m1 (some (.int v2)) m2 ∧ sm_I (n + 1) m2 ∧ v1 = v2 := by
  have hI2 := hI
  obtain ⟨hn0, ⟨-, ⟨hr80, hr5, hrr⟩, ⟨⟨TT, hTT, h81, h661⟩, htp⟩, ⟨⟨T0, hT0, hU0, hV0, -⟩, ⟨T1, hT1, hU1, hV1, -⟩, ⟨T2, hT2, hU2, hV2, -⟩⟩, ⟨hbx, hby, hbl⟩, ⟨⟨WW, HH, hWW, hHH, hWH, h202, h203, h6660, h6661⟩, h6662, h6663, h6664, hpc⟩, ⟨hth, h66160, hthr⟩, ⟨⟨AA, hAA, h111, h662⟩, h663, hwt⟩⟩, ⟨hsh, hsn⟩, ⟨hcb1, hcb2⟩, ⟨JJ, hJJ, h07, h652, hkept⟩⟩ := hI
  obtain ⟨N, hw, hr2, h660, -, -, h6615⟩ := sm_world hI2
  have hw2 := hw
  obtain ⟨hN, h4, hpb, -, -⟩ := hw2
  have hT60a := sm_T60 hV0
  have hT60b := sm_T60 hV1
  have hT60c := sm_T60 hV2
  obtain ⟨B1, hB1, e571⟩ := sm_Nof (by decide) hcb1
  obtain ⟨B2, hB2, e6519⟩ := sm_Nof (by decide) hcb2
  refine mz_two (fun _ => rfl) (fun _ => rfl) ?_
  by_cases q1 : (sm_bI (sm_plc xa xb)) = 0
  · refine mz_goP 2 (c' := (2, [some (.ref 0), some (.int xa), some (.int xb), some (.int xc), none], [.int xb, .int xa], w)) rfl ?_
    refine mz_doPQ (R := mz_r116) (as := [.int xa, .int xb]) (rest := []) (r1 := some (.int (sm_bI (sm_plc xa xb)))) (m1 := w) mz_t116 mz_v116 rfl rfl rfl rfl rfl ((cs_plc (m := w) xa xb).deep (by decide)) ?_
    refine mz_goP 1 (c' := (if (sm_bI (sm_plc xa xb)) = 0 then 17 else 8, [some (.ref 0), some (.int xa), some (.int xb), some (.int xc), none], [], w)) rfl ?_
    refine mz_ifTP q1 ?_
    refine mz_goP 2 (c' := (19, [some (.ref 0), some (.int xa), some (.int xb), some (.int xc), none], [.int 1, .ref 0], w)) rfl ?_
    refine mz_doPQ (R := mz_r109) (as := [.ref 0, .int 1]) (rest := []) (r1 := some (.int (-1000001))) (m1 := mz_up w 64 1 ((w 64 1) + 1)) mz_t109 mz_v109_0 rfl rfl rfl rfl rfl ((cs_err1 (m := w)).deep (by decide)) ?_
    refine mz_retP (r := (some (.int ((-1000001))), mz_up w 64 1 ((w 64 1) + 1))) rfl ⟨(-1000001), rfl, ?_⟩
    refine mz_goP 2 (c' := (2, [some (.ref 65), some (.int xa), some (.int xb), some (.int xc), none], [.int xb, .int xa], mz_up w 64 1 ((w 64 1) + 1))) rfl ?_
    refine mz_doPQ (R := mz_r131) (as := [.int xa, .int xb]) (rest := []) (r1 := some (.int (sm_bI (sm_plc xa xb)))) (m1 := mz_up w 64 1 ((w 64 1) + 1)) mz_t131 mz_v131 rfl rfl rfl rfl rfl ((ct_plc (m := mz_up w 64 1 ((w 64 1) + 1)) xa xb).deep (by decide)) ?_
    refine mz_goP 1 (c' := (if (sm_bI (sm_plc xa xb)) = 0 then 17 else 8, [some (.ref 65), some (.int xa), some (.int xb), some (.int xc), none], [], mz_up w 64 1 ((w 64 1) + 1))) rfl ?_
    refine mz_ifTP q1 ?_
    refine mz_goP 2 (c' := (19, [some (.ref 65), some (.int xa), some (.int xb), some (.int xc), none], [.int 1, .ref 65], mz_up w 64 1 ((w 64 1) + 1))) rfl ?_
    refine mz_doPQ (R := mz_r127) (as := [.ref 65, .int 1]) (rest := []) (r1 := some (.int (-1000001))) (m1 := mz_up (mz_up w 64 1 ((w 64 1) + 1)) 68 1 ((w 68 1) + 1)) mz_t127 mz_v127_65 rfl rfl rfl rfl rfl ((ct_err1 (m := mz_up w 64 1 ((w 64 1) + 1))).deep (by decide)) ?_
    refine mz_retP (r := (some (.int ((-1000001))), mz_up (mz_up w 64 1 ((w 64 1) + 1)) 68 1 ((w 68 1) + 1))) rfl ⟨(-1000001), rfl, ?_, rfl⟩
    show sm_I (n + 1) (mz_up (mz_up w 64 1 ((w 64 1) + 1)) 68 1 ((w 68 1) + 1))
    exact sm_I_scr hn hI2 (fun i hi => by
      have hne : ∀ r, sm_scr r = true → i ≠ r := fun r hr e => by
        rw [e, hr] at hi
        cases hi
      simp only [mz_up_ne (hne 64 rfl), mz_up_ne (hne 68 rfl)]) rfl rfl
  · by_cases q2 : (sm_bI (sm_in xc 0 1)) = 0
    · refine mz_goP 2 (c' := (2, [some (.ref 0), some (.int xa), some (.int xb), some (.int xc), none], [.int xb, .int xa], w)) rfl ?_
      refine mz_doPQ (R := mz_r116) (as := [.int xa, .int xb]) (rest := []) (r1 := some (.int 1)) (m1 := w) mz_t116 mz_v116 rfl rfl rfl rfl rfl ⟨?_, rfl⟩ ?_
      · refine mz_go 3 (c' := (5, [some (.int xa), some (.int xb)], [.int 100, .int (-100), .int xa], w)) rfl ?_
        refine mz_doQ (R := mz_r121) (as := [.int xa, .int (-100), .int 100]) (rest := []) (r1 := some (.int 1)) (m1 := w) mz_t121 mz_v121 rfl rfl rfl rfl rfl ((cs_in1 (m := w) (v := xa) (a := (-100)) (b := 100) (show ¬ (xa < (-100)) from (sm_plc_of q1).1.1) (show ¬ (100 < xa) from (sm_plc_of q1).1.2)).deep (by decide)) ?_
        refine mz_go 4 (c' := (16, [some (.int xa), some (.int xb)], [.int 100, .int (-100), .int xb], w)) rfl ?_
        refine mz_doQ (R := mz_r121) (as := [.int xb, .int (-100), .int 100]) (rest := []) (r1 := some (.int 1)) (m1 := w) mz_t121 mz_v121 rfl rfl rfl rfl rfl ((cs_in1 (m := w) (v := xb) (a := (-100)) (b := 100) (show ¬ (xb < (-100)) from (sm_plc_of q1).2.1) (show ¬ (100 < xb) from (sm_plc_of q1).2.2)).deep (by decide)) ?_
        refine mz_go 3 (c' := (27, [some (.int xa), some (.int xb)], [.int 1], w)) rfl ?_
        exact mz_ret rfl
      refine mz_goP 4 (c' := (11, [some (.ref 0), some (.int xa), some (.int xb), some (.int xc), none], [.int 1, .int 0, .int xc], w)) rfl ?_
      refine mz_doPQ (R := mz_r121) (as := [.int xc, .int 0, .int 1]) (rest := []) (r1 := some (.int (sm_bI (sm_in xc 0 1)))) (m1 := w) mz_t121 mz_v121 rfl rfl rfl rfl rfl ((cs_in (m := w) xc 0 1).deep (by decide)) ?_
      refine mz_goP 1 (c' := (if (sm_bI (sm_in xc 0 1)) = 0 then 17 else 23, [some (.ref 0), some (.int xa), some (.int xb), some (.int xc), none], [], w)) rfl ?_
      refine mz_ifTP q2 ?_
      refine mz_goP 2 (c' := (19, [some (.ref 0), some (.int xa), some (.int xb), some (.int xc), none], [.int 1, .ref 0], w)) rfl ?_
      refine mz_doPQ (R := mz_r109) (as := [.ref 0, .int 1]) (rest := []) (r1 := some (.int (-1000001))) (m1 := mz_up w 64 1 ((w 64 1) + 1)) mz_t109 mz_v109_0 rfl rfl rfl rfl rfl ((cs_err1 (m := w)).deep (by decide)) ?_
      refine mz_retP (r := (some (.int ((-1000001))), mz_up w 64 1 ((w 64 1) + 1))) rfl ⟨(-1000001), rfl, ?_⟩
      refine mz_goP 2 (c' := (2, [some (.ref 65), some (.int xa), some (.int xb), some (.int xc), none], [.int xb, .int xa], mz_up w 64 1 ((w 64 1) + 1))) rfl ?_
      refine mz_doPQ (R := mz_r131) (as := [.int xa, .int xb]) (rest := []) (r1 := some (.int 1)) (m1 := mz_up w 64 1 ((w 64 1) + 1)) mz_t131 mz_v131 rfl rfl rfl rfl rfl ⟨?_, rfl⟩ ?_
      · refine mz_go 3 (c' := (5, [some (.int xa), some (.int xb)], [.int 100, .int (-100), .int xa], mz_up w 64 1 ((w 64 1) + 1))) rfl ?_
        refine mz_doQ (R := mz_r128) (as := [.int xa, .int (-100), .int 100]) (rest := []) (r1 := some (.int 1)) (m1 := mz_up w 64 1 ((w 64 1) + 1)) mz_t128 mz_v128 rfl rfl rfl rfl rfl ((ct_in1 (m := mz_up w 64 1 ((w 64 1) + 1)) (v := xa) (a := (-100)) (b := 100) (show ¬ (xa < (-100)) from (sm_plc_of q1).1.1) (show ¬ (100 < xa) from (sm_plc_of q1).1.2)).deep (by decide)) ?_
        refine mz_go 4 (c' := (16, [some (.int xa), some (.int xb)], [.int 100, .int (-100), .int xb], mz_up w 64 1 ((w 64 1) + 1))) rfl ?_
        refine mz_doQ (R := mz_r128) (as := [.int xb, .int (-100), .int 100]) (rest := []) (r1 := some (.int 1)) (m1 := mz_up w 64 1 ((w 64 1) + 1)) mz_t128 mz_v128 rfl rfl rfl rfl rfl ((ct_in1 (m := mz_up w 64 1 ((w 64 1) + 1)) (v := xb) (a := (-100)) (b := 100) (show ¬ (xb < (-100)) from (sm_plc_of q1).2.1) (show ¬ (100 < xb) from (sm_plc_of q1).2.2)).deep (by decide)) ?_
        refine mz_go 3 (c' := (27, [some (.int xa), some (.int xb)], [.int 1], mz_up w 64 1 ((w 64 1) + 1))) rfl ?_
        exact mz_ret rfl
      refine mz_goP 4 (c' := (11, [some (.ref 65), some (.int xa), some (.int xb), some (.int xc), none], [.int 1, .int 0, .int xc], mz_up w 64 1 ((w 64 1) + 1))) rfl ?_
      refine mz_doPQ (R := mz_r128) (as := [.int xc, .int 0, .int 1]) (rest := []) (r1 := some (.int (sm_bI (sm_in xc 0 1)))) (m1 := mz_up w 64 1 ((w 64 1) + 1)) mz_t128 mz_v128 rfl rfl rfl rfl rfl ((ct_in (m := mz_up w 64 1 ((w 64 1) + 1)) xc 0 1).deep (by decide)) ?_
      refine mz_goP 1 (c' := (if (sm_bI (sm_in xc 0 1)) = 0 then 17 else 23, [some (.ref 65), some (.int xa), some (.int xb), some (.int xc), none], [], mz_up w 64 1 ((w 64 1) + 1))) rfl ?_
      refine mz_ifTP q2 ?_
      refine mz_goP 2 (c' := (19, [some (.ref 65), some (.int xa), some (.int xb), some (.int xc), none], [.int 1, .ref 65], mz_up w 64 1 ((w 64 1) + 1))) rfl ?_
      refine mz_doPQ (R := mz_r127) (as := [.ref 65, .int 1]) (rest := []) (r1 := some (.int (-1000001))) (m1 := mz_up (mz_up w 64 1 ((w 64 1) + 1)) 68 1 ((w 68 1) + 1)) mz_t127 mz_v127_65 rfl rfl rfl rfl rfl ((ct_err1 (m := mz_up w 64 1 ((w 64 1) + 1))).deep (by decide)) ?_
      refine mz_retP (r := (some (.int ((-1000001))), mz_up (mz_up w 64 1 ((w 64 1) + 1)) 68 1 ((w 68 1) + 1))) rfl ⟨(-1000001), rfl, ?_, rfl⟩
      show sm_I (n + 1) (mz_up (mz_up w 64 1 ((w 64 1) + 1)) 68 1 ((w 68 1) + 1))
      exact sm_I_scr hn hI2 (fun i hi => by
        have hne : ∀ r, sm_scr r = true → i ≠ r := fun r hr e => by
          rw [e, hr] at hi
          cases hi
        simp only [mz_up_ne (hne 64 rfl), mz_up_ne (hne 68 rfl)]) rfl rfl
    · by_cases q3 : 0 ≤ ((sm_near (w 3) (w 4) (w 5) (16 * xa) (16 * xb) false N).1)
      · by_cases q4 : xc = 0
        · subst q4
          refine mz_goP 2 (c' := (2, [some (.ref 0), some (.int xa), some (.int xb), some (.int 0), none], [.int xb, .int xa], w)) rfl ?_
          refine mz_doPQ (R := mz_r116) (as := [.int xa, .int xb]) (rest := []) (r1 := some (.int 1)) (m1 := w) mz_t116 mz_v116 rfl rfl rfl rfl rfl ⟨?_, rfl⟩ ?_
          · refine mz_go 3 (c' := (5, [some (.int xa), some (.int xb)], [.int 100, .int (-100), .int xa], w)) rfl ?_
            refine mz_doQ (R := mz_r121) (as := [.int xa, .int (-100), .int 100]) (rest := []) (r1 := some (.int 1)) (m1 := w) mz_t121 mz_v121 rfl rfl rfl rfl rfl ((cs_in1 (m := w) (v := xa) (a := (-100)) (b := 100) (show ¬ (xa < (-100)) from (sm_plc_of q1).1.1) (show ¬ (100 < xa) from (sm_plc_of q1).1.2)).deep (by decide)) ?_
            refine mz_go 4 (c' := (16, [some (.int xa), some (.int xb)], [.int 100, .int (-100), .int xb], w)) rfl ?_
            refine mz_doQ (R := mz_r121) (as := [.int xb, .int (-100), .int 100]) (rest := []) (r1 := some (.int 1)) (m1 := w) mz_t121 mz_v121 rfl rfl rfl rfl rfl ((cs_in1 (m := w) (v := xb) (a := (-100)) (b := 100) (show ¬ (xb < (-100)) from (sm_plc_of q1).2.1) (show ¬ (100 < xb) from (sm_plc_of q1).2.2)).deep (by decide)) ?_
            refine mz_go 3 (c' := (27, [some (.int xa), some (.int xb)], [.int 1], w)) rfl ?_
            exact mz_ret rfl
          refine mz_goP 4 (c' := (11, [some (.ref 0), some (.int xa), some (.int xb), some (.int 0), none], [.int 1, .int 0, .int 0], w)) rfl ?_
          refine mz_doPQ (R := mz_r121) (as := [.int 0, .int 0, .int 1]) (rest := []) (r1 := some (.int 1)) (m1 := w) mz_t121 mz_v121 rfl rfl rfl rfl rfl ((cs_in1 (m := w) (v := 0) (a := 0) (b := 1) (by decide) (by decide)).deep (by decide)) ?_
          refine mz_goP 7 (c' := (34, [some (.ref 0), some (.int xa), some (.int xb), some (.int 0), none], [.int (xa * 16), .ref 2], w)) rfl ?_
          rw [Int32.mul_comm xa 16]
          refine mz_goP 3 (c' := (38, [some (.ref 0), some (.int xa), some (.int xb), some (.int 0), none], [.int (xb * 16), .int (16 * xa), .ref 2], w)) rfl ?_
          rw [Int32.mul_comm xb 16]
          refine mz_goP 1 (c' := (39, [some (.ref 0), some (.int xa), some (.int xb), some (.int 0), none], [.int 0, .int (16 * xb), .int (16 * xa), .ref 2], w)) rfl ?_
          refine mz_doPQ (R := mz_r25) (as := [.ref 2, .int (16 * xa), .int (16 * xb), .int 0]) (rest := []) (r1 := some (.int ((sm_near (w 3) (w 4) (w 5) (16 * xa) (16 * xb) false N).1))) (m1 := w) mz_t25 mz_v25_2 rfl rfl rfl rfl rfl ((cs_near0 hN (m := w) h4 (16 * xa) (16 * xb)).deep (by decide)) ?_
          refine mz_goP 3 (c' := (if 0 ≤ ((sm_near (w 3) (w 4) (w 5) (16 * xa) (16 * xb) false N).1) then 55 else 49, [some (.ref 0), some (.int xa), some (.int xb), some (.int 0), some (.int ((sm_near (w 3) (w 4) (w 5) (16 * xa) (16 * xb) false N).1))], [], w)) rfl ?_
          refine mz_ifTP q3 ?_
          refine mz_goP 4 (c' := (84, [some (.ref 0), some (.int xa), some (.int xb), some (.int 0), some (.int ((sm_near (w 3) (w 4) (w 5) (16 * xa) (16 * xb) false N).1))], [.int ((sm_near (w 3) (w 4) (w 5) (16 * xa) (16 * xb) false N).1)], w)) rfl ?_
          refine mz_retP (r := (some (.int ((sm_near (w 3) (w 4) (w 5) (16 * xa) (16 * xb) false N).1)), w)) rfl ⟨(sm_near (w 3) (w 4) (w 5) (16 * xa) (16 * xb) false N).1, rfl, ?_⟩
          refine mz_goP 2 (c' := (2, [some (.ref 65), some (.int xa), some (.int xb), some (.int 0), none], [.int xb, .int xa], w)) rfl ?_
          refine mz_doPQ (R := mz_r131) (as := [.int xa, .int xb]) (rest := []) (r1 := some (.int 1)) (m1 := w) mz_t131 mz_v131 rfl rfl rfl rfl rfl ⟨?_, rfl⟩ ?_
          · refine mz_go 3 (c' := (5, [some (.int xa), some (.int xb)], [.int 100, .int (-100), .int xa], w)) rfl ?_
            refine mz_doQ (R := mz_r128) (as := [.int xa, .int (-100), .int 100]) (rest := []) (r1 := some (.int 1)) (m1 := w) mz_t128 mz_v128 rfl rfl rfl rfl rfl ((ct_in1 (m := w) (v := xa) (a := (-100)) (b := 100) (show ¬ (xa < (-100)) from (sm_plc_of q1).1.1) (show ¬ (100 < xa) from (sm_plc_of q1).1.2)).deep (by decide)) ?_
            refine mz_go 4 (c' := (16, [some (.int xa), some (.int xb)], [.int 100, .int (-100), .int xb], w)) rfl ?_
            refine mz_doQ (R := mz_r128) (as := [.int xb, .int (-100), .int 100]) (rest := []) (r1 := some (.int 1)) (m1 := w) mz_t128 mz_v128 rfl rfl rfl rfl rfl ((ct_in1 (m := w) (v := xb) (a := (-100)) (b := 100) (show ¬ (xb < (-100)) from (sm_plc_of q1).2.1) (show ¬ (100 < xb) from (sm_plc_of q1).2.2)).deep (by decide)) ?_
            refine mz_go 3 (c' := (27, [some (.int xa), some (.int xb)], [.int 1], w)) rfl ?_
            exact mz_ret rfl
          refine mz_goP 4 (c' := (11, [some (.ref 65), some (.int xa), some (.int xb), some (.int 0), none], [.int 1, .int 0, .int 0], w)) rfl ?_
          refine mz_doPQ (R := mz_r128) (as := [.int 0, .int 0, .int 1]) (rest := []) (r1 := some (.int 1)) (m1 := w) mz_t128 mz_v128 rfl rfl rfl rfl rfl ((ct_in1 (m := w) (v := 0) (a := 0) (b := 1) (by decide) (by decide)).deep (by decide)) ?_
          refine mz_goP 6 (c' := (28, [some (.ref 65), some (.int xa), some (.int xb), some (.int 0), none], [.int 0, .int 0, .int xb, .int xa, .ref 65], w)) rfl ?_
          refine mz_doPQ (R := mz_r144) (as := [.ref 65, .int xa, .int xb, .int 0, .int 0]) (rest := []) (r1 := none) (m1 := mz_up (mz_up (mz_up (mz_up (mz_up w 65 4 (16 * xa)) 65 5 (16 * xb)) 65 6 0) 65 7 0) 65 8 0) mz_t144 mz_v144_65 rfl rfl rfl rfl rfl ⟨?_, rfl⟩ ?_
          · refine mz_go 19 (c' := (32, [some (.ref 65), some (.int xa), some (.int xb), some (.int 0), some (.int 0)], [], mz_up (mz_up (mz_up (mz_up (mz_up w 65 4 (16 * xa)) 65 5 (16 * xb)) 65 6 0) 65 7 0) 65 8 0)) rfl ?_
            exact mz_ret rfl
          refine mz_goP 2 (c' := (33, [some (.ref 65), some (.int xa), some (.int xb), some (.int 0), none], [.int 1, .ref 65], mz_up (mz_up (mz_up (mz_up (mz_up w 65 4 (16 * xa)) 65 5 (16 * xb)) 65 6 0) 65 7 0) 65 8 0)) rfl ?_
          refine mz_doPQ (R := mz_r148) (as := [.ref 65, .int 1]) (rest := []) (r1 := some (.int ((sm_near (w 3) (w 4) (w 5) (16 * xa) (16 * xb) false N).1))) (m1 := mz_up (mz_up (mz_up (mz_up (mz_up w 65 4 (16 * xa)) 65 5 (16 * xb)) 65 6 0) 65 7 0) 65 8 0) mz_t148 mz_v148_65 rfl rfl rfl rfl rfl ((ct_nearx1 (w := w) (m := mz_up (mz_up (mz_up (mz_up (mz_up w 65 4 (16 * xa)) 65 5 (16 * xb)) 65 6 0) 65 7 0) 65 8 0) hw hr2 (x := (16 * xa)) (y := (16 * xb)) rfl rfl).deep (by decide)) ?_
          refine mz_goP 3 (c' := (if 0 ≤ ((sm_near (w 3) (w 4) (w 5) (16 * xa) (16 * xb) false N).1) then 51 else 43, [some (.ref 65), some (.int xa), some (.int xb), some (.int 0), some (.int ((sm_near (w 3) (w 4) (w 5) (16 * xa) (16 * xb) false N).1))], [], mz_up (mz_up (mz_up (mz_up (mz_up w 65 4 (16 * xa)) 65 5 (16 * xb)) 65 6 0) 65 7 0) 65 8 0)) rfl ?_
          refine mz_ifTP q3 ?_
          refine mz_goP 4 (c' := (66, [some (.ref 65), some (.int xa), some (.int xb), some (.int 0), some (.int ((sm_near (w 3) (w 4) (w 5) (16 * xa) (16 * xb) false N).1))], [.int ((sm_near (w 3) (w 4) (w 5) (16 * xa) (16 * xb) false N).1)], mz_up (mz_up (mz_up (mz_up (mz_up w 65 4 (16 * xa)) 65 5 (16 * xb)) 65 6 0) 65 7 0) 65 8 0)) rfl ?_
          refine mz_retP (r := (some (.int ((sm_near (w 3) (w 4) (w 5) (16 * xa) (16 * xb) false N).1)), mz_up (mz_up (mz_up (mz_up (mz_up w 65 4 (16 * xa)) 65 5 (16 * xb)) 65 6 0) 65 7 0) 65 8 0)) rfl ⟨(sm_near (w 3) (w 4) (w 5) (16 * xa) (16 * xb) false N).1, rfl, ?_, rfl⟩
          show sm_I (n + 1) (mz_up (mz_up (mz_up (mz_up (mz_up w 65 4 (16 * xa)) 65 5 (16 * xb)) 65 6 0) 65 7 0) 65 8 0)
          exact sm_I_scr hn hI2 (fun i hi => by
            have hne : ∀ r, sm_scr r = true → i ≠ r := fun r hr e => by
              rw [e, hr] at hi
              cases hi
            simp only [mz_up_ne (hne 65 rfl)]) rfl rfl
        · obtain ⟨jn5, hjn5, ejn5, fjn5⟩ := sm_near_pos (n := N) (by omega) (by have hl : (0 : Int) ≤ (((sm_near (w 3) (w 4) (w 5) (16 * xa) (16 * xb) false N).1)).toInt := Int32.le_iff_toInt_le.mp q3; exact Int32.not_lt.mpr (Int32.le_iff_toInt_le.mpr (show (0 : Int) ≤ (((sm_near (w 3) (w 4) (w 5) (16 * xa) (16 * xb) false N).1)).toInt by omega)))
          refine mz_goP 2 (c' := (2, [some (.ref 0), some (.int xa), some (.int xb), some (.int xc), none], [.int xb, .int xa], w)) rfl ?_
          refine mz_doPQ (R := mz_r116) (as := [.int xa, .int xb]) (rest := []) (r1 := some (.int 1)) (m1 := w) mz_t116 mz_v116 rfl rfl rfl rfl rfl ⟨?_, rfl⟩ ?_
          · refine mz_go 3 (c' := (5, [some (.int xa), some (.int xb)], [.int 100, .int (-100), .int xa], w)) rfl ?_
            refine mz_doQ (R := mz_r121) (as := [.int xa, .int (-100), .int 100]) (rest := []) (r1 := some (.int 1)) (m1 := w) mz_t121 mz_v121 rfl rfl rfl rfl rfl ((cs_in1 (m := w) (v := xa) (a := (-100)) (b := 100) (show ¬ (xa < (-100)) from (sm_plc_of q1).1.1) (show ¬ (100 < xa) from (sm_plc_of q1).1.2)).deep (by decide)) ?_
            refine mz_go 4 (c' := (16, [some (.int xa), some (.int xb)], [.int 100, .int (-100), .int xb], w)) rfl ?_
            refine mz_doQ (R := mz_r121) (as := [.int xb, .int (-100), .int 100]) (rest := []) (r1 := some (.int 1)) (m1 := w) mz_t121 mz_v121 rfl rfl rfl rfl rfl ((cs_in1 (m := w) (v := xb) (a := (-100)) (b := 100) (show ¬ (xb < (-100)) from (sm_plc_of q1).2.1) (show ¬ (100 < xb) from (sm_plc_of q1).2.2)).deep (by decide)) ?_
            refine mz_go 3 (c' := (27, [some (.int xa), some (.int xb)], [.int 1], w)) rfl ?_
            exact mz_ret rfl
          refine mz_goP 4 (c' := (11, [some (.ref 0), some (.int xa), some (.int xb), some (.int xc), none], [.int 1, .int 0, .int xc], w)) rfl ?_
          refine mz_doPQ (R := mz_r121) (as := [.int xc, .int 0, .int 1]) (rest := []) (r1 := some (.int 1)) (m1 := w) mz_t121 mz_v121 rfl rfl rfl rfl rfl ((cs_in1 (m := w) (v := xc) (a := 0) (b := 1) (show ¬ (xc < 0) from (sm_in_lo q2)) (show ¬ (1 < xc) from (sm_in_hi q2))).deep (by decide)) ?_
          refine mz_goP 7 (c' := (34, [some (.ref 0), some (.int xa), some (.int xb), some (.int xc), none], [.int (xa * 16), .ref 2], w)) rfl ?_
          rw [Int32.mul_comm xa 16]
          refine mz_goP 3 (c' := (38, [some (.ref 0), some (.int xa), some (.int xb), some (.int xc), none], [.int (xb * 16), .int (16 * xa), .ref 2], w)) rfl ?_
          rw [Int32.mul_comm xb 16]
          refine mz_goP 1 (c' := (39, [some (.ref 0), some (.int xa), some (.int xb), some (.int xc), none], [.int 0, .int (16 * xb), .int (16 * xa), .ref 2], w)) rfl ?_
          refine mz_doPQ (R := mz_r25) (as := [.ref 2, .int (16 * xa), .int (16 * xb), .int 0]) (rest := []) (r1 := some (.int ((sm_near (w 3) (w 4) (w 5) (16 * xa) (16 * xb) false N).1))) (m1 := w) mz_t25 mz_v25_2 rfl rfl rfl rfl rfl ((cs_near0 hN (m := w) h4 (16 * xa) (16 * xb)).deep (by decide)) ?_
          rw [ejn5]
          refine mz_goP 3 (c' := (if 0 ≤ (nI jn5) then 55 else 49, [some (.ref 0), some (.int xa), some (.int xb), some (.int xc), some (.int (nI jn5))], [], w)) rfl ?_
          refine mz_ifTP (show (0 ≤ (nI jn5)) from (sm_leN rfl rfl (show 0 ≤ jn5 by omega) (show jn5 < 2 ^ 31 by omega))) ?_
          refine mz_goP 2 (c' := (if xc = 0 then 59 else 64, [some (.ref 0), some (.int xa), some (.int xb), some (.int xc), some (.int (nI jn5))], [], w)) rfl ?_
          refine mz_ifFP q4 ?_
          refine mz_goP 7 (c' := (77, [some (.ref 0), some (.int xa), some (.int xb), some (.int xc), some (.int (nI jn5))], [.int (xa * 16), .int (nI jn5), .ref 2], w)) rfl ?_
          rw [Int32.mul_comm xa 16]
          refine mz_goP 3 (c' := (81, [some (.ref 0), some (.int xa), some (.int xb), some (.int xc), some (.int (nI jn5))], [.int (xb * 16), .int (16 * xa), .int (nI jn5), .ref 2], w)) rfl ?_
          rw [Int32.mul_comm xb 16]
          refine mz_doPQ (R := mz_r24) (as := [.ref 2, .int (nI jn5), .int (16 * xa), .int (16 * xb)]) (rest := []) (r1 := some (.int (sm_far (w 4 jn5) (w 5 jn5) (16 * xa) (16 * xb)))) (m1 := w) mz_t24 mz_v24_2 rfl rfl rfl rfl rfl ((cs_far hN (m := w) h4 (show jn5 < N by omega) (16 * xa) (16 * xb)).deep (by decide)) ?_
          refine mz_retP (r := (some (.int (sm_far (w 4 jn5) (w 5 jn5) (16 * xa) (16 * xb))), w)) rfl ⟨sm_far (w 4 jn5) (w 5 jn5) (16 * xa) (16 * xb), rfl, ?_⟩
          refine mz_goP 2 (c' := (2, [some (.ref 65), some (.int xa), some (.int xb), some (.int xc), none], [.int xb, .int xa], w)) rfl ?_
          refine mz_doPQ (R := mz_r131) (as := [.int xa, .int xb]) (rest := []) (r1 := some (.int 1)) (m1 := w) mz_t131 mz_v131 rfl rfl rfl rfl rfl ⟨?_, rfl⟩ ?_
          · refine mz_go 3 (c' := (5, [some (.int xa), some (.int xb)], [.int 100, .int (-100), .int xa], w)) rfl ?_
            refine mz_doQ (R := mz_r128) (as := [.int xa, .int (-100), .int 100]) (rest := []) (r1 := some (.int 1)) (m1 := w) mz_t128 mz_v128 rfl rfl rfl rfl rfl ((ct_in1 (m := w) (v := xa) (a := (-100)) (b := 100) (show ¬ (xa < (-100)) from (sm_plc_of q1).1.1) (show ¬ (100 < xa) from (sm_plc_of q1).1.2)).deep (by decide)) ?_
            refine mz_go 4 (c' := (16, [some (.int xa), some (.int xb)], [.int 100, .int (-100), .int xb], w)) rfl ?_
            refine mz_doQ (R := mz_r128) (as := [.int xb, .int (-100), .int 100]) (rest := []) (r1 := some (.int 1)) (m1 := w) mz_t128 mz_v128 rfl rfl rfl rfl rfl ((ct_in1 (m := w) (v := xb) (a := (-100)) (b := 100) (show ¬ (xb < (-100)) from (sm_plc_of q1).2.1) (show ¬ (100 < xb) from (sm_plc_of q1).2.2)).deep (by decide)) ?_
            refine mz_go 3 (c' := (27, [some (.int xa), some (.int xb)], [.int 1], w)) rfl ?_
            exact mz_ret rfl
          refine mz_goP 4 (c' := (11, [some (.ref 65), some (.int xa), some (.int xb), some (.int xc), none], [.int 1, .int 0, .int xc], w)) rfl ?_
          refine mz_doPQ (R := mz_r128) (as := [.int xc, .int 0, .int 1]) (rest := []) (r1 := some (.int 1)) (m1 := w) mz_t128 mz_v128 rfl rfl rfl rfl rfl ((ct_in1 (m := w) (v := xc) (a := 0) (b := 1) (show ¬ (xc < 0) from (sm_in_lo q2)) (show ¬ (1 < xc) from (sm_in_hi q2))).deep (by decide)) ?_
          refine mz_goP 6 (c' := (28, [some (.ref 65), some (.int xa), some (.int xb), some (.int xc), none], [.int 0, .int 0, .int xb, .int xa, .ref 65], w)) rfl ?_
          refine mz_doPQ (R := mz_r144) (as := [.ref 65, .int xa, .int xb, .int 0, .int 0]) (rest := []) (r1 := none) (m1 := mz_up (mz_up (mz_up (mz_up (mz_up w 65 4 (16 * xa)) 65 5 (16 * xb)) 65 6 0) 65 7 0) 65 8 0) mz_t144 mz_v144_65 rfl rfl rfl rfl rfl ⟨?_, rfl⟩ ?_
          · refine mz_go 19 (c' := (32, [some (.ref 65), some (.int xa), some (.int xb), some (.int 0), some (.int 0)], [], mz_up (mz_up (mz_up (mz_up (mz_up w 65 4 (16 * xa)) 65 5 (16 * xb)) 65 6 0) 65 7 0) 65 8 0)) rfl ?_
            exact mz_ret rfl
          refine mz_goP 2 (c' := (33, [some (.ref 65), some (.int xa), some (.int xb), some (.int xc), none], [.int 1, .ref 65], mz_up (mz_up (mz_up (mz_up (mz_up w 65 4 (16 * xa)) 65 5 (16 * xb)) 65 6 0) 65 7 0) 65 8 0)) rfl ?_
          refine mz_doPQ (R := mz_r148) (as := [.ref 65, .int 1]) (rest := []) (r1 := some (.int ((sm_near (w 3) (w 4) (w 5) (16 * xa) (16 * xb) false N).1))) (m1 := mz_up (mz_up (mz_up (mz_up (mz_up w 65 4 (16 * xa)) 65 5 (16 * xb)) 65 6 0) 65 7 0) 65 8 0) mz_t148 mz_v148_65 rfl rfl rfl rfl rfl ((ct_nearx1 (w := w) (m := mz_up (mz_up (mz_up (mz_up (mz_up w 65 4 (16 * xa)) 65 5 (16 * xb)) 65 6 0) 65 7 0) 65 8 0) hw hr2 (x := (16 * xa)) (y := (16 * xb)) rfl rfl).deep (by decide)) ?_
          rw [ejn5]
          refine mz_goP 3 (c' := (if 0 ≤ (nI jn5) then 51 else 43, [some (.ref 65), some (.int xa), some (.int xb), some (.int xc), some (.int (nI jn5))], [], mz_up (mz_up (mz_up (mz_up (mz_up w 65 4 (16 * xa)) 65 5 (16 * xb)) 65 6 0) 65 7 0) 65 8 0)) rfl ?_
          refine mz_ifTP (show (0 ≤ (nI jn5)) from (sm_leN rfl rfl (show 0 ≤ jn5 by omega) (show jn5 < 2 ^ 31 by omega))) ?_
          refine mz_goP 2 (c' := (if xc = 0 then 55 else 60, [some (.ref 65), some (.int xa), some (.int xb), some (.int xc), some (.int (nI jn5))], [], mz_up (mz_up (mz_up (mz_up (mz_up w 65 4 (16 * xa)) 65 5 (16 * xb)) 65 6 0) 65 7 0) 65 8 0)) rfl ?_
          refine mz_ifFP q4 ?_
          refine mz_goP 2 (c' := (63, [some (.ref 65), some (.int xa), some (.int xb), some (.int xc), some (.int (nI jn5))], [.int (nI jn5), .ref 65], mz_up (mz_up (mz_up (mz_up (mz_up w 65 4 (16 * xa)) 65 5 (16 * xb)) 65 6 0) 65 7 0) 65 8 0)) rfl ?_
          refine mz_doPQ (R := mz_r147) (as := [.ref 65, .int (nI jn5)]) (rest := []) (r1 := some (.int (sm_far (w 4 jn5) (w 5 jn5) (16 * xa) (16 * xb)))) (m1 := mz_up (mz_up (mz_up (mz_up (mz_up w 65 4 (16 * xa)) 65 5 (16 * xb)) 65 6 0) 65 7 0) 65 8 0) mz_t147 mz_v147_65 rfl rfl rfl rfl rfl ((ct_farx (w := w) (m := mz_up (mz_up (mz_up (mz_up (mz_up w 65 4 (16 * xa)) 65 5 (16 * xb)) 65 6 0) 65 7 0) 65 8 0) hr2 (show jn5 < 6 by omega) (x := (16 * xa)) (y := (16 * xb)) rfl rfl).deep (by decide)) ?_
          refine mz_retP (r := (some (.int (sm_far (w 4 jn5) (w 5 jn5) (16 * xa) (16 * xb))), mz_up (mz_up (mz_up (mz_up (mz_up w 65 4 (16 * xa)) 65 5 (16 * xb)) 65 6 0) 65 7 0) 65 8 0)) rfl ⟨sm_far (w 4 jn5) (w 5 jn5) (16 * xa) (16 * xb), rfl, ?_, rfl⟩
          show sm_I (n + 1) (mz_up (mz_up (mz_up (mz_up (mz_up w 65 4 (16 * xa)) 65 5 (16 * xb)) 65 6 0) 65 7 0) 65 8 0)
          exact sm_I_scr hn hI2 (fun i hi => by
            have hne : ∀ r, sm_scr r = true → i ≠ r := fun r hr e => by
              rw [e, hr] at hi
              cases hi
            simp only [mz_up_ne (hne 65 rfl)]) rfl rfl
      · refine mz_goP 2 (c' := (2, [some (.ref 0), some (.int xa), some (.int xb), some (.int xc), none], [.int xb, .int xa], w)) rfl ?_
        refine mz_doPQ (R := mz_r116) (as := [.int xa, .int xb]) (rest := []) (r1 := some (.int 1)) (m1 := w) mz_t116 mz_v116 rfl rfl rfl rfl rfl ⟨?_, rfl⟩ ?_
        · refine mz_go 3 (c' := (5, [some (.int xa), some (.int xb)], [.int 100, .int (-100), .int xa], w)) rfl ?_
          refine mz_doQ (R := mz_r121) (as := [.int xa, .int (-100), .int 100]) (rest := []) (r1 := some (.int 1)) (m1 := w) mz_t121 mz_v121 rfl rfl rfl rfl rfl ((cs_in1 (m := w) (v := xa) (a := (-100)) (b := 100) (show ¬ (xa < (-100)) from (sm_plc_of q1).1.1) (show ¬ (100 < xa) from (sm_plc_of q1).1.2)).deep (by decide)) ?_
          refine mz_go 4 (c' := (16, [some (.int xa), some (.int xb)], [.int 100, .int (-100), .int xb], w)) rfl ?_
          refine mz_doQ (R := mz_r121) (as := [.int xb, .int (-100), .int 100]) (rest := []) (r1 := some (.int 1)) (m1 := w) mz_t121 mz_v121 rfl rfl rfl rfl rfl ((cs_in1 (m := w) (v := xb) (a := (-100)) (b := 100) (show ¬ (xb < (-100)) from (sm_plc_of q1).2.1) (show ¬ (100 < xb) from (sm_plc_of q1).2.2)).deep (by decide)) ?_
          refine mz_go 3 (c' := (27, [some (.int xa), some (.int xb)], [.int 1], w)) rfl ?_
          exact mz_ret rfl
        refine mz_goP 4 (c' := (11, [some (.ref 0), some (.int xa), some (.int xb), some (.int xc), none], [.int 1, .int 0, .int xc], w)) rfl ?_
        refine mz_doPQ (R := mz_r121) (as := [.int xc, .int 0, .int 1]) (rest := []) (r1 := some (.int 1)) (m1 := w) mz_t121 mz_v121 rfl rfl rfl rfl rfl ((cs_in1 (m := w) (v := xc) (a := 0) (b := 1) (show ¬ (xc < 0) from (sm_in_lo q2)) (show ¬ (1 < xc) from (sm_in_hi q2))).deep (by decide)) ?_
        refine mz_goP 7 (c' := (34, [some (.ref 0), some (.int xa), some (.int xb), some (.int xc), none], [.int (xa * 16), .ref 2], w)) rfl ?_
        rw [Int32.mul_comm xa 16]
        refine mz_goP 3 (c' := (38, [some (.ref 0), some (.int xa), some (.int xb), some (.int xc), none], [.int (xb * 16), .int (16 * xa), .ref 2], w)) rfl ?_
        rw [Int32.mul_comm xb 16]
        refine mz_goP 1 (c' := (39, [some (.ref 0), some (.int xa), some (.int xb), some (.int xc), none], [.int 0, .int (16 * xb), .int (16 * xa), .ref 2], w)) rfl ?_
        refine mz_doPQ (R := mz_r25) (as := [.ref 2, .int (16 * xa), .int (16 * xb), .int 0]) (rest := []) (r1 := some (.int ((sm_near (w 3) (w 4) (w 5) (16 * xa) (16 * xb) false N).1))) (m1 := w) mz_t25 mz_v25_2 rfl rfl rfl rfl rfl ((cs_near0 hN (m := w) h4 (16 * xa) (16 * xb)).deep (by decide)) ?_
        refine mz_goP 3 (c' := (if 0 ≤ ((sm_near (w 3) (w 4) (w 5) (16 * xa) (16 * xb) false N).1) then 55 else 49, [some (.ref 0), some (.int xa), some (.int xb), some (.int xc), some (.int ((sm_near (w 3) (w 4) (w 5) (16 * xa) (16 * xb) false N).1))], [], w)) rfl ?_
        refine mz_ifFP q3 ?_
        refine mz_goP 2 (c' := (51, [some (.ref 0), some (.int xa), some (.int xb), some (.int xc), some (.int ((sm_near (w 3) (w 4) (w 5) (16 * xa) (16 * xb) false N).1))], [.int 2, .ref 0], w)) rfl ?_
        refine mz_doPQ (R := mz_r109) (as := [.ref 0, .int 2]) (rest := []) (r1 := some (.int (-1000002))) (m1 := mz_up w 64 2 ((w 64 2) + 1)) mz_t109 mz_v109_0 rfl rfl rfl rfl rfl ((cs_err2 (m := w)).deep (by decide)) ?_
        refine mz_retP (r := (some (.int ((-1000002))), mz_up w 64 2 ((w 64 2) + 1))) rfl ⟨(-1000002), rfl, ?_⟩
        refine mz_goP 2 (c' := (2, [some (.ref 65), some (.int xa), some (.int xb), some (.int xc), none], [.int xb, .int xa], mz_up w 64 2 ((w 64 2) + 1))) rfl ?_
        refine mz_doPQ (R := mz_r131) (as := [.int xa, .int xb]) (rest := []) (r1 := some (.int 1)) (m1 := mz_up w 64 2 ((w 64 2) + 1)) mz_t131 mz_v131 rfl rfl rfl rfl rfl ⟨?_, rfl⟩ ?_
        · refine mz_go 3 (c' := (5, [some (.int xa), some (.int xb)], [.int 100, .int (-100), .int xa], mz_up w 64 2 ((w 64 2) + 1))) rfl ?_
          refine mz_doQ (R := mz_r128) (as := [.int xa, .int (-100), .int 100]) (rest := []) (r1 := some (.int 1)) (m1 := mz_up w 64 2 ((w 64 2) + 1)) mz_t128 mz_v128 rfl rfl rfl rfl rfl ((ct_in1 (m := mz_up w 64 2 ((w 64 2) + 1)) (v := xa) (a := (-100)) (b := 100) (show ¬ (xa < (-100)) from (sm_plc_of q1).1.1) (show ¬ (100 < xa) from (sm_plc_of q1).1.2)).deep (by decide)) ?_
          refine mz_go 4 (c' := (16, [some (.int xa), some (.int xb)], [.int 100, .int (-100), .int xb], mz_up w 64 2 ((w 64 2) + 1))) rfl ?_
          refine mz_doQ (R := mz_r128) (as := [.int xb, .int (-100), .int 100]) (rest := []) (r1 := some (.int 1)) (m1 := mz_up w 64 2 ((w 64 2) + 1)) mz_t128 mz_v128 rfl rfl rfl rfl rfl ((ct_in1 (m := mz_up w 64 2 ((w 64 2) + 1)) (v := xb) (a := (-100)) (b := 100) (show ¬ (xb < (-100)) from (sm_plc_of q1).2.1) (show ¬ (100 < xb) from (sm_plc_of q1).2.2)).deep (by decide)) ?_
          refine mz_go 3 (c' := (27, [some (.int xa), some (.int xb)], [.int 1], mz_up w 64 2 ((w 64 2) + 1))) rfl ?_
          exact mz_ret rfl
        refine mz_goP 4 (c' := (11, [some (.ref 65), some (.int xa), some (.int xb), some (.int xc), none], [.int 1, .int 0, .int xc], mz_up w 64 2 ((w 64 2) + 1))) rfl ?_
        refine mz_doPQ (R := mz_r128) (as := [.int xc, .int 0, .int 1]) (rest := []) (r1 := some (.int 1)) (m1 := mz_up w 64 2 ((w 64 2) + 1)) mz_t128 mz_v128 rfl rfl rfl rfl rfl ((ct_in1 (m := mz_up w 64 2 ((w 64 2) + 1)) (v := xc) (a := 0) (b := 1) (show ¬ (xc < 0) from (sm_in_lo q2)) (show ¬ (1 < xc) from (sm_in_hi q2))).deep (by decide)) ?_
        refine mz_goP 6 (c' := (28, [some (.ref 65), some (.int xa), some (.int xb), some (.int xc), none], [.int 0, .int 0, .int xb, .int xa, .ref 65], mz_up w 64 2 ((w 64 2) + 1))) rfl ?_
        refine mz_doPQ (R := mz_r144) (as := [.ref 65, .int xa, .int xb, .int 0, .int 0]) (rest := []) (r1 := none) (m1 := mz_up (mz_up (mz_up (mz_up (mz_up (mz_up w 64 2 ((w 64 2) + 1)) 65 4 (16 * xa)) 65 5 (16 * xb)) 65 6 0) 65 7 0) 65 8 0) mz_t144 mz_v144_65 rfl rfl rfl rfl rfl ⟨?_, rfl⟩ ?_
        · refine mz_go 19 (c' := (32, [some (.ref 65), some (.int xa), some (.int xb), some (.int 0), some (.int 0)], [], mz_up (mz_up (mz_up (mz_up (mz_up (mz_up w 64 2 ((w 64 2) + 1)) 65 4 (16 * xa)) 65 5 (16 * xb)) 65 6 0) 65 7 0) 65 8 0)) rfl ?_
          exact mz_ret rfl
        refine mz_goP 2 (c' := (33, [some (.ref 65), some (.int xa), some (.int xb), some (.int xc), none], [.int 1, .ref 65], mz_up (mz_up (mz_up (mz_up (mz_up (mz_up w 64 2 ((w 64 2) + 1)) 65 4 (16 * xa)) 65 5 (16 * xb)) 65 6 0) 65 7 0) 65 8 0)) rfl ?_
        refine mz_doPQ (R := mz_r148) (as := [.ref 65, .int 1]) (rest := []) (r1 := some (.int ((sm_near (w 3) (w 4) (w 5) (16 * xa) (16 * xb) false N).1))) (m1 := mz_up (mz_up (mz_up (mz_up (mz_up (mz_up w 64 2 ((w 64 2) + 1)) 65 4 (16 * xa)) 65 5 (16 * xb)) 65 6 0) 65 7 0) 65 8 0) mz_t148 mz_v148_65 rfl rfl rfl rfl rfl ((ct_nearx1 (w := w) (m := mz_up (mz_up (mz_up (mz_up (mz_up (mz_up w 64 2 ((w 64 2) + 1)) 65 4 (16 * xa)) 65 5 (16 * xb)) 65 6 0) 65 7 0) 65 8 0) hw hr2 (x := (16 * xa)) (y := (16 * xb)) rfl rfl).deep (by decide)) ?_
        refine mz_goP 3 (c' := (if 0 ≤ ((sm_near (w 3) (w 4) (w 5) (16 * xa) (16 * xb) false N).1) then 51 else 43, [some (.ref 65), some (.int xa), some (.int xb), some (.int xc), some (.int ((sm_near (w 3) (w 4) (w 5) (16 * xa) (16 * xb) false N).1))], [], mz_up (mz_up (mz_up (mz_up (mz_up (mz_up w 64 2 ((w 64 2) + 1)) 65 4 (16 * xa)) 65 5 (16 * xb)) 65 6 0) 65 7 0) 65 8 0)) rfl ?_
        refine mz_ifFP q3 ?_
        refine mz_goP 2 (c' := (45, [some (.ref 65), some (.int xa), some (.int xb), some (.int xc), some (.int ((sm_near (w 3) (w 4) (w 5) (16 * xa) (16 * xb) false N).1))], [.int 2, .ref 65], mz_up (mz_up (mz_up (mz_up (mz_up (mz_up w 64 2 ((w 64 2) + 1)) 65 4 (16 * xa)) 65 5 (16 * xb)) 65 6 0) 65 7 0) 65 8 0)) rfl ?_
        refine mz_doPQ (R := mz_r127) (as := [.ref 65, .int 2]) (rest := []) (r1 := some (.int (-1000002))) (m1 := mz_up (mz_up (mz_up (mz_up (mz_up (mz_up (mz_up w 64 2 ((w 64 2) + 1)) 65 4 (16 * xa)) 65 5 (16 * xb)) 65 6 0) 65 7 0) 65 8 0) 68 2 ((w 68 2) + 1)) mz_t127 mz_v127_65 rfl rfl rfl rfl rfl ((ct_err2 (m := mz_up (mz_up (mz_up (mz_up (mz_up (mz_up w 64 2 ((w 64 2) + 1)) 65 4 (16 * xa)) 65 5 (16 * xb)) 65 6 0) 65 7 0) 65 8 0)).deep (by decide)) ?_
        refine mz_goP 1 (c' := (66, [some (.ref 65), some (.int xa), some (.int xb), some (.int xc), some (.int ((sm_near (w 3) (w 4) (w 5) (16 * xa) (16 * xb) false N).1))], [.int (-1000002)], mz_up (mz_up (mz_up (mz_up (mz_up (mz_up (mz_up w 64 2 ((w 64 2) + 1)) 65 4 (16 * xa)) 65 5 (16 * xb)) 65 6 0) 65 7 0) 65 8 0) 68 2 ((w 68 2) + 1))) rfl ?_
        refine mz_retP (r := (some (.int ((-1000002))), mz_up (mz_up (mz_up (mz_up (mz_up (mz_up (mz_up w 64 2 ((w 64 2) + 1)) 65 4 (16 * xa)) 65 5 (16 * xb)) 65 6 0) 65 7 0) 65 8 0) 68 2 ((w 68 2) + 1))) rfl ⟨(-1000002), rfl, ?_, rfl⟩
        show sm_I (n + 1) (mz_up (mz_up (mz_up (mz_up (mz_up (mz_up (mz_up w 64 2 ((w 64 2) + 1)) 65 4 (16 * xa)) 65 5 (16 * xb)) 65 6 0) 65 7 0) 65 8 0) 68 2 ((w 68 2) + 1))
        exact sm_I_scr hn hI2 (fun i hi => by
          have hne : ∀ r, sm_scr r = true → i ≠ r := fun r hr e => by
            rw [e, hr] at hi
            cases hi
          simp only [mz_up_ne (hne 64 rfl), mz_up_ne (hne 65 rfl), mz_up_ne (hne 68 rfl)]) rfl rfl
set_option maxHeartbeats 4000000 in
set_option maxRecDepth 100000 in
theorem sc_untell {n : Nat} (hn : n < 64) {w : mz_M} (hI : sm_I n w) (xa : Int32) : ∃ v1 v2 m1 m2, mz_Me 100 mz_r76 [.ref 0, .int xa] w (some (.int v1)) m1 ∧ mz_Me 100 mz_r171 [.ref 65, .int xa] m1 (some (.int v2)) m2 ∧ sm_I (n + 1) m2 ∧ v1 = v2 := by
  have hI2 := hI
  obtain ⟨hn0, ⟨-, ⟨hr80, hr5, hrr⟩, ⟨⟨TT, hTT, h81, h661⟩, htp⟩, ⟨⟨T0, hT0, hU0, hV0, -⟩, ⟨T1, hT1, hU1, hV1, -⟩, ⟨T2, hT2, hU2, hV2, -⟩⟩, ⟨hbx, hby, hbl⟩, ⟨⟨WW, HH, hWW, hHH, hWH, h202, h203, h6660, h6661⟩, h6662, h6663, h6664, hpc⟩, ⟨hth, h66160, hthr⟩, ⟨⟨AA, hAA, h111, h662⟩, h663, hwt⟩⟩, ⟨hsh, hsn⟩, ⟨hcb1, hcb2⟩, ⟨JJ, hJJ, h07, h652, hkept⟩⟩ := hI
  obtain ⟨N, hw, hr2, h660, -, -, h6615⟩ := sm_world hI2
  have hw2 := hw
  obtain ⟨hN, h4, hpb, -, -⟩ := hw2
  have hT60a := sm_T60 hV0
  have hT60b := sm_T60 hV1
  have hT60c := sm_T60 hV2
  obtain ⟨B1, hB1, e571⟩ := sm_Nof (by decide) hcb1
  obtain ⟨B2, hB2, e6519⟩ := sm_Nof (by decide) hcb2
  refine mz_two (fun _ => rfl) (fun _ => rfl) ?_
  by_cases q1 : (sm_bI (sm_in xa 0 2)) = 0
  · refine mz_goP 1 (c' := (1, [some (.ref 0), some (.int xa), none, none], [.int xa], w)) rfl ?_
    refine mz_doPQ (R := mz_r119) (as := [.int xa]) (rest := []) (r1 := some (.int (sm_bI (sm_in xa 0 2)))) (m1 := w) mz_t119 mz_v119 rfl rfl rfl rfl rfl ⟨?_, sm_fitB _⟩ ?_
    · refine mz_go 3 (c' := (3, [some (.int xa)], [.int 2, .int 0, .int xa], w)) rfl ?_
      refine mz_doQ (R := mz_r121) (as := [.int xa, .int 0, .int 2]) (rest := []) (r1 := some (.int (sm_bI (sm_in xa 0 2)))) (m1 := w) mz_t121 mz_v121 rfl rfl rfl rfl rfl ((cs_in (m := w) xa 0 2).deep (by decide)) ?_
      exact mz_ret rfl
    refine mz_goP 1 (c' := (if (sm_bI (sm_in xa 0 2)) = 0 then 7 else 13, [some (.ref 0), some (.int xa), none, none], [], w)) rfl ?_
    refine mz_ifTP q1 ?_
    refine mz_goP 2 (c' := (9, [some (.ref 0), some (.int xa), none, none], [.int 1, .ref 0], w)) rfl ?_
    refine mz_doPQ (R := mz_r109) (as := [.ref 0, .int 1]) (rest := []) (r1 := some (.int (-1000001))) (m1 := mz_up w 64 1 ((w 64 1) + 1)) mz_t109 mz_v109_0 rfl rfl rfl rfl rfl ((cs_err1 (m := w)).deep (by decide)) ?_
    refine mz_retP (r := (some (.int ((-1000001))), mz_up w 64 1 ((w 64 1) + 1))) rfl ⟨(-1000001), rfl, ?_⟩
    refine mz_goP 3 (c' := (3, [some (.ref 65), some (.int xa), none], [.int 2, .int 0, .int xa], mz_up w 64 1 ((w 64 1) + 1))) rfl ?_
    refine mz_doPQ (R := mz_r128) (as := [.int xa, .int 0, .int 2]) (rest := []) (r1 := some (.int (sm_bI (sm_in xa 0 2)))) (m1 := mz_up w 64 1 ((w 64 1) + 1)) mz_t128 mz_v128 rfl rfl rfl rfl rfl ((ct_in (m := mz_up w 64 1 ((w 64 1) + 1)) xa 0 2).deep (by decide)) ?_
    refine mz_goP 1 (c' := (if (sm_bI (sm_in xa 0 2)) = 0 then 9 else 15, [some (.ref 65), some (.int xa), none], [], mz_up w 64 1 ((w 64 1) + 1))) rfl ?_
    refine mz_ifTP q1 ?_
    refine mz_goP 2 (c' := (11, [some (.ref 65), some (.int xa), none], [.int 1, .ref 65], mz_up w 64 1 ((w 64 1) + 1))) rfl ?_
    refine mz_doPQ (R := mz_r127) (as := [.ref 65, .int 1]) (rest := []) (r1 := some (.int (-1000001))) (m1 := mz_up (mz_up w 64 1 ((w 64 1) + 1)) 68 1 ((w 68 1) + 1)) mz_t127 mz_v127_65 rfl rfl rfl rfl rfl ((ct_err1 (m := mz_up w 64 1 ((w 64 1) + 1))).deep (by decide)) ?_
    refine mz_retP (r := (some (.int ((-1000001))), mz_up (mz_up w 64 1 ((w 64 1) + 1)) 68 1 ((w 68 1) + 1))) rfl ⟨(-1000001), rfl, ?_, rfl⟩
    show sm_I (n + 1) (mz_up (mz_up w 64 1 ((w 64 1) + 1)) 68 1 ((w 68 1) + 1))
    exact sm_I_scr hn hI2 (fun i hi => by
      have hne : ∀ r, sm_scr r = true → i ≠ r := fun r hr e => by
        rw [e, hr] at hi
        cases hi
      simp only [mz_up_ne (hne 64 rfl), mz_up_ne (hne 68 rfl)]) rfl rfl
  · by_cases q2 : xa = 0
    · subst q2
      refine mz_goP 1 (c' := (1, [some (.ref 0), some (.int 0), none, none], [.int 0], w)) rfl ?_
      refine mz_doPQ (R := mz_r119) (as := [.int 0]) (rest := []) (r1 := some (.int 1)) (m1 := w) mz_t119 mz_v119 rfl rfl rfl rfl rfl ⟨?_, rfl⟩ ?_
      · refine mz_go 3 (c' := (3, [some (.int 0)], [.int 2, .int 0, .int 0], w)) rfl ?_
        refine mz_doQ (R := mz_r121) (as := [.int 0, .int 0, .int 2]) (rest := []) (r1 := some (.int 1)) (m1 := w) mz_t121 mz_v121 rfl rfl rfl rfl rfl ((cs_in1 (m := w) (v := 0) (a := 0) (b := 2) (by decide) (by decide)).deep (by decide)) ?_
        exact mz_ret rfl
      refine mz_goP 4 (c' := (18, [some (.ref 0), some (.int 0), none, none], [.int 0, .ref 1], w)) rfl ?_
      refine mz_doPQ (R := mz_r52) (as := [.ref 1, .int 0]) (rest := []) (r1 := some (.ref 10)) (m1 := w) mz_t52 mz_v52_1 rfl rfl rfl rfl rfl ⟨?_, rfl⟩ ?_
      · refine mz_go 5 (c' := (27, [some (.ref 1), some (.int 0)], [.ref 10], w)) rfl ?_
        exact mz_ret rfl
      refine mz_goP 3 (c' := (26, [some (.ref 0), some (.int 0), some (.ref 10), none], [.int (w 10 2)], w)) rfl ?_
      rw [hT0]
      refine mz_goP 1 (c' := (if (nI T0) ≤ 0 then 33 else 29, [some (.ref 0), some (.int 0), some (.ref 10), none], [], w)) rfl ?_
      by_cases q3 : T0 ≤ 0
      · refine mz_ifTP (show ((nI T0) ≤ 0) from (sm_leN rfl rfl (show T0 ≤ 0 by omega) (show 0 < 2 ^ 31 by omega))) ?_
        refine mz_goP 6 (c' := (41, [some (.ref 0), some (.int 0), some (.ref 10), some (.int 0)], [.int 0], mz_up w 10 2 0)) rfl ?_
        refine mz_retP (r := (some (.int (0)), mz_up w 10 2 0)) rfl ⟨0, rfl, ?_⟩
        refine mz_goP 3 (c' := (3, [some (.ref 65), some (.int 0), none], [.int 2, .int 0, .int 0], mz_up w 10 2 0)) rfl ?_
        refine mz_doPQ (R := mz_r128) (as := [.int 0, .int 0, .int 2]) (rest := []) (r1 := some (.int 1)) (m1 := mz_up w 10 2 0) mz_t128 mz_v128 rfl rfl rfl rfl rfl ((ct_in1 (m := mz_up w 10 2 0) (v := 0) (a := 0) (b := 2) (by decide) (by decide)).deep (by decide)) ?_
        refine mz_goP 3 (c' := (17, [some (.ref 65), some (.int 0), none], [.int 0, .ref 65], mz_up w 10 2 0)) rfl ?_
        refine mz_doPQ (R := mz_r169) (as := [.ref 65, .int 0]) (rest := []) (r1 := some (.int 0)) (m1 := mz_up w 10 2 0) mz_t169 mz_v169_65 rfl rfl rfl rfl rfl ⟨?_, rfl⟩ ?_
        · refine mz_go 8 (c' := (13, [some (.ref 65), some (.int 0)], [.int (w 66 170)], mz_up w 10 2 0)) rfl ?_
          rw [hU0]
          refine mz_go 1 (c' := (if (nI T0) ≤ 0 then 20 else 16, [some (.ref 65), some (.int 0)], [], mz_up w 10 2 0)) rfl ?_
          refine mz_ifT (show ((nI T0) ≤ 0) from (sm_leN rfl rfl (show T0 ≤ 0 by omega) (show 0 < 2 ^ 31 by omega))) ?_
          refine mz_go 1 (c' := (21, [some (.ref 65), some (.int 0)], [.int 0], mz_up w 10 2 0)) rfl ?_
          exact mz_ret rfl
        refine mz_goP 13 (c' := (44, [some (.ref 65), some (.int 0), some (.int 0)], [.int 0], mz_up (mz_up w 10 2 0) 66 170 0)) rfl ?_
        refine mz_retP (r := (some (.int (0)), mz_up (mz_up w 10 2 0) 66 170 0)) rfl ⟨0, rfl, ?_, rfl⟩
        show sm_I (n + 1) (mz_up (mz_up w 10 2 0) 66 170 0)
        obtain ⟨-, ⟨d1, d2, d3, ⟨d4, d4b, d4c⟩, d5, d6, d7, d8⟩, da, db, dc⟩ := hI2
        have hs : ∀ i, i ≠ 170 → (mz_up (mz_up w 10 2 0) 66 170 0) 66 i = w 66 i := fun i p0 => by rw [mz_up_eq, if_neg (by omega), mz_up_ne (show (66 : Nat) ≠ 10 by decide)]
        exact ⟨hn, ⟨sm_k1 (hs 0 (by omega)) (fun i h1 h2 => hs i (by omega)) d1, sm_k2 (fun i h1 h2 => hs i (by omega)) d2, sm_k3 (hs 1 (by omega)) (fun i h1 h2 => hs i (by omega)) d3, ⟨⟨0, rfl, rfl, Or.inl rfl, fun k hk => absurd hk (Nat.not_lt_zero k)⟩, sm_k4 (fun i h1 h2 => hs i (by omega)) d4b, sm_k4 (fun i h1 h2 => hs i (by omega)) d4c⟩, sm_k5 (fun i h1 h2 => hs i (by omega)) d5, sm_k6 (fun i h1 h2 => hs i (by omega)) d6, sm_k7 (fun i h1 h2 => hs i (by omega)) d7, sm_k8 (hs 2 (by omega)) (hs 3 (by omega)) (fun i h1 h2 => hs i (by omega)) d8⟩, da, db, sm_cc_of (fun i h1 h2 => by simp only [mz_up_ne (show i ≠ 10 by omega), mz_up_ne (show i ≠ 66 by omega)]) dc⟩
      · refine mz_ifFP (show ¬ ((nI T0) ≤ 0) from (sm_nleN rfl rfl (show 0 < T0 by omega) (show T0 < 2 ^ 31 by omega))) ?_
        refine mz_goP 7 (c' := (41, [some (.ref 0), some (.int 0), some (.ref 10), some (.int 1)], [.int 1], mz_up w 10 2 0)) rfl ?_
        refine mz_retP (r := (some (.int (1)), mz_up w 10 2 0)) rfl ⟨1, rfl, ?_⟩
        refine mz_goP 3 (c' := (3, [some (.ref 65), some (.int 0), none], [.int 2, .int 0, .int 0], mz_up w 10 2 0)) rfl ?_
        refine mz_doPQ (R := mz_r128) (as := [.int 0, .int 0, .int 2]) (rest := []) (r1 := some (.int 1)) (m1 := mz_up w 10 2 0) mz_t128 mz_v128 rfl rfl rfl rfl rfl ((ct_in1 (m := mz_up w 10 2 0) (v := 0) (a := 0) (b := 2) (by decide) (by decide)).deep (by decide)) ?_
        refine mz_goP 3 (c' := (17, [some (.ref 65), some (.int 0), none], [.int 0, .ref 65], mz_up w 10 2 0)) rfl ?_
        refine mz_doPQ (R := mz_r169) (as := [.ref 65, .int 0]) (rest := []) (r1 := some (.int 1)) (m1 := mz_up w 10 2 0) mz_t169 mz_v169_65 rfl rfl rfl rfl rfl ⟨?_, rfl⟩ ?_
        · refine mz_go 8 (c' := (13, [some (.ref 65), some (.int 0)], [.int (w 66 170)], mz_up w 10 2 0)) rfl ?_
          rw [hU0]
          refine mz_go 1 (c' := (if (nI T0) ≤ 0 then 20 else 16, [some (.ref 65), some (.int 0)], [], mz_up w 10 2 0)) rfl ?_
          refine mz_ifF (show ¬ ((nI T0) ≤ 0) from (sm_nleN rfl rfl (show 0 < T0 by omega) (show T0 < 2 ^ 31 by omega))) ?_
          refine mz_go 2 (c' := (21, [some (.ref 65), some (.int 0)], [.int 1], mz_up w 10 2 0)) rfl ?_
          exact mz_ret rfl
        refine mz_goP 14 (c' := (44, [some (.ref 65), some (.int 0), some (.int 1)], [.int 1], mz_up (mz_up w 10 2 0) 66 170 0)) rfl ?_
        refine mz_retP (r := (some (.int (1)), mz_up (mz_up w 10 2 0) 66 170 0)) rfl ⟨1, rfl, ?_, rfl⟩
        show sm_I (n + 1) (mz_up (mz_up w 10 2 0) 66 170 0)
        obtain ⟨-, ⟨d1, d2, d3, ⟨d4, d4b, d4c⟩, d5, d6, d7, d8⟩, da, db, dc⟩ := hI2
        have hs : ∀ i, i ≠ 170 → (mz_up (mz_up w 10 2 0) 66 170 0) 66 i = w 66 i := fun i p0 => by rw [mz_up_eq, if_neg (by omega), mz_up_ne (show (66 : Nat) ≠ 10 by decide)]
        exact ⟨hn, ⟨sm_k1 (hs 0 (by omega)) (fun i h1 h2 => hs i (by omega)) d1, sm_k2 (fun i h1 h2 => hs i (by omega)) d2, sm_k3 (hs 1 (by omega)) (fun i h1 h2 => hs i (by omega)) d3, ⟨⟨0, rfl, rfl, Or.inl rfl, fun k hk => absurd hk (Nat.not_lt_zero k)⟩, sm_k4 (fun i h1 h2 => hs i (by omega)) d4b, sm_k4 (fun i h1 h2 => hs i (by omega)) d4c⟩, sm_k5 (fun i h1 h2 => hs i (by omega)) d5, sm_k6 (fun i h1 h2 => hs i (by omega)) d6, sm_k7 (fun i h1 h2 => hs i (by omega)) d7, sm_k8 (hs 2 (by omega)) (hs 3 (by omega)) (fun i h1 h2 => hs i (by omega)) d8⟩, da, db, sm_cc_of (fun i h1 h2 => by simp only [mz_up_ne (show i ≠ 10 by omega), mz_up_ne (show i ≠ 66 by omega)]) dc⟩
    · by_cases q4 : xa = 1
      · subst q4
        refine mz_goP 1 (c' := (1, [some (.ref 0), some (.int 1), none, none], [.int 1], w)) rfl ?_
        refine mz_doPQ (R := mz_r119) (as := [.int 1]) (rest := []) (r1 := some (.int 1)) (m1 := w) mz_t119 mz_v119 rfl rfl rfl rfl rfl ⟨?_, rfl⟩ ?_
        · refine mz_go 3 (c' := (3, [some (.int 1)], [.int 2, .int 0, .int 1], w)) rfl ?_
          refine mz_doQ (R := mz_r121) (as := [.int 1, .int 0, .int 2]) (rest := []) (r1 := some (.int 1)) (m1 := w) mz_t121 mz_v121 rfl rfl rfl rfl rfl ((cs_in1 (m := w) (v := 1) (a := 0) (b := 2) (by decide) (by decide)).deep (by decide)) ?_
          exact mz_ret rfl
        refine mz_goP 4 (c' := (18, [some (.ref 0), some (.int 1), none, none], [.int 1, .ref 1], w)) rfl ?_
        refine mz_doPQ (R := mz_r52) (as := [.ref 1, .int 1]) (rest := []) (r1 := some (.ref 13)) (m1 := w) mz_t52 mz_v52_1 rfl rfl rfl rfl rfl ⟨?_, rfl⟩ ?_
        · refine mz_go 8 (c' := (27, [some (.ref 1), some (.int 1)], [.ref 13], w)) rfl ?_
          exact mz_ret rfl
        refine mz_goP 3 (c' := (26, [some (.ref 0), some (.int 1), some (.ref 13), none], [.int (w 13 2)], w)) rfl ?_
        rw [hT1]
        refine mz_goP 1 (c' := (if (nI T1) ≤ 0 then 33 else 29, [some (.ref 0), some (.int 1), some (.ref 13), none], [], w)) rfl ?_
        by_cases q5 : T1 ≤ 0
        · refine mz_ifTP (show ((nI T1) ≤ 0) from (sm_leN rfl rfl (show T1 ≤ 0 by omega) (show 0 < 2 ^ 31 by omega))) ?_
          refine mz_goP 6 (c' := (41, [some (.ref 0), some (.int 1), some (.ref 13), some (.int 0)], [.int 0], mz_up w 13 2 0)) rfl ?_
          refine mz_retP (r := (some (.int (0)), mz_up w 13 2 0)) rfl ⟨0, rfl, ?_⟩
          refine mz_goP 3 (c' := (3, [some (.ref 65), some (.int 1), none], [.int 2, .int 0, .int 1], mz_up w 13 2 0)) rfl ?_
          refine mz_doPQ (R := mz_r128) (as := [.int 1, .int 0, .int 2]) (rest := []) (r1 := some (.int 1)) (m1 := mz_up w 13 2 0) mz_t128 mz_v128 rfl rfl rfl rfl rfl ((ct_in1 (m := mz_up w 13 2 0) (v := 1) (a := 0) (b := 2) (by decide) (by decide)).deep (by decide)) ?_
          refine mz_goP 3 (c' := (17, [some (.ref 65), some (.int 1), none], [.int 1, .ref 65], mz_up w 13 2 0)) rfl ?_
          refine mz_doPQ (R := mz_r169) (as := [.ref 65, .int 1]) (rest := []) (r1 := some (.int 0)) (m1 := mz_up w 13 2 0) mz_t169 mz_v169_65 rfl rfl rfl rfl rfl ⟨?_, rfl⟩ ?_
          · refine mz_go 8 (c' := (13, [some (.ref 65), some (.int 1)], [.int (w 66 295)], mz_up w 13 2 0)) rfl ?_
            rw [hU1]
            refine mz_go 1 (c' := (if (nI T1) ≤ 0 then 20 else 16, [some (.ref 65), some (.int 1)], [], mz_up w 13 2 0)) rfl ?_
            refine mz_ifT (show ((nI T1) ≤ 0) from (sm_leN rfl rfl (show T1 ≤ 0 by omega) (show 0 < 2 ^ 31 by omega))) ?_
            refine mz_go 1 (c' := (21, [some (.ref 65), some (.int 1)], [.int 0], mz_up w 13 2 0)) rfl ?_
            exact mz_ret rfl
          refine mz_goP 13 (c' := (44, [some (.ref 65), some (.int 1), some (.int 0)], [.int 0], mz_up (mz_up w 13 2 0) 66 295 0)) rfl ?_
          refine mz_retP (r := (some (.int (0)), mz_up (mz_up w 13 2 0) 66 295 0)) rfl ⟨0, rfl, ?_, rfl⟩
          show sm_I (n + 1) (mz_up (mz_up w 13 2 0) 66 295 0)
          obtain ⟨-, ⟨d1, d2, d3, ⟨d4, d4b, d4c⟩, d5, d6, d7, d8⟩, da, db, dc⟩ := hI2
          have hs : ∀ i, i ≠ 295 → (mz_up (mz_up w 13 2 0) 66 295 0) 66 i = w 66 i := fun i p0 => by rw [mz_up_eq, if_neg (by omega), mz_up_ne (show (66 : Nat) ≠ 13 by decide)]
          exact ⟨hn, ⟨sm_k1 (hs 0 (by omega)) (fun i h1 h2 => hs i (by omega)) d1, sm_k2 (fun i h1 h2 => hs i (by omega)) d2, sm_k3 (hs 1 (by omega)) (fun i h1 h2 => hs i (by omega)) d3, ⟨sm_k4 (fun i h1 h2 => hs i (by omega)) d4, ⟨0, rfl, rfl, Or.inl rfl, fun k hk => absurd hk (Nat.not_lt_zero k)⟩, sm_k4 (fun i h1 h2 => hs i (by omega)) d4c⟩, sm_k5 (fun i h1 h2 => hs i (by omega)) d5, sm_k6 (fun i h1 h2 => hs i (by omega)) d6, sm_k7 (fun i h1 h2 => hs i (by omega)) d7, sm_k8 (hs 2 (by omega)) (hs 3 (by omega)) (fun i h1 h2 => hs i (by omega)) d8⟩, da, db, sm_cc_of (fun i h1 h2 => by simp only [mz_up_ne (show i ≠ 13 by omega), mz_up_ne (show i ≠ 66 by omega)]) dc⟩
        · refine mz_ifFP (show ¬ ((nI T1) ≤ 0) from (sm_nleN rfl rfl (show 0 < T1 by omega) (show T1 < 2 ^ 31 by omega))) ?_
          refine mz_goP 7 (c' := (41, [some (.ref 0), some (.int 1), some (.ref 13), some (.int 1)], [.int 1], mz_up w 13 2 0)) rfl ?_
          refine mz_retP (r := (some (.int (1)), mz_up w 13 2 0)) rfl ⟨1, rfl, ?_⟩
          refine mz_goP 3 (c' := (3, [some (.ref 65), some (.int 1), none], [.int 2, .int 0, .int 1], mz_up w 13 2 0)) rfl ?_
          refine mz_doPQ (R := mz_r128) (as := [.int 1, .int 0, .int 2]) (rest := []) (r1 := some (.int 1)) (m1 := mz_up w 13 2 0) mz_t128 mz_v128 rfl rfl rfl rfl rfl ((ct_in1 (m := mz_up w 13 2 0) (v := 1) (a := 0) (b := 2) (by decide) (by decide)).deep (by decide)) ?_
          refine mz_goP 3 (c' := (17, [some (.ref 65), some (.int 1), none], [.int 1, .ref 65], mz_up w 13 2 0)) rfl ?_
          refine mz_doPQ (R := mz_r169) (as := [.ref 65, .int 1]) (rest := []) (r1 := some (.int 1)) (m1 := mz_up w 13 2 0) mz_t169 mz_v169_65 rfl rfl rfl rfl rfl ⟨?_, rfl⟩ ?_
          · refine mz_go 8 (c' := (13, [some (.ref 65), some (.int 1)], [.int (w 66 295)], mz_up w 13 2 0)) rfl ?_
            rw [hU1]
            refine mz_go 1 (c' := (if (nI T1) ≤ 0 then 20 else 16, [some (.ref 65), some (.int 1)], [], mz_up w 13 2 0)) rfl ?_
            refine mz_ifF (show ¬ ((nI T1) ≤ 0) from (sm_nleN rfl rfl (show 0 < T1 by omega) (show T1 < 2 ^ 31 by omega))) ?_
            refine mz_go 2 (c' := (21, [some (.ref 65), some (.int 1)], [.int 1], mz_up w 13 2 0)) rfl ?_
            exact mz_ret rfl
          refine mz_goP 14 (c' := (44, [some (.ref 65), some (.int 1), some (.int 1)], [.int 1], mz_up (mz_up w 13 2 0) 66 295 0)) rfl ?_
          refine mz_retP (r := (some (.int (1)), mz_up (mz_up w 13 2 0) 66 295 0)) rfl ⟨1, rfl, ?_, rfl⟩
          show sm_I (n + 1) (mz_up (mz_up w 13 2 0) 66 295 0)
          obtain ⟨-, ⟨d1, d2, d3, ⟨d4, d4b, d4c⟩, d5, d6, d7, d8⟩, da, db, dc⟩ := hI2
          have hs : ∀ i, i ≠ 295 → (mz_up (mz_up w 13 2 0) 66 295 0) 66 i = w 66 i := fun i p0 => by rw [mz_up_eq, if_neg (by omega), mz_up_ne (show (66 : Nat) ≠ 13 by decide)]
          exact ⟨hn, ⟨sm_k1 (hs 0 (by omega)) (fun i h1 h2 => hs i (by omega)) d1, sm_k2 (fun i h1 h2 => hs i (by omega)) d2, sm_k3 (hs 1 (by omega)) (fun i h1 h2 => hs i (by omega)) d3, ⟨sm_k4 (fun i h1 h2 => hs i (by omega)) d4, ⟨0, rfl, rfl, Or.inl rfl, fun k hk => absurd hk (Nat.not_lt_zero k)⟩, sm_k4 (fun i h1 h2 => hs i (by omega)) d4c⟩, sm_k5 (fun i h1 h2 => hs i (by omega)) d5, sm_k6 (fun i h1 h2 => hs i (by omega)) d6, sm_k7 (fun i h1 h2 => hs i (by omega)) d7, sm_k8 (hs 2 (by omega)) (hs 3 (by omega)) (fun i h1 h2 => hs i (by omega)) d8⟩, da, db, sm_cc_of (fun i h1 h2 => by simp only [mz_up_ne (show i ≠ 13 by omega), mz_up_ne (show i ≠ 66 by omega)]) dc⟩
      · by_cases q6 : T2 ≤ 0
        · have hl7 : (0 : Int) ≤ (xa).toInt := Int32.le_iff_toInt_le.mp (Int32.not_lt.mp (sm_in_lo q1))
          have hu7 : (xa).toInt ≤ (2 : Int) := Int32.le_iff_toInt_le.mp (Int32.not_lt.mp (sm_in_hi q1))
          obtain rfl | rfl | rfl : xa = 0 ∨ xa = 1 ∨ xa = 2 := by
            rcases (show xa.toInt = 0 ∨ xa.toInt = 1 ∨ xa.toInt = 2 by omega) with h | h | h
            · exact (Or.inl (Int32.toInt_inj.mp h))
            · exact (Or.inr (Or.inl (Int32.toInt_inj.mp h)))
            · exact (Or.inr (Or.inr (Int32.toInt_inj.mp h)))
          · refine mz_goP 1 (c' := (1, [some (.ref 0), some (.int 0), none, none], [.int 0], w)) rfl ?_
            refine mz_doPQ (R := mz_r119) (as := [.int 0]) (rest := []) (r1 := some (.int 1)) (m1 := w) mz_t119 mz_v119 rfl rfl rfl rfl rfl ⟨?_, rfl⟩ ?_
            · refine mz_go 3 (c' := (3, [some (.int 0)], [.int 2, .int 0, .int 0], w)) rfl ?_
              refine mz_doQ (R := mz_r121) (as := [.int 0, .int 0, .int 2]) (rest := []) (r1 := some (.int 1)) (m1 := w) mz_t121 mz_v121 rfl rfl rfl rfl rfl ((cs_in1 (m := w) (v := 0) (a := 0) (b := 2) (by decide) (by decide)).deep (by decide)) ?_
              exact mz_ret rfl
            refine mz_goP 4 (c' := (18, [some (.ref 0), some (.int 0), none, none], [.int 0, .ref 1], w)) rfl ?_
            refine mz_doPQ (R := mz_r52) (as := [.ref 1, .int 0]) (rest := []) (r1 := some (.ref 10)) (m1 := w) mz_t52 mz_v52_1 rfl rfl rfl rfl rfl ⟨?_, rfl⟩ ?_
            · refine mz_go 5 (c' := (27, [some (.ref 1), some (.int 0)], [.ref 10], w)) rfl ?_
              exact mz_ret rfl
            refine mz_goP 3 (c' := (26, [some (.ref 0), some (.int 0), some (.ref 10), none], [.int (w 10 2)], w)) rfl ?_
            rw [hT0]
            refine mz_goP 1 (c' := (if (nI T0) ≤ 0 then 33 else 29, [some (.ref 0), some (.int 0), some (.ref 10), none], [], w)) rfl ?_
            by_cases q8 : T0 ≤ 0
            · refine mz_ifTP (show ((nI T0) ≤ 0) from (sm_leN rfl rfl (show T0 ≤ 0 by omega) (show 0 < 2 ^ 31 by omega))) ?_
              refine mz_goP 6 (c' := (41, [some (.ref 0), some (.int 0), some (.ref 10), some (.int 0)], [.int 0], mz_up w 10 2 0)) rfl ?_
              refine mz_retP (r := (some (.int (0)), mz_up w 10 2 0)) rfl ⟨0, rfl, ?_⟩
              refine mz_goP 3 (c' := (3, [some (.ref 65), some (.int 0), none], [.int 2, .int 0, .int 0], mz_up w 10 2 0)) rfl ?_
              refine mz_doPQ (R := mz_r128) (as := [.int 0, .int 0, .int 2]) (rest := []) (r1 := some (.int 1)) (m1 := mz_up w 10 2 0) mz_t128 mz_v128 rfl rfl rfl rfl rfl ((ct_in1 (m := mz_up w 10 2 0) (v := 0) (a := 0) (b := 2) (by decide) (by decide)).deep (by decide)) ?_
              refine mz_goP 3 (c' := (17, [some (.ref 65), some (.int 0), none], [.int 0, .ref 65], mz_up w 10 2 0)) rfl ?_
              refine mz_doPQ (R := mz_r169) (as := [.ref 65, .int 0]) (rest := []) (r1 := some (.int 0)) (m1 := mz_up w 10 2 0) mz_t169 mz_v169_65 rfl rfl rfl rfl rfl ⟨?_, rfl⟩ ?_
              · refine mz_go 8 (c' := (13, [some (.ref 65), some (.int 0)], [.int (w 66 170)], mz_up w 10 2 0)) rfl ?_
                rw [hU0]
                refine mz_go 1 (c' := (if (nI T0) ≤ 0 then 20 else 16, [some (.ref 65), some (.int 0)], [], mz_up w 10 2 0)) rfl ?_
                refine mz_ifT (show ((nI T0) ≤ 0) from (sm_leN rfl rfl (show T0 ≤ 0 by omega) (show 0 < 2 ^ 31 by omega))) ?_
                refine mz_go 1 (c' := (21, [some (.ref 65), some (.int 0)], [.int 0], mz_up w 10 2 0)) rfl ?_
                exact mz_ret rfl
              refine mz_goP 13 (c' := (44, [some (.ref 65), some (.int 0), some (.int 0)], [.int 0], mz_up (mz_up w 10 2 0) 66 170 0)) rfl ?_
              refine mz_retP (r := (some (.int (0)), mz_up (mz_up w 10 2 0) 66 170 0)) rfl ⟨0, rfl, ?_, rfl⟩
              show sm_I (n + 1) (mz_up (mz_up w 10 2 0) 66 170 0)
              obtain ⟨-, ⟨d1, d2, d3, ⟨d4, d4b, d4c⟩, d5, d6, d7, d8⟩, da, db, dc⟩ := hI2
              have hs : ∀ i, i ≠ 170 → (mz_up (mz_up w 10 2 0) 66 170 0) 66 i = w 66 i := fun i p0 => by rw [mz_up_eq, if_neg (by omega), mz_up_ne (show (66 : Nat) ≠ 10 by decide)]
              exact ⟨hn, ⟨sm_k1 (hs 0 (by omega)) (fun i h1 h2 => hs i (by omega)) d1, sm_k2 (fun i h1 h2 => hs i (by omega)) d2, sm_k3 (hs 1 (by omega)) (fun i h1 h2 => hs i (by omega)) d3, ⟨⟨0, rfl, rfl, Or.inl rfl, fun k hk => absurd hk (Nat.not_lt_zero k)⟩, sm_k4 (fun i h1 h2 => hs i (by omega)) d4b, sm_k4 (fun i h1 h2 => hs i (by omega)) d4c⟩, sm_k5 (fun i h1 h2 => hs i (by omega)) d5, sm_k6 (fun i h1 h2 => hs i (by omega)) d6, sm_k7 (fun i h1 h2 => hs i (by omega)) d7, sm_k8 (hs 2 (by omega)) (hs 3 (by omega)) (fun i h1 h2 => hs i (by omega)) d8⟩, da, db, sm_cc_of (fun i h1 h2 => by simp only [mz_up_ne (show i ≠ 10 by omega), mz_up_ne (show i ≠ 66 by omega)]) dc⟩
            · refine mz_ifFP (show ¬ ((nI T0) ≤ 0) from (sm_nleN rfl rfl (show 0 < T0 by omega) (show T0 < 2 ^ 31 by omega))) ?_
              refine mz_goP 7 (c' := (41, [some (.ref 0), some (.int 0), some (.ref 10), some (.int 1)], [.int 1], mz_up w 10 2 0)) rfl ?_
              refine mz_retP (r := (some (.int (1)), mz_up w 10 2 0)) rfl ⟨1, rfl, ?_⟩
              refine mz_goP 3 (c' := (3, [some (.ref 65), some (.int 0), none], [.int 2, .int 0, .int 0], mz_up w 10 2 0)) rfl ?_
              refine mz_doPQ (R := mz_r128) (as := [.int 0, .int 0, .int 2]) (rest := []) (r1 := some (.int 1)) (m1 := mz_up w 10 2 0) mz_t128 mz_v128 rfl rfl rfl rfl rfl ((ct_in1 (m := mz_up w 10 2 0) (v := 0) (a := 0) (b := 2) (by decide) (by decide)).deep (by decide)) ?_
              refine mz_goP 3 (c' := (17, [some (.ref 65), some (.int 0), none], [.int 0, .ref 65], mz_up w 10 2 0)) rfl ?_
              refine mz_doPQ (R := mz_r169) (as := [.ref 65, .int 0]) (rest := []) (r1 := some (.int 1)) (m1 := mz_up w 10 2 0) mz_t169 mz_v169_65 rfl rfl rfl rfl rfl ⟨?_, rfl⟩ ?_
              · refine mz_go 8 (c' := (13, [some (.ref 65), some (.int 0)], [.int (w 66 170)], mz_up w 10 2 0)) rfl ?_
                rw [hU0]
                refine mz_go 1 (c' := (if (nI T0) ≤ 0 then 20 else 16, [some (.ref 65), some (.int 0)], [], mz_up w 10 2 0)) rfl ?_
                refine mz_ifF (show ¬ ((nI T0) ≤ 0) from (sm_nleN rfl rfl (show 0 < T0 by omega) (show T0 < 2 ^ 31 by omega))) ?_
                refine mz_go 2 (c' := (21, [some (.ref 65), some (.int 0)], [.int 1], mz_up w 10 2 0)) rfl ?_
                exact mz_ret rfl
              refine mz_goP 14 (c' := (44, [some (.ref 65), some (.int 0), some (.int 1)], [.int 1], mz_up (mz_up w 10 2 0) 66 170 0)) rfl ?_
              refine mz_retP (r := (some (.int (1)), mz_up (mz_up w 10 2 0) 66 170 0)) rfl ⟨1, rfl, ?_, rfl⟩
              show sm_I (n + 1) (mz_up (mz_up w 10 2 0) 66 170 0)
              obtain ⟨-, ⟨d1, d2, d3, ⟨d4, d4b, d4c⟩, d5, d6, d7, d8⟩, da, db, dc⟩ := hI2
              have hs : ∀ i, i ≠ 170 → (mz_up (mz_up w 10 2 0) 66 170 0) 66 i = w 66 i := fun i p0 => by rw [mz_up_eq, if_neg (by omega), mz_up_ne (show (66 : Nat) ≠ 10 by decide)]
              exact ⟨hn, ⟨sm_k1 (hs 0 (by omega)) (fun i h1 h2 => hs i (by omega)) d1, sm_k2 (fun i h1 h2 => hs i (by omega)) d2, sm_k3 (hs 1 (by omega)) (fun i h1 h2 => hs i (by omega)) d3, ⟨⟨0, rfl, rfl, Or.inl rfl, fun k hk => absurd hk (Nat.not_lt_zero k)⟩, sm_k4 (fun i h1 h2 => hs i (by omega)) d4b, sm_k4 (fun i h1 h2 => hs i (by omega)) d4c⟩, sm_k5 (fun i h1 h2 => hs i (by omega)) d5, sm_k6 (fun i h1 h2 => hs i (by omega)) d6, sm_k7 (fun i h1 h2 => hs i (by omega)) d7, sm_k8 (hs 2 (by omega)) (hs 3 (by omega)) (fun i h1 h2 => hs i (by omega)) d8⟩, da, db, sm_cc_of (fun i h1 h2 => by simp only [mz_up_ne (show i ≠ 10 by omega), mz_up_ne (show i ≠ 66 by omega)]) dc⟩
          · refine mz_goP 1 (c' := (1, [some (.ref 0), some (.int 1), none, none], [.int 1], w)) rfl ?_
            refine mz_doPQ (R := mz_r119) (as := [.int 1]) (rest := []) (r1 := some (.int 1)) (m1 := w) mz_t119 mz_v119 rfl rfl rfl rfl rfl ⟨?_, rfl⟩ ?_
            · refine mz_go 3 (c' := (3, [some (.int 1)], [.int 2, .int 0, .int 1], w)) rfl ?_
              refine mz_doQ (R := mz_r121) (as := [.int 1, .int 0, .int 2]) (rest := []) (r1 := some (.int 1)) (m1 := w) mz_t121 mz_v121 rfl rfl rfl rfl rfl ((cs_in1 (m := w) (v := 1) (a := 0) (b := 2) (by decide) (by decide)).deep (by decide)) ?_
              exact mz_ret rfl
            refine mz_goP 4 (c' := (18, [some (.ref 0), some (.int 1), none, none], [.int 1, .ref 1], w)) rfl ?_
            refine mz_doPQ (R := mz_r52) (as := [.ref 1, .int 1]) (rest := []) (r1 := some (.ref 13)) (m1 := w) mz_t52 mz_v52_1 rfl rfl rfl rfl rfl ⟨?_, rfl⟩ ?_
            · refine mz_go 8 (c' := (27, [some (.ref 1), some (.int 1)], [.ref 13], w)) rfl ?_
              exact mz_ret rfl
            refine mz_goP 3 (c' := (26, [some (.ref 0), some (.int 1), some (.ref 13), none], [.int (w 13 2)], w)) rfl ?_
            rw [hT1]
            refine mz_goP 1 (c' := (if (nI T1) ≤ 0 then 33 else 29, [some (.ref 0), some (.int 1), some (.ref 13), none], [], w)) rfl ?_
            by_cases q9 : T1 ≤ 0
            · refine mz_ifTP (show ((nI T1) ≤ 0) from (sm_leN rfl rfl (show T1 ≤ 0 by omega) (show 0 < 2 ^ 31 by omega))) ?_
              refine mz_goP 6 (c' := (41, [some (.ref 0), some (.int 1), some (.ref 13), some (.int 0)], [.int 0], mz_up w 13 2 0)) rfl ?_
              refine mz_retP (r := (some (.int (0)), mz_up w 13 2 0)) rfl ⟨0, rfl, ?_⟩
              refine mz_goP 3 (c' := (3, [some (.ref 65), some (.int 1), none], [.int 2, .int 0, .int 1], mz_up w 13 2 0)) rfl ?_
              refine mz_doPQ (R := mz_r128) (as := [.int 1, .int 0, .int 2]) (rest := []) (r1 := some (.int 1)) (m1 := mz_up w 13 2 0) mz_t128 mz_v128 rfl rfl rfl rfl rfl ((ct_in1 (m := mz_up w 13 2 0) (v := 1) (a := 0) (b := 2) (by decide) (by decide)).deep (by decide)) ?_
              refine mz_goP 3 (c' := (17, [some (.ref 65), some (.int 1), none], [.int 1, .ref 65], mz_up w 13 2 0)) rfl ?_
              refine mz_doPQ (R := mz_r169) (as := [.ref 65, .int 1]) (rest := []) (r1 := some (.int 0)) (m1 := mz_up w 13 2 0) mz_t169 mz_v169_65 rfl rfl rfl rfl rfl ⟨?_, rfl⟩ ?_
              · refine mz_go 8 (c' := (13, [some (.ref 65), some (.int 1)], [.int (w 66 295)], mz_up w 13 2 0)) rfl ?_
                rw [hU1]
                refine mz_go 1 (c' := (if (nI T1) ≤ 0 then 20 else 16, [some (.ref 65), some (.int 1)], [], mz_up w 13 2 0)) rfl ?_
                refine mz_ifT (show ((nI T1) ≤ 0) from (sm_leN rfl rfl (show T1 ≤ 0 by omega) (show 0 < 2 ^ 31 by omega))) ?_
                refine mz_go 1 (c' := (21, [some (.ref 65), some (.int 1)], [.int 0], mz_up w 13 2 0)) rfl ?_
                exact mz_ret rfl
              refine mz_goP 13 (c' := (44, [some (.ref 65), some (.int 1), some (.int 0)], [.int 0], mz_up (mz_up w 13 2 0) 66 295 0)) rfl ?_
              refine mz_retP (r := (some (.int (0)), mz_up (mz_up w 13 2 0) 66 295 0)) rfl ⟨0, rfl, ?_, rfl⟩
              show sm_I (n + 1) (mz_up (mz_up w 13 2 0) 66 295 0)
              obtain ⟨-, ⟨d1, d2, d3, ⟨d4, d4b, d4c⟩, d5, d6, d7, d8⟩, da, db, dc⟩ := hI2
              have hs : ∀ i, i ≠ 295 → (mz_up (mz_up w 13 2 0) 66 295 0) 66 i = w 66 i := fun i p0 => by rw [mz_up_eq, if_neg (by omega), mz_up_ne (show (66 : Nat) ≠ 13 by decide)]
              exact ⟨hn, ⟨sm_k1 (hs 0 (by omega)) (fun i h1 h2 => hs i (by omega)) d1, sm_k2 (fun i h1 h2 => hs i (by omega)) d2, sm_k3 (hs 1 (by omega)) (fun i h1 h2 => hs i (by omega)) d3, ⟨sm_k4 (fun i h1 h2 => hs i (by omega)) d4, ⟨0, rfl, rfl, Or.inl rfl, fun k hk => absurd hk (Nat.not_lt_zero k)⟩, sm_k4 (fun i h1 h2 => hs i (by omega)) d4c⟩, sm_k5 (fun i h1 h2 => hs i (by omega)) d5, sm_k6 (fun i h1 h2 => hs i (by omega)) d6, sm_k7 (fun i h1 h2 => hs i (by omega)) d7, sm_k8 (hs 2 (by omega)) (hs 3 (by omega)) (fun i h1 h2 => hs i (by omega)) d8⟩, da, db, sm_cc_of (fun i h1 h2 => by simp only [mz_up_ne (show i ≠ 13 by omega), mz_up_ne (show i ≠ 66 by omega)]) dc⟩
            · refine mz_ifFP (show ¬ ((nI T1) ≤ 0) from (sm_nleN rfl rfl (show 0 < T1 by omega) (show T1 < 2 ^ 31 by omega))) ?_
              refine mz_goP 7 (c' := (41, [some (.ref 0), some (.int 1), some (.ref 13), some (.int 1)], [.int 1], mz_up w 13 2 0)) rfl ?_
              refine mz_retP (r := (some (.int (1)), mz_up w 13 2 0)) rfl ⟨1, rfl, ?_⟩
              refine mz_goP 3 (c' := (3, [some (.ref 65), some (.int 1), none], [.int 2, .int 0, .int 1], mz_up w 13 2 0)) rfl ?_
              refine mz_doPQ (R := mz_r128) (as := [.int 1, .int 0, .int 2]) (rest := []) (r1 := some (.int 1)) (m1 := mz_up w 13 2 0) mz_t128 mz_v128 rfl rfl rfl rfl rfl ((ct_in1 (m := mz_up w 13 2 0) (v := 1) (a := 0) (b := 2) (by decide) (by decide)).deep (by decide)) ?_
              refine mz_goP 3 (c' := (17, [some (.ref 65), some (.int 1), none], [.int 1, .ref 65], mz_up w 13 2 0)) rfl ?_
              refine mz_doPQ (R := mz_r169) (as := [.ref 65, .int 1]) (rest := []) (r1 := some (.int 1)) (m1 := mz_up w 13 2 0) mz_t169 mz_v169_65 rfl rfl rfl rfl rfl ⟨?_, rfl⟩ ?_
              · refine mz_go 8 (c' := (13, [some (.ref 65), some (.int 1)], [.int (w 66 295)], mz_up w 13 2 0)) rfl ?_
                rw [hU1]
                refine mz_go 1 (c' := (if (nI T1) ≤ 0 then 20 else 16, [some (.ref 65), some (.int 1)], [], mz_up w 13 2 0)) rfl ?_
                refine mz_ifF (show ¬ ((nI T1) ≤ 0) from (sm_nleN rfl rfl (show 0 < T1 by omega) (show T1 < 2 ^ 31 by omega))) ?_
                refine mz_go 2 (c' := (21, [some (.ref 65), some (.int 1)], [.int 1], mz_up w 13 2 0)) rfl ?_
                exact mz_ret rfl
              refine mz_goP 14 (c' := (44, [some (.ref 65), some (.int 1), some (.int 1)], [.int 1], mz_up (mz_up w 13 2 0) 66 295 0)) rfl ?_
              refine mz_retP (r := (some (.int (1)), mz_up (mz_up w 13 2 0) 66 295 0)) rfl ⟨1, rfl, ?_, rfl⟩
              show sm_I (n + 1) (mz_up (mz_up w 13 2 0) 66 295 0)
              obtain ⟨-, ⟨d1, d2, d3, ⟨d4, d4b, d4c⟩, d5, d6, d7, d8⟩, da, db, dc⟩ := hI2
              have hs : ∀ i, i ≠ 295 → (mz_up (mz_up w 13 2 0) 66 295 0) 66 i = w 66 i := fun i p0 => by rw [mz_up_eq, if_neg (by omega), mz_up_ne (show (66 : Nat) ≠ 13 by decide)]
              exact ⟨hn, ⟨sm_k1 (hs 0 (by omega)) (fun i h1 h2 => hs i (by omega)) d1, sm_k2 (fun i h1 h2 => hs i (by omega)) d2, sm_k3 (hs 1 (by omega)) (fun i h1 h2 => hs i (by omega)) d3, ⟨sm_k4 (fun i h1 h2 => hs i (by omega)) d4, ⟨0, rfl, rfl, Or.inl rfl, fun k hk => absurd hk (Nat.not_lt_zero k)⟩, sm_k4 (fun i h1 h2 => hs i (by omega)) d4c⟩, sm_k5 (fun i h1 h2 => hs i (by omega)) d5, sm_k6 (fun i h1 h2 => hs i (by omega)) d6, sm_k7 (fun i h1 h2 => hs i (by omega)) d7, sm_k8 (hs 2 (by omega)) (hs 3 (by omega)) (fun i h1 h2 => hs i (by omega)) d8⟩, da, db, sm_cc_of (fun i h1 h2 => by simp only [mz_up_ne (show i ≠ 13 by omega), mz_up_ne (show i ≠ 66 by omega)]) dc⟩
          · refine mz_goP 1 (c' := (1, [some (.ref 0), some (.int 2), none, none], [.int 2], w)) rfl ?_
            refine mz_doPQ (R := mz_r119) (as := [.int 2]) (rest := []) (r1 := some (.int 1)) (m1 := w) mz_t119 mz_v119 rfl rfl rfl rfl rfl ⟨?_, rfl⟩ ?_
            · refine mz_go 3 (c' := (3, [some (.int 2)], [.int 2, .int 0, .int 2], w)) rfl ?_
              refine mz_doQ (R := mz_r121) (as := [.int 2, .int 0, .int 2]) (rest := []) (r1 := some (.int 1)) (m1 := w) mz_t121 mz_v121 rfl rfl rfl rfl rfl ((cs_in1 (m := w) (v := 2) (a := 0) (b := 2) (by decide) (by decide)).deep (by decide)) ?_
              exact mz_ret rfl
            refine mz_goP 4 (c' := (18, [some (.ref 0), some (.int 2), none, none], [.int 2, .ref 1], w)) rfl ?_
            refine mz_doPQ (R := mz_r52) (as := [.ref 1, .int 2]) (rest := []) (r1 := some (.ref 16)) (m1 := w) mz_t52 mz_v52_1 rfl rfl rfl rfl rfl ⟨?_, rfl⟩ ?_
            · refine mz_go 7 (c' := (27, [some (.ref 1), some (.int 2)], [.ref 16], w)) rfl ?_
              exact mz_ret rfl
            refine mz_goP 3 (c' := (26, [some (.ref 0), some (.int 2), some (.ref 16), none], [.int (w 16 2)], w)) rfl ?_
            rw [hT2]
            refine mz_goP 1 (c' := (if (nI T2) ≤ 0 then 33 else 29, [some (.ref 0), some (.int 2), some (.ref 16), none], [], w)) rfl ?_
            refine mz_ifTP (show ((nI T2) ≤ 0) from (sm_leN rfl rfl (show T2 ≤ 0 by omega) (show 0 < 2 ^ 31 by omega))) ?_
            refine mz_goP 6 (c' := (41, [some (.ref 0), some (.int 2), some (.ref 16), some (.int 0)], [.int 0], mz_up w 16 2 0)) rfl ?_
            refine mz_retP (r := (some (.int (0)), mz_up w 16 2 0)) rfl ⟨0, rfl, ?_⟩
            refine mz_goP 3 (c' := (3, [some (.ref 65), some (.int 2), none], [.int 2, .int 0, .int 2], mz_up w 16 2 0)) rfl ?_
            refine mz_doPQ (R := mz_r128) (as := [.int 2, .int 0, .int 2]) (rest := []) (r1 := some (.int 1)) (m1 := mz_up w 16 2 0) mz_t128 mz_v128 rfl rfl rfl rfl rfl ((ct_in1 (m := mz_up w 16 2 0) (v := 2) (a := 0) (b := 2) (by decide) (by decide)).deep (by decide)) ?_
            refine mz_goP 3 (c' := (17, [some (.ref 65), some (.int 2), none], [.int 2, .ref 65], mz_up w 16 2 0)) rfl ?_
            refine mz_doPQ (R := mz_r169) (as := [.ref 65, .int 2]) (rest := []) (r1 := some (.int 0)) (m1 := mz_up w 16 2 0) mz_t169 mz_v169_65 rfl rfl rfl rfl rfl ⟨?_, rfl⟩ ?_
            · refine mz_go 8 (c' := (13, [some (.ref 65), some (.int 2)], [.int (w 66 420)], mz_up w 16 2 0)) rfl ?_
              rw [hU2]
              refine mz_go 1 (c' := (if (nI T2) ≤ 0 then 20 else 16, [some (.ref 65), some (.int 2)], [], mz_up w 16 2 0)) rfl ?_
              refine mz_ifT (show ((nI T2) ≤ 0) from (sm_leN rfl rfl (show T2 ≤ 0 by omega) (show 0 < 2 ^ 31 by omega))) ?_
              refine mz_go 1 (c' := (21, [some (.ref 65), some (.int 2)], [.int 0], mz_up w 16 2 0)) rfl ?_
              exact mz_ret rfl
            refine mz_goP 13 (c' := (44, [some (.ref 65), some (.int 2), some (.int 0)], [.int 0], mz_up (mz_up w 16 2 0) 66 420 0)) rfl ?_
            refine mz_retP (r := (some (.int (0)), mz_up (mz_up w 16 2 0) 66 420 0)) rfl ⟨0, rfl, ?_, rfl⟩
            show sm_I (n + 1) (mz_up (mz_up w 16 2 0) 66 420 0)
            obtain ⟨-, ⟨d1, d2, d3, ⟨d4, d4b, d4c⟩, d5, d6, d7, d8⟩, da, db, dc⟩ := hI2
            have hs : ∀ i, i ≠ 420 → (mz_up (mz_up w 16 2 0) 66 420 0) 66 i = w 66 i := fun i p0 => by rw [mz_up_eq, if_neg (by omega), mz_up_ne (show (66 : Nat) ≠ 16 by decide)]
            exact ⟨hn, ⟨sm_k1 (hs 0 (by omega)) (fun i h1 h2 => hs i (by omega)) d1, sm_k2 (fun i h1 h2 => hs i (by omega)) d2, sm_k3 (hs 1 (by omega)) (fun i h1 h2 => hs i (by omega)) d3, ⟨sm_k4 (fun i h1 h2 => hs i (by omega)) d4, sm_k4 (fun i h1 h2 => hs i (by omega)) d4b, ⟨0, rfl, rfl, Or.inl rfl, fun k hk => absurd hk (Nat.not_lt_zero k)⟩⟩, sm_k5 (fun i h1 h2 => hs i (by omega)) d5, sm_k6 (fun i h1 h2 => hs i (by omega)) d6, sm_k7 (fun i h1 h2 => hs i (by omega)) d7, sm_k8 (hs 2 (by omega)) (hs 3 (by omega)) (fun i h1 h2 => hs i (by omega)) d8⟩, da, db, sm_cc_of (fun i h1 h2 => by simp only [mz_up_ne (show i ≠ 16 by omega), mz_up_ne (show i ≠ 66 by omega)]) dc⟩
        · have hl10 : (0 : Int) ≤ (xa).toInt := Int32.le_iff_toInt_le.mp (Int32.not_lt.mp (sm_in_lo q1))
          have hu10 : (xa).toInt ≤ (2 : Int) := Int32.le_iff_toInt_le.mp (Int32.not_lt.mp (sm_in_hi q1))
          obtain rfl | rfl | rfl : xa = 0 ∨ xa = 1 ∨ xa = 2 := by
            rcases (show xa.toInt = 0 ∨ xa.toInt = 1 ∨ xa.toInt = 2 by omega) with h | h | h
            · exact (Or.inl (Int32.toInt_inj.mp h))
            · exact (Or.inr (Or.inl (Int32.toInt_inj.mp h)))
            · exact (Or.inr (Or.inr (Int32.toInt_inj.mp h)))
          · refine mz_goP 1 (c' := (1, [some (.ref 0), some (.int 0), none, none], [.int 0], w)) rfl ?_
            refine mz_doPQ (R := mz_r119) (as := [.int 0]) (rest := []) (r1 := some (.int 1)) (m1 := w) mz_t119 mz_v119 rfl rfl rfl rfl rfl ⟨?_, rfl⟩ ?_
            · refine mz_go 3 (c' := (3, [some (.int 0)], [.int 2, .int 0, .int 0], w)) rfl ?_
              refine mz_doQ (R := mz_r121) (as := [.int 0, .int 0, .int 2]) (rest := []) (r1 := some (.int 1)) (m1 := w) mz_t121 mz_v121 rfl rfl rfl rfl rfl ((cs_in1 (m := w) (v := 0) (a := 0) (b := 2) (by decide) (by decide)).deep (by decide)) ?_
              exact mz_ret rfl
            refine mz_goP 4 (c' := (18, [some (.ref 0), some (.int 0), none, none], [.int 0, .ref 1], w)) rfl ?_
            refine mz_doPQ (R := mz_r52) (as := [.ref 1, .int 0]) (rest := []) (r1 := some (.ref 10)) (m1 := w) mz_t52 mz_v52_1 rfl rfl rfl rfl rfl ⟨?_, rfl⟩ ?_
            · refine mz_go 5 (c' := (27, [some (.ref 1), some (.int 0)], [.ref 10], w)) rfl ?_
              exact mz_ret rfl
            refine mz_goP 3 (c' := (26, [some (.ref 0), some (.int 0), some (.ref 10), none], [.int (w 10 2)], w)) rfl ?_
            rw [hT0]
            refine mz_goP 1 (c' := (if (nI T0) ≤ 0 then 33 else 29, [some (.ref 0), some (.int 0), some (.ref 10), none], [], w)) rfl ?_
            by_cases q11 : T0 ≤ 0
            · refine mz_ifTP (show ((nI T0) ≤ 0) from (sm_leN rfl rfl (show T0 ≤ 0 by omega) (show 0 < 2 ^ 31 by omega))) ?_
              refine mz_goP 6 (c' := (41, [some (.ref 0), some (.int 0), some (.ref 10), some (.int 0)], [.int 0], mz_up w 10 2 0)) rfl ?_
              refine mz_retP (r := (some (.int (0)), mz_up w 10 2 0)) rfl ⟨0, rfl, ?_⟩
              refine mz_goP 3 (c' := (3, [some (.ref 65), some (.int 0), none], [.int 2, .int 0, .int 0], mz_up w 10 2 0)) rfl ?_
              refine mz_doPQ (R := mz_r128) (as := [.int 0, .int 0, .int 2]) (rest := []) (r1 := some (.int 1)) (m1 := mz_up w 10 2 0) mz_t128 mz_v128 rfl rfl rfl rfl rfl ((ct_in1 (m := mz_up w 10 2 0) (v := 0) (a := 0) (b := 2) (by decide) (by decide)).deep (by decide)) ?_
              refine mz_goP 3 (c' := (17, [some (.ref 65), some (.int 0), none], [.int 0, .ref 65], mz_up w 10 2 0)) rfl ?_
              refine mz_doPQ (R := mz_r169) (as := [.ref 65, .int 0]) (rest := []) (r1 := some (.int 0)) (m1 := mz_up w 10 2 0) mz_t169 mz_v169_65 rfl rfl rfl rfl rfl ⟨?_, rfl⟩ ?_
              · refine mz_go 8 (c' := (13, [some (.ref 65), some (.int 0)], [.int (w 66 170)], mz_up w 10 2 0)) rfl ?_
                rw [hU0]
                refine mz_go 1 (c' := (if (nI T0) ≤ 0 then 20 else 16, [some (.ref 65), some (.int 0)], [], mz_up w 10 2 0)) rfl ?_
                refine mz_ifT (show ((nI T0) ≤ 0) from (sm_leN rfl rfl (show T0 ≤ 0 by omega) (show 0 < 2 ^ 31 by omega))) ?_
                refine mz_go 1 (c' := (21, [some (.ref 65), some (.int 0)], [.int 0], mz_up w 10 2 0)) rfl ?_
                exact mz_ret rfl
              refine mz_goP 13 (c' := (44, [some (.ref 65), some (.int 0), some (.int 0)], [.int 0], mz_up (mz_up w 10 2 0) 66 170 0)) rfl ?_
              refine mz_retP (r := (some (.int (0)), mz_up (mz_up w 10 2 0) 66 170 0)) rfl ⟨0, rfl, ?_, rfl⟩
              show sm_I (n + 1) (mz_up (mz_up w 10 2 0) 66 170 0)
              obtain ⟨-, ⟨d1, d2, d3, ⟨d4, d4b, d4c⟩, d5, d6, d7, d8⟩, da, db, dc⟩ := hI2
              have hs : ∀ i, i ≠ 170 → (mz_up (mz_up w 10 2 0) 66 170 0) 66 i = w 66 i := fun i p0 => by rw [mz_up_eq, if_neg (by omega), mz_up_ne (show (66 : Nat) ≠ 10 by decide)]
              exact ⟨hn, ⟨sm_k1 (hs 0 (by omega)) (fun i h1 h2 => hs i (by omega)) d1, sm_k2 (fun i h1 h2 => hs i (by omega)) d2, sm_k3 (hs 1 (by omega)) (fun i h1 h2 => hs i (by omega)) d3, ⟨⟨0, rfl, rfl, Or.inl rfl, fun k hk => absurd hk (Nat.not_lt_zero k)⟩, sm_k4 (fun i h1 h2 => hs i (by omega)) d4b, sm_k4 (fun i h1 h2 => hs i (by omega)) d4c⟩, sm_k5 (fun i h1 h2 => hs i (by omega)) d5, sm_k6 (fun i h1 h2 => hs i (by omega)) d6, sm_k7 (fun i h1 h2 => hs i (by omega)) d7, sm_k8 (hs 2 (by omega)) (hs 3 (by omega)) (fun i h1 h2 => hs i (by omega)) d8⟩, da, db, sm_cc_of (fun i h1 h2 => by simp only [mz_up_ne (show i ≠ 10 by omega), mz_up_ne (show i ≠ 66 by omega)]) dc⟩
            · refine mz_ifFP (show ¬ ((nI T0) ≤ 0) from (sm_nleN rfl rfl (show 0 < T0 by omega) (show T0 < 2 ^ 31 by omega))) ?_
              refine mz_goP 7 (c' := (41, [some (.ref 0), some (.int 0), some (.ref 10), some (.int 1)], [.int 1], mz_up w 10 2 0)) rfl ?_
              refine mz_retP (r := (some (.int (1)), mz_up w 10 2 0)) rfl ⟨1, rfl, ?_⟩
              refine mz_goP 3 (c' := (3, [some (.ref 65), some (.int 0), none], [.int 2, .int 0, .int 0], mz_up w 10 2 0)) rfl ?_
              refine mz_doPQ (R := mz_r128) (as := [.int 0, .int 0, .int 2]) (rest := []) (r1 := some (.int 1)) (m1 := mz_up w 10 2 0) mz_t128 mz_v128 rfl rfl rfl rfl rfl ((ct_in1 (m := mz_up w 10 2 0) (v := 0) (a := 0) (b := 2) (by decide) (by decide)).deep (by decide)) ?_
              refine mz_goP 3 (c' := (17, [some (.ref 65), some (.int 0), none], [.int 0, .ref 65], mz_up w 10 2 0)) rfl ?_
              refine mz_doPQ (R := mz_r169) (as := [.ref 65, .int 0]) (rest := []) (r1 := some (.int 1)) (m1 := mz_up w 10 2 0) mz_t169 mz_v169_65 rfl rfl rfl rfl rfl ⟨?_, rfl⟩ ?_
              · refine mz_go 8 (c' := (13, [some (.ref 65), some (.int 0)], [.int (w 66 170)], mz_up w 10 2 0)) rfl ?_
                rw [hU0]
                refine mz_go 1 (c' := (if (nI T0) ≤ 0 then 20 else 16, [some (.ref 65), some (.int 0)], [], mz_up w 10 2 0)) rfl ?_
                refine mz_ifF (show ¬ ((nI T0) ≤ 0) from (sm_nleN rfl rfl (show 0 < T0 by omega) (show T0 < 2 ^ 31 by omega))) ?_
                refine mz_go 2 (c' := (21, [some (.ref 65), some (.int 0)], [.int 1], mz_up w 10 2 0)) rfl ?_
                exact mz_ret rfl
              refine mz_goP 14 (c' := (44, [some (.ref 65), some (.int 0), some (.int 1)], [.int 1], mz_up (mz_up w 10 2 0) 66 170 0)) rfl ?_
              refine mz_retP (r := (some (.int (1)), mz_up (mz_up w 10 2 0) 66 170 0)) rfl ⟨1, rfl, ?_, rfl⟩
              show sm_I (n + 1) (mz_up (mz_up w 10 2 0) 66 170 0)
              obtain ⟨-, ⟨d1, d2, d3, ⟨d4, d4b, d4c⟩, d5, d6, d7, d8⟩, da, db, dc⟩ := hI2
              have hs : ∀ i, i ≠ 170 → (mz_up (mz_up w 10 2 0) 66 170 0) 66 i = w 66 i := fun i p0 => by rw [mz_up_eq, if_neg (by omega), mz_up_ne (show (66 : Nat) ≠ 10 by decide)]
              exact ⟨hn, ⟨sm_k1 (hs 0 (by omega)) (fun i h1 h2 => hs i (by omega)) d1, sm_k2 (fun i h1 h2 => hs i (by omega)) d2, sm_k3 (hs 1 (by omega)) (fun i h1 h2 => hs i (by omega)) d3, ⟨⟨0, rfl, rfl, Or.inl rfl, fun k hk => absurd hk (Nat.not_lt_zero k)⟩, sm_k4 (fun i h1 h2 => hs i (by omega)) d4b, sm_k4 (fun i h1 h2 => hs i (by omega)) d4c⟩, sm_k5 (fun i h1 h2 => hs i (by omega)) d5, sm_k6 (fun i h1 h2 => hs i (by omega)) d6, sm_k7 (fun i h1 h2 => hs i (by omega)) d7, sm_k8 (hs 2 (by omega)) (hs 3 (by omega)) (fun i h1 h2 => hs i (by omega)) d8⟩, da, db, sm_cc_of (fun i h1 h2 => by simp only [mz_up_ne (show i ≠ 10 by omega), mz_up_ne (show i ≠ 66 by omega)]) dc⟩
          · refine mz_goP 1 (c' := (1, [some (.ref 0), some (.int 1), none, none], [.int 1], w)) rfl ?_
            refine mz_doPQ (R := mz_r119) (as := [.int 1]) (rest := []) (r1 := some (.int 1)) (m1 := w) mz_t119 mz_v119 rfl rfl rfl rfl rfl ⟨?_, rfl⟩ ?_
            · refine mz_go 3 (c' := (3, [some (.int 1)], [.int 2, .int 0, .int 1], w)) rfl ?_
              refine mz_doQ (R := mz_r121) (as := [.int 1, .int 0, .int 2]) (rest := []) (r1 := some (.int 1)) (m1 := w) mz_t121 mz_v121 rfl rfl rfl rfl rfl ((cs_in1 (m := w) (v := 1) (a := 0) (b := 2) (by decide) (by decide)).deep (by decide)) ?_
              exact mz_ret rfl
            refine mz_goP 4 (c' := (18, [some (.ref 0), some (.int 1), none, none], [.int 1, .ref 1], w)) rfl ?_
            refine mz_doPQ (R := mz_r52) (as := [.ref 1, .int 1]) (rest := []) (r1 := some (.ref 13)) (m1 := w) mz_t52 mz_v52_1 rfl rfl rfl rfl rfl ⟨?_, rfl⟩ ?_
            · refine mz_go 8 (c' := (27, [some (.ref 1), some (.int 1)], [.ref 13], w)) rfl ?_
              exact mz_ret rfl
            refine mz_goP 3 (c' := (26, [some (.ref 0), some (.int 1), some (.ref 13), none], [.int (w 13 2)], w)) rfl ?_
            rw [hT1]
            refine mz_goP 1 (c' := (if (nI T1) ≤ 0 then 33 else 29, [some (.ref 0), some (.int 1), some (.ref 13), none], [], w)) rfl ?_
            by_cases q12 : T1 ≤ 0
            · refine mz_ifTP (show ((nI T1) ≤ 0) from (sm_leN rfl rfl (show T1 ≤ 0 by omega) (show 0 < 2 ^ 31 by omega))) ?_
              refine mz_goP 6 (c' := (41, [some (.ref 0), some (.int 1), some (.ref 13), some (.int 0)], [.int 0], mz_up w 13 2 0)) rfl ?_
              refine mz_retP (r := (some (.int (0)), mz_up w 13 2 0)) rfl ⟨0, rfl, ?_⟩
              refine mz_goP 3 (c' := (3, [some (.ref 65), some (.int 1), none], [.int 2, .int 0, .int 1], mz_up w 13 2 0)) rfl ?_
              refine mz_doPQ (R := mz_r128) (as := [.int 1, .int 0, .int 2]) (rest := []) (r1 := some (.int 1)) (m1 := mz_up w 13 2 0) mz_t128 mz_v128 rfl rfl rfl rfl rfl ((ct_in1 (m := mz_up w 13 2 0) (v := 1) (a := 0) (b := 2) (by decide) (by decide)).deep (by decide)) ?_
              refine mz_goP 3 (c' := (17, [some (.ref 65), some (.int 1), none], [.int 1, .ref 65], mz_up w 13 2 0)) rfl ?_
              refine mz_doPQ (R := mz_r169) (as := [.ref 65, .int 1]) (rest := []) (r1 := some (.int 0)) (m1 := mz_up w 13 2 0) mz_t169 mz_v169_65 rfl rfl rfl rfl rfl ⟨?_, rfl⟩ ?_
              · refine mz_go 8 (c' := (13, [some (.ref 65), some (.int 1)], [.int (w 66 295)], mz_up w 13 2 0)) rfl ?_
                rw [hU1]
                refine mz_go 1 (c' := (if (nI T1) ≤ 0 then 20 else 16, [some (.ref 65), some (.int 1)], [], mz_up w 13 2 0)) rfl ?_
                refine mz_ifT (show ((nI T1) ≤ 0) from (sm_leN rfl rfl (show T1 ≤ 0 by omega) (show 0 < 2 ^ 31 by omega))) ?_
                refine mz_go 1 (c' := (21, [some (.ref 65), some (.int 1)], [.int 0], mz_up w 13 2 0)) rfl ?_
                exact mz_ret rfl
              refine mz_goP 13 (c' := (44, [some (.ref 65), some (.int 1), some (.int 0)], [.int 0], mz_up (mz_up w 13 2 0) 66 295 0)) rfl ?_
              refine mz_retP (r := (some (.int (0)), mz_up (mz_up w 13 2 0) 66 295 0)) rfl ⟨0, rfl, ?_, rfl⟩
              show sm_I (n + 1) (mz_up (mz_up w 13 2 0) 66 295 0)
              obtain ⟨-, ⟨d1, d2, d3, ⟨d4, d4b, d4c⟩, d5, d6, d7, d8⟩, da, db, dc⟩ := hI2
              have hs : ∀ i, i ≠ 295 → (mz_up (mz_up w 13 2 0) 66 295 0) 66 i = w 66 i := fun i p0 => by rw [mz_up_eq, if_neg (by omega), mz_up_ne (show (66 : Nat) ≠ 13 by decide)]
              exact ⟨hn, ⟨sm_k1 (hs 0 (by omega)) (fun i h1 h2 => hs i (by omega)) d1, sm_k2 (fun i h1 h2 => hs i (by omega)) d2, sm_k3 (hs 1 (by omega)) (fun i h1 h2 => hs i (by omega)) d3, ⟨sm_k4 (fun i h1 h2 => hs i (by omega)) d4, ⟨0, rfl, rfl, Or.inl rfl, fun k hk => absurd hk (Nat.not_lt_zero k)⟩, sm_k4 (fun i h1 h2 => hs i (by omega)) d4c⟩, sm_k5 (fun i h1 h2 => hs i (by omega)) d5, sm_k6 (fun i h1 h2 => hs i (by omega)) d6, sm_k7 (fun i h1 h2 => hs i (by omega)) d7, sm_k8 (hs 2 (by omega)) (hs 3 (by omega)) (fun i h1 h2 => hs i (by omega)) d8⟩, da, db, sm_cc_of (fun i h1 h2 => by simp only [mz_up_ne (show i ≠ 13 by omega), mz_up_ne (show i ≠ 66 by omega)]) dc⟩
            · refine mz_ifFP (show ¬ ((nI T1) ≤ 0) from (sm_nleN rfl rfl (show 0 < T1 by omega) (show T1 < 2 ^ 31 by omega))) ?_
              refine mz_goP 7 (c' := (41, [some (.ref 0), some (.int 1), some (.ref 13), some (.int 1)], [.int 1], mz_up w 13 2 0)) rfl ?_
              refine mz_retP (r := (some (.int (1)), mz_up w 13 2 0)) rfl ⟨1, rfl, ?_⟩
              refine mz_goP 3 (c' := (3, [some (.ref 65), some (.int 1), none], [.int 2, .int 0, .int 1], mz_up w 13 2 0)) rfl ?_
              refine mz_doPQ (R := mz_r128) (as := [.int 1, .int 0, .int 2]) (rest := []) (r1 := some (.int 1)) (m1 := mz_up w 13 2 0) mz_t128 mz_v128 rfl rfl rfl rfl rfl ((ct_in1 (m := mz_up w 13 2 0) (v := 1) (a := 0) (b := 2) (by decide) (by decide)).deep (by decide)) ?_
              refine mz_goP 3 (c' := (17, [some (.ref 65), some (.int 1), none], [.int 1, .ref 65], mz_up w 13 2 0)) rfl ?_
              refine mz_doPQ (R := mz_r169) (as := [.ref 65, .int 1]) (rest := []) (r1 := some (.int 1)) (m1 := mz_up w 13 2 0) mz_t169 mz_v169_65 rfl rfl rfl rfl rfl ⟨?_, rfl⟩ ?_
              · refine mz_go 8 (c' := (13, [some (.ref 65), some (.int 1)], [.int (w 66 295)], mz_up w 13 2 0)) rfl ?_
                rw [hU1]
                refine mz_go 1 (c' := (if (nI T1) ≤ 0 then 20 else 16, [some (.ref 65), some (.int 1)], [], mz_up w 13 2 0)) rfl ?_
                refine mz_ifF (show ¬ ((nI T1) ≤ 0) from (sm_nleN rfl rfl (show 0 < T1 by omega) (show T1 < 2 ^ 31 by omega))) ?_
                refine mz_go 2 (c' := (21, [some (.ref 65), some (.int 1)], [.int 1], mz_up w 13 2 0)) rfl ?_
                exact mz_ret rfl
              refine mz_goP 14 (c' := (44, [some (.ref 65), some (.int 1), some (.int 1)], [.int 1], mz_up (mz_up w 13 2 0) 66 295 0)) rfl ?_
              refine mz_retP (r := (some (.int (1)), mz_up (mz_up w 13 2 0) 66 295 0)) rfl ⟨1, rfl, ?_, rfl⟩
              show sm_I (n + 1) (mz_up (mz_up w 13 2 0) 66 295 0)
              obtain ⟨-, ⟨d1, d2, d3, ⟨d4, d4b, d4c⟩, d5, d6, d7, d8⟩, da, db, dc⟩ := hI2
              have hs : ∀ i, i ≠ 295 → (mz_up (mz_up w 13 2 0) 66 295 0) 66 i = w 66 i := fun i p0 => by rw [mz_up_eq, if_neg (by omega), mz_up_ne (show (66 : Nat) ≠ 13 by decide)]
              exact ⟨hn, ⟨sm_k1 (hs 0 (by omega)) (fun i h1 h2 => hs i (by omega)) d1, sm_k2 (fun i h1 h2 => hs i (by omega)) d2, sm_k3 (hs 1 (by omega)) (fun i h1 h2 => hs i (by omega)) d3, ⟨sm_k4 (fun i h1 h2 => hs i (by omega)) d4, ⟨0, rfl, rfl, Or.inl rfl, fun k hk => absurd hk (Nat.not_lt_zero k)⟩, sm_k4 (fun i h1 h2 => hs i (by omega)) d4c⟩, sm_k5 (fun i h1 h2 => hs i (by omega)) d5, sm_k6 (fun i h1 h2 => hs i (by omega)) d6, sm_k7 (fun i h1 h2 => hs i (by omega)) d7, sm_k8 (hs 2 (by omega)) (hs 3 (by omega)) (fun i h1 h2 => hs i (by omega)) d8⟩, da, db, sm_cc_of (fun i h1 h2 => by simp only [mz_up_ne (show i ≠ 13 by omega), mz_up_ne (show i ≠ 66 by omega)]) dc⟩
          · refine mz_goP 1 (c' := (1, [some (.ref 0), some (.int 2), none, none], [.int 2], w)) rfl ?_
            refine mz_doPQ (R := mz_r119) (as := [.int 2]) (rest := []) (r1 := some (.int 1)) (m1 := w) mz_t119 mz_v119 rfl rfl rfl rfl rfl ⟨?_, rfl⟩ ?_
            · refine mz_go 3 (c' := (3, [some (.int 2)], [.int 2, .int 0, .int 2], w)) rfl ?_
              refine mz_doQ (R := mz_r121) (as := [.int 2, .int 0, .int 2]) (rest := []) (r1 := some (.int 1)) (m1 := w) mz_t121 mz_v121 rfl rfl rfl rfl rfl ((cs_in1 (m := w) (v := 2) (a := 0) (b := 2) (by decide) (by decide)).deep (by decide)) ?_
              exact mz_ret rfl
            refine mz_goP 4 (c' := (18, [some (.ref 0), some (.int 2), none, none], [.int 2, .ref 1], w)) rfl ?_
            refine mz_doPQ (R := mz_r52) (as := [.ref 1, .int 2]) (rest := []) (r1 := some (.ref 16)) (m1 := w) mz_t52 mz_v52_1 rfl rfl rfl rfl rfl ⟨?_, rfl⟩ ?_
            · refine mz_go 7 (c' := (27, [some (.ref 1), some (.int 2)], [.ref 16], w)) rfl ?_
              exact mz_ret rfl
            refine mz_goP 3 (c' := (26, [some (.ref 0), some (.int 2), some (.ref 16), none], [.int (w 16 2)], w)) rfl ?_
            rw [hT2]
            refine mz_goP 1 (c' := (if (nI T2) ≤ 0 then 33 else 29, [some (.ref 0), some (.int 2), some (.ref 16), none], [], w)) rfl ?_
            refine mz_ifFP (show ¬ ((nI T2) ≤ 0) from (sm_nleN rfl rfl (show 0 < T2 by omega) (show T2 < 2 ^ 31 by omega))) ?_
            refine mz_goP 7 (c' := (41, [some (.ref 0), some (.int 2), some (.ref 16), some (.int 1)], [.int 1], mz_up w 16 2 0)) rfl ?_
            refine mz_retP (r := (some (.int (1)), mz_up w 16 2 0)) rfl ⟨1, rfl, ?_⟩
            refine mz_goP 3 (c' := (3, [some (.ref 65), some (.int 2), none], [.int 2, .int 0, .int 2], mz_up w 16 2 0)) rfl ?_
            refine mz_doPQ (R := mz_r128) (as := [.int 2, .int 0, .int 2]) (rest := []) (r1 := some (.int 1)) (m1 := mz_up w 16 2 0) mz_t128 mz_v128 rfl rfl rfl rfl rfl ((ct_in1 (m := mz_up w 16 2 0) (v := 2) (a := 0) (b := 2) (by decide) (by decide)).deep (by decide)) ?_
            refine mz_goP 3 (c' := (17, [some (.ref 65), some (.int 2), none], [.int 2, .ref 65], mz_up w 16 2 0)) rfl ?_
            refine mz_doPQ (R := mz_r169) (as := [.ref 65, .int 2]) (rest := []) (r1 := some (.int 1)) (m1 := mz_up w 16 2 0) mz_t169 mz_v169_65 rfl rfl rfl rfl rfl ⟨?_, rfl⟩ ?_
            · refine mz_go 8 (c' := (13, [some (.ref 65), some (.int 2)], [.int (w 66 420)], mz_up w 16 2 0)) rfl ?_
              rw [hU2]
              refine mz_go 1 (c' := (if (nI T2) ≤ 0 then 20 else 16, [some (.ref 65), some (.int 2)], [], mz_up w 16 2 0)) rfl ?_
              refine mz_ifF (show ¬ ((nI T2) ≤ 0) from (sm_nleN rfl rfl (show 0 < T2 by omega) (show T2 < 2 ^ 31 by omega))) ?_
              refine mz_go 2 (c' := (21, [some (.ref 65), some (.int 2)], [.int 1], mz_up w 16 2 0)) rfl ?_
              exact mz_ret rfl
            refine mz_goP 14 (c' := (44, [some (.ref 65), some (.int 2), some (.int 1)], [.int 1], mz_up (mz_up w 16 2 0) 66 420 0)) rfl ?_
            refine mz_retP (r := (some (.int (1)), mz_up (mz_up w 16 2 0) 66 420 0)) rfl ⟨1, rfl, ?_, rfl⟩
            show sm_I (n + 1) (mz_up (mz_up w 16 2 0) 66 420 0)
            obtain ⟨-, ⟨d1, d2, d3, ⟨d4, d4b, d4c⟩, d5, d6, d7, d8⟩, da, db, dc⟩ := hI2
            have hs : ∀ i, i ≠ 420 → (mz_up (mz_up w 16 2 0) 66 420 0) 66 i = w 66 i := fun i p0 => by rw [mz_up_eq, if_neg (by omega), mz_up_ne (show (66 : Nat) ≠ 16 by decide)]
            exact ⟨hn, ⟨sm_k1 (hs 0 (by omega)) (fun i h1 h2 => hs i (by omega)) d1, sm_k2 (fun i h1 h2 => hs i (by omega)) d2, sm_k3 (hs 1 (by omega)) (fun i h1 h2 => hs i (by omega)) d3, ⟨sm_k4 (fun i h1 h2 => hs i (by omega)) d4, sm_k4 (fun i h1 h2 => hs i (by omega)) d4b, ⟨0, rfl, rfl, Or.inl rfl, fun k hk => absurd hk (Nat.not_lt_zero k)⟩⟩, sm_k5 (fun i h1 h2 => hs i (by omega)) d5, sm_k6 (fun i h1 h2 => hs i (by omega)) d6, sm_k7 (fun i h1 h2 => hs i (by omega)) d7, sm_k8 (hs 2 (by omega)) (hs 3 (by omega)) (fun i h1 h2 => hs i (by omega)) d8⟩, da, db, sm_cc_of (fun i h1 h2 => by simp only [mz_up_ne (show i ≠ 16 by omega), mz_up_ne (show i ≠ 66 by omega)]) dc⟩
set_option maxHeartbeats 4000000 in
set_option maxRecDepth 100000 in
theorem sc_thrownAt {n : Nat} (hn : n < 64) {w : mz_M} (hI : sm_I n w) (xa : Int32) : ∃ v1 v2 m1 m2, mz_Me 100 mz_r95 [.ref 0, .int xa] w (some (.int v1)) m1 ∧ mz_Me 100 mz_r207 [.ref 65, .int xa] m1 (some (.int v2)) m2 ∧ sm_I (n + 1) m2 ∧ v1 = v2 := by
  have hI2 := hI
  obtain ⟨hn0, ⟨-, ⟨hr80, hr5, hrr⟩, ⟨⟨TT, hTT, h81, h661⟩, htp⟩, ⟨⟨T0, hT0, hU0, hV0, -⟩, ⟨T1, hT1, hU1, hV1, -⟩, ⟨T2, hT2, hU2, hV2, -⟩⟩, ⟨hbx, hby, hbl⟩, ⟨⟨WW, HH, hWW, hHH, hWH, h202, h203, h6660, h6661⟩, h6662, h6663, h6664, hpc⟩, ⟨hth, h66160, hthr⟩, ⟨⟨AA, hAA, h111, h662⟩, h663, hwt⟩⟩, ⟨hsh, hsn⟩, ⟨hcb1, hcb2⟩, ⟨JJ, hJJ, h07, h652, hkept⟩⟩ := hI
  obtain ⟨N, hw, hr2, h660, -, -, h6615⟩ := sm_world hI2
  have hw2 := hw
  obtain ⟨hN, h4, hpb, -, -⟩ := hw2
  have hT60a := sm_T60 hV0
  have hT60b := sm_T60 hV1
  have hT60c := sm_T60 hV2
  obtain ⟨B1, hB1, e571⟩ := sm_Nof (by decide) hcb1
  obtain ⟨B2, hB2, e6519⟩ := sm_Nof (by decide) hcb2
  refine mz_two (fun _ => rfl) (fun _ => rfl) ?_
  by_cases q1 : xa = 9
  · subst q1
    refine mz_goP 1 (c' := (1, [some (.ref 0), some (.int 9)], [.int 9], w)) rfl ?_
    refine mz_doPQ (R := mz_r118) (as := [.int 9]) (rest := []) (r1 := some (.int 1)) (m1 := w) mz_t118 mz_v118 rfl rfl rfl rfl rfl ⟨?_, rfl⟩ ?_
    · refine mz_go 5 (c' := (20, [some (.int 9)], [.int 1], w)) rfl ?_
      exact mz_ret rfl
    refine mz_goP 5 (c' := (if (w 1 9) = 0 then 23 else 29, [some (.ref 0), some (.int 9)], [], w)) rfl ?_
    by_cases q2 : (w 1 9) = 0
    · refine mz_ifTP q2 ?_
      refine mz_goP 2 (c' := (25, [some (.ref 0), some (.int 9)], [.int 2, .ref 0], w)) rfl ?_
      refine mz_doPQ (R := mz_r109) (as := [.ref 0, .int 2]) (rest := []) (r1 := some (.int (-1000002))) (m1 := mz_up w 64 2 ((w 64 2) + 1)) mz_t109 mz_v109_0 rfl rfl rfl rfl rfl ((cs_err2 (m := w)).deep (by decide)) ?_
      refine mz_retP (r := (some (.int ((-1000002))), mz_up w 64 2 ((w 64 2) + 1))) rfl ⟨(-1000002), rfl, ?_⟩
      refine mz_goP 1 (c' := (1, [some (.ref 65), some (.int 9)], [.int 9], mz_up w 64 2 ((w 64 2) + 1))) rfl ?_
      refine mz_doPQ (R := mz_r188) (as := [.int 9]) (rest := []) (r1 := some (.int 1)) (m1 := mz_up w 64 2 ((w 64 2) + 1)) mz_t188 mz_v188 rfl rfl rfl rfl rfl ⟨?_, rfl⟩ ?_
      · refine mz_go 3 (c' := (3, [some (.int 9)], [.int 5, .int 0, .int 9], mz_up w 64 2 ((w 64 2) + 1))) rfl ?_
        refine mz_doQ (R := mz_r128) (as := [.int 9, .int 0, .int 5]) (rest := []) (r1 := some (.int 0)) (m1 := mz_up w 64 2 ((w 64 2) + 1)) mz_t128 mz_v128 rfl rfl rfl rfl rfl ((ct_inG (m := mz_up w 64 2 ((w 64 2) + 1)) (v := 9) (a := 0) (b := 5) (by decide) (by decide)).deep (by decide)) ?_
        refine mz_go 6 (c' := (20, [some (.int 9)], [.int 1], mz_up w 64 2 ((w 64 2) + 1))) rfl ?_
        exact mz_ret rfl
      refine mz_goP 5 (c' := (21, [some (.ref 65), some (.int 9)], [.int (w 66 160)], mz_up w 64 2 ((w 64 2) + 1))) rfl ?_
      rw [h66160]
      refine mz_goP 1 (c' := (if (w 1 9) = 0 then 24 else 32, [some (.ref 65), some (.int 9)], [], mz_up w 64 2 ((w 64 2) + 1))) rfl ?_
      refine mz_ifTP q2 ?_
      refine mz_goP 2 (c' := (26, [some (.ref 65), some (.int 9)], [.int 2, .ref 65], mz_up w 64 2 ((w 64 2) + 1))) rfl ?_
      refine mz_doPQ (R := mz_r127) (as := [.ref 65, .int 2]) (rest := []) (r1 := some (.int (-1000002))) (m1 := mz_up (mz_up w 64 2 ((w 64 2) + 1)) 68 2 ((w 68 2) + 1)) mz_t127 mz_v127_65 rfl rfl rfl rfl rfl ((ct_err2 (m := mz_up w 64 2 ((w 64 2) + 1))).deep (by decide)) ?_
      refine mz_goP 1 (c' := (42, [some (.ref 65), some (.int 9)], [.int (-1000002)], mz_up (mz_up w 64 2 ((w 64 2) + 1)) 68 2 ((w 68 2) + 1))) rfl ?_
      refine mz_retP (r := (some (.int ((-1000002))), mz_up (mz_up w 64 2 ((w 64 2) + 1)) 68 2 ((w 68 2) + 1))) rfl ⟨(-1000002), rfl, ?_, rfl⟩
      show sm_I (n + 1) (mz_up (mz_up w 64 2 ((w 64 2) + 1)) 68 2 ((w 68 2) + 1))
      exact sm_I_scr hn hI2 (fun i hi => by
        have hne : ∀ r, sm_scr r = true → i ≠ r := fun r hr e => by
          rw [e, hr] at hi
          cases hi
        simp only [mz_up_ne (hne 64 rfl), mz_up_ne (hne 68 rfl)]) rfl rfl
    · refine mz_ifFP q2 ?_
      refine mz_goP 5 (c' := (38, [some (.ref 0), some (.int 9)], [.int (w 23 9)], w)) rfl ?_
      refine mz_retP (r := (some (.int (w 23 9)), w)) rfl ⟨w 23 9, rfl, ?_⟩
      refine mz_goP 1 (c' := (1, [some (.ref 65), some (.int 9)], [.int 9], w)) rfl ?_
      refine mz_doPQ (R := mz_r188) (as := [.int 9]) (rest := []) (r1 := some (.int 1)) (m1 := w) mz_t188 mz_v188 rfl rfl rfl rfl rfl ⟨?_, rfl⟩ ?_
      · refine mz_go 3 (c' := (3, [some (.int 9)], [.int 5, .int 0, .int 9], w)) rfl ?_
        refine mz_doQ (R := mz_r128) (as := [.int 9, .int 0, .int 5]) (rest := []) (r1 := some (.int 0)) (m1 := w) mz_t128 mz_v128 rfl rfl rfl rfl rfl ((ct_inG (m := w) (v := 9) (a := 0) (b := 5) (by decide) (by decide)).deep (by decide)) ?_
        refine mz_go 6 (c' := (20, [some (.int 9)], [.int 1], w)) rfl ?_
        exact mz_ret rfl
      refine mz_goP 5 (c' := (21, [some (.ref 65), some (.int 9)], [.int (w 66 160)], w)) rfl ?_
      rw [h66160]
      refine mz_goP 1 (c' := (if (w 1 9) = 0 then 24 else 32, [some (.ref 65), some (.int 9)], [], w)) rfl ?_
      refine mz_ifFP q2 ?_
      refine mz_goP 6 (c' := (42, [some (.ref 65), some (.int 9)], [.int (w 66 159)], w)) rfl ?_
      rw [show w 66 159 = w 23 9 from (hthr 9 (by decide))]
      refine mz_retP (r := (some (.int (w 23 9)), w)) rfl ⟨w 23 9, rfl, ?_, rfl⟩
      show sm_I (n + 1) (w)
      exact sm_I_scr hn hI2 (fun _ _ => rfl) rfl rfl
  · by_cases q3 : (sm_bI (sm_in xa 0 5)) = 0
    · refine mz_goP 1 (c' := (1, [some (.ref 0), some (.int xa)], [.int xa], w)) rfl ?_
      refine mz_doPQ (R := mz_r118) (as := [.int xa]) (rest := []) (r1 := some (.int 0)) (m1 := w) mz_t118 mz_v118 rfl rfl rfl rfl rfl ⟨?_, rfl⟩ ?_
      · refine mz_go 3 (c' := (if xa = 9 then 15 else 6, [some (.int xa)], [], w)) rfl ?_
        refine mz_ifF q1 ?_
        refine mz_go 3 (c' := (9, [some (.int xa)], [.int 5, .int 0, .int xa], w)) rfl ?_
        refine mz_doQ (R := mz_r121) (as := [.int xa, .int 0, .int 5]) (rest := []) (r1 := some (.int (sm_bI (sm_in xa 0 5)))) (m1 := w) mz_t121 mz_v121 rfl rfl rfl rfl rfl ((cs_in (m := w) xa 0 5).deep (by decide)) ?_
        refine mz_go 1 (c' := (if (sm_bI (sm_in xa 0 5)) = 0 then 19 else 15, [some (.int xa)], [], w)) rfl ?_
        refine mz_ifT q3 ?_
        refine mz_go 1 (c' := (20, [some (.int xa)], [.int 0], w)) rfl ?_
        exact mz_ret rfl
      refine mz_goP 3 (c' := (9, [some (.ref 0), some (.int xa)], [.int 1, .ref 0], w)) rfl ?_
      refine mz_doPQ (R := mz_r109) (as := [.ref 0, .int 1]) (rest := []) (r1 := some (.int (-1000001))) (m1 := mz_up w 64 1 ((w 64 1) + 1)) mz_t109 mz_v109_0 rfl rfl rfl rfl rfl ((cs_err1 (m := w)).deep (by decide)) ?_
      refine mz_retP (r := (some (.int ((-1000001))), mz_up w 64 1 ((w 64 1) + 1))) rfl ⟨(-1000001), rfl, ?_⟩
      refine mz_goP 1 (c' := (1, [some (.ref 65), some (.int xa)], [.int xa], mz_up w 64 1 ((w 64 1) + 1))) rfl ?_
      refine mz_doPQ (R := mz_r188) (as := [.int xa]) (rest := []) (r1 := some (.int 0)) (m1 := mz_up w 64 1 ((w 64 1) + 1)) mz_t188 mz_v188 rfl rfl rfl rfl rfl ⟨?_, rfl⟩ ?_
      · refine mz_go 3 (c' := (3, [some (.int xa)], [.int 5, .int 0, .int xa], mz_up w 64 1 ((w 64 1) + 1))) rfl ?_
        refine mz_doQ (R := mz_r128) (as := [.int xa, .int 0, .int 5]) (rest := []) (r1 := some (.int (sm_bI (sm_in xa 0 5)))) (m1 := mz_up w 64 1 ((w 64 1) + 1)) mz_t128 mz_v128 rfl rfl rfl rfl rfl ((ct_in (m := mz_up w 64 1 ((w 64 1) + 1)) xa 0 5).deep (by decide)) ?_
        refine mz_go 1 (c' := (if (sm_bI (sm_in xa 0 5)) = 0 then 9 else 15, [some (.int xa)], [], mz_up w 64 1 ((w 64 1) + 1))) rfl ?_
        refine mz_ifT q3 ?_
        refine mz_go 3 (c' := (if xa = 9 then 15 else 19, [some (.int xa)], [], mz_up w 64 1 ((w 64 1) + 1))) rfl ?_
        refine mz_ifF q1 ?_
        refine mz_go 1 (c' := (20, [some (.int xa)], [.int 0], mz_up w 64 1 ((w 64 1) + 1))) rfl ?_
        exact mz_ret rfl
      refine mz_goP 3 (c' := (9, [some (.ref 65), some (.int xa)], [.int 1, .ref 65], mz_up w 64 1 ((w 64 1) + 1))) rfl ?_
      refine mz_doPQ (R := mz_r127) (as := [.ref 65, .int 1]) (rest := []) (r1 := some (.int (-1000001))) (m1 := mz_up (mz_up w 64 1 ((w 64 1) + 1)) 68 1 ((w 68 1) + 1)) mz_t127 mz_v127_65 rfl rfl rfl rfl rfl ((ct_err1 (m := mz_up w 64 1 ((w 64 1) + 1))).deep (by decide)) ?_
      refine mz_retP (r := (some (.int ((-1000001))), mz_up (mz_up w 64 1 ((w 64 1) + 1)) 68 1 ((w 68 1) + 1))) rfl ⟨(-1000001), rfl, ?_, rfl⟩
      show sm_I (n + 1) (mz_up (mz_up w 64 1 ((w 64 1) + 1)) 68 1 ((w 68 1) + 1))
      exact sm_I_scr hn hI2 (fun i hi => by
        have hne : ∀ r, sm_scr r = true → i ≠ r := fun r hr e => by
          rw [e, hr] at hi
          cases hi
        simp only [mz_up_ne (hne 64 rfl), mz_up_ne (hne 68 rfl)]) rfl rfl
    · by_cases q4 : (w 1 9) = 0
      · refine mz_goP 1 (c' := (1, [some (.ref 0), some (.int xa)], [.int xa], w)) rfl ?_
        refine mz_doPQ (R := mz_r118) (as := [.int xa]) (rest := []) (r1 := some (.int 1)) (m1 := w) mz_t118 mz_v118 rfl rfl rfl rfl rfl ⟨?_, rfl⟩ ?_
        · refine mz_go 3 (c' := (if xa = 9 then 15 else 6, [some (.int xa)], [], w)) rfl ?_
          refine mz_ifF q1 ?_
          refine mz_go 3 (c' := (9, [some (.int xa)], [.int 5, .int 0, .int xa], w)) rfl ?_
          refine mz_doQ (R := mz_r121) (as := [.int xa, .int 0, .int 5]) (rest := []) (r1 := some (.int 1)) (m1 := w) mz_t121 mz_v121 rfl rfl rfl rfl rfl ((cs_in1 (m := w) (v := xa) (a := 0) (b := 5) (show ¬ (xa < 0) from (sm_in_lo q3)) (show ¬ (5 < xa) from (sm_in_hi q3))).deep (by decide)) ?_
          refine mz_go 3 (c' := (20, [some (.int xa)], [.int 1], w)) rfl ?_
          exact mz_ret rfl
        refine mz_goP 5 (c' := (if (w 1 9) = 0 then 23 else 29, [some (.ref 0), some (.int xa)], [], w)) rfl ?_
        refine mz_ifTP q4 ?_
        refine mz_goP 2 (c' := (25, [some (.ref 0), some (.int xa)], [.int 2, .ref 0], w)) rfl ?_
        refine mz_doPQ (R := mz_r109) (as := [.ref 0, .int 2]) (rest := []) (r1 := some (.int (-1000002))) (m1 := mz_up w 64 2 ((w 64 2) + 1)) mz_t109 mz_v109_0 rfl rfl rfl rfl rfl ((cs_err2 (m := w)).deep (by decide)) ?_
        refine mz_retP (r := (some (.int ((-1000002))), mz_up w 64 2 ((w 64 2) + 1))) rfl ⟨(-1000002), rfl, ?_⟩
        refine mz_goP 1 (c' := (1, [some (.ref 65), some (.int xa)], [.int xa], mz_up w 64 2 ((w 64 2) + 1))) rfl ?_
        refine mz_doPQ (R := mz_r188) (as := [.int xa]) (rest := []) (r1 := some (.int 1)) (m1 := mz_up w 64 2 ((w 64 2) + 1)) mz_t188 mz_v188 rfl rfl rfl rfl rfl ⟨?_, rfl⟩ ?_
        · refine mz_go 3 (c' := (3, [some (.int xa)], [.int 5, .int 0, .int xa], mz_up w 64 2 ((w 64 2) + 1))) rfl ?_
          refine mz_doQ (R := mz_r128) (as := [.int xa, .int 0, .int 5]) (rest := []) (r1 := some (.int 1)) (m1 := mz_up w 64 2 ((w 64 2) + 1)) mz_t128 mz_v128 rfl rfl rfl rfl rfl ((ct_in1 (m := mz_up w 64 2 ((w 64 2) + 1)) (v := xa) (a := 0) (b := 5) (show ¬ (xa < 0) from (sm_in_lo q3)) (show ¬ (5 < xa) from (sm_in_hi q3))).deep (by decide)) ?_
          refine mz_go 3 (c' := (20, [some (.int xa)], [.int 1], mz_up w 64 2 ((w 64 2) + 1))) rfl ?_
          exact mz_ret rfl
        refine mz_goP 5 (c' := (21, [some (.ref 65), some (.int xa)], [.int (w 66 160)], mz_up w 64 2 ((w 64 2) + 1))) rfl ?_
        rw [h66160]
        refine mz_goP 1 (c' := (if (w 1 9) = 0 then 24 else 32, [some (.ref 65), some (.int xa)], [], mz_up w 64 2 ((w 64 2) + 1))) rfl ?_
        refine mz_ifTP q4 ?_
        refine mz_goP 2 (c' := (26, [some (.ref 65), some (.int xa)], [.int 2, .ref 65], mz_up w 64 2 ((w 64 2) + 1))) rfl ?_
        refine mz_doPQ (R := mz_r127) (as := [.ref 65, .int 2]) (rest := []) (r1 := some (.int (-1000002))) (m1 := mz_up (mz_up w 64 2 ((w 64 2) + 1)) 68 2 ((w 68 2) + 1)) mz_t127 mz_v127_65 rfl rfl rfl rfl rfl ((ct_err2 (m := mz_up w 64 2 ((w 64 2) + 1))).deep (by decide)) ?_
        refine mz_goP 1 (c' := (42, [some (.ref 65), some (.int xa)], [.int (-1000002)], mz_up (mz_up w 64 2 ((w 64 2) + 1)) 68 2 ((w 68 2) + 1))) rfl ?_
        refine mz_retP (r := (some (.int ((-1000002))), mz_up (mz_up w 64 2 ((w 64 2) + 1)) 68 2 ((w 68 2) + 1))) rfl ⟨(-1000002), rfl, ?_, rfl⟩
        show sm_I (n + 1) (mz_up (mz_up w 64 2 ((w 64 2) + 1)) 68 2 ((w 68 2) + 1))
        exact sm_I_scr hn hI2 (fun i hi => by
          have hne : ∀ r, sm_scr r = true → i ≠ r := fun r hr e => by
            rw [e, hr] at hi
            cases hi
          simp only [mz_up_ne (hne 64 rfl), mz_up_ne (hne 68 rfl)]) rfl rfl
      · have hl5 : (0 : Int) ≤ (xa).toInt := Int32.le_iff_toInt_le.mp (Int32.not_lt.mp (sm_in_lo q3))
        have hu5 : (xa).toInt ≤ (5 : Int) := Int32.le_iff_toInt_le.mp (Int32.not_lt.mp (sm_in_hi q3))
        obtain rfl | rfl | rfl | rfl | rfl | rfl : xa = 0 ∨ xa = 1 ∨ xa = 2 ∨ xa = 3 ∨ xa = 4 ∨ xa = 5 := by
          rcases (show xa.toInt = 0 ∨ xa.toInt = 1 ∨ xa.toInt = 2 ∨ xa.toInt = 3 ∨ xa.toInt = 4 ∨ xa.toInt = 5 by omega) with h | h | h | h | h | h
          · exact (Or.inl (Int32.toInt_inj.mp h))
          · exact (Or.inr (Or.inl (Int32.toInt_inj.mp h)))
          · exact (Or.inr (Or.inr (Or.inl (Int32.toInt_inj.mp h))))
          · exact (Or.inr (Or.inr (Or.inr (Or.inl (Int32.toInt_inj.mp h)))))
          · exact (Or.inr (Or.inr (Or.inr (Or.inr (Or.inl (Int32.toInt_inj.mp h))))))
          · exact (Or.inr (Or.inr (Or.inr (Or.inr (Or.inr (Int32.toInt_inj.mp h))))))
        · refine mz_goP 1 (c' := (1, [some (.ref 0), some (.int 0)], [.int 0], w)) rfl ?_
          refine mz_doPQ (R := mz_r118) (as := [.int 0]) (rest := []) (r1 := some (.int 1)) (m1 := w) mz_t118 mz_v118 rfl rfl rfl rfl rfl ⟨?_, rfl⟩ ?_
          · refine mz_go 6 (c' := (9, [some (.int 0)], [.int 5, .int 0, .int 0], w)) rfl ?_
            refine mz_doQ (R := mz_r121) (as := [.int 0, .int 0, .int 5]) (rest := []) (r1 := some (.int 1)) (m1 := w) mz_t121 mz_v121 rfl rfl rfl rfl rfl ((cs_in1 (m := w) (v := 0) (a := 0) (b := 5) (by decide) (by decide)).deep (by decide)) ?_
            refine mz_go 3 (c' := (20, [some (.int 0)], [.int 1], w)) rfl ?_
            exact mz_ret rfl
          refine mz_goP 5 (c' := (if (w 1 9) = 0 then 23 else 29, [some (.ref 0), some (.int 0)], [], w)) rfl ?_
          refine mz_ifFP q4 ?_
          refine mz_goP 5 (c' := (38, [some (.ref 0), some (.int 0)], [.int (w 23 0)], w)) rfl ?_
          refine mz_retP (r := (some (.int (w 23 0)), w)) rfl ⟨w 23 0, rfl, ?_⟩
          refine mz_goP 1 (c' := (1, [some (.ref 65), some (.int 0)], [.int 0], w)) rfl ?_
          refine mz_doPQ (R := mz_r188) (as := [.int 0]) (rest := []) (r1 := some (.int 1)) (m1 := w) mz_t188 mz_v188 rfl rfl rfl rfl rfl ⟨?_, rfl⟩ ?_
          · refine mz_go 3 (c' := (3, [some (.int 0)], [.int 5, .int 0, .int 0], w)) rfl ?_
            refine mz_doQ (R := mz_r128) (as := [.int 0, .int 0, .int 5]) (rest := []) (r1 := some (.int 1)) (m1 := w) mz_t128 mz_v128 rfl rfl rfl rfl rfl ((ct_in1 (m := w) (v := 0) (a := 0) (b := 5) (by decide) (by decide)).deep (by decide)) ?_
            refine mz_go 3 (c' := (20, [some (.int 0)], [.int 1], w)) rfl ?_
            exact mz_ret rfl
          refine mz_goP 5 (c' := (21, [some (.ref 65), some (.int 0)], [.int (w 66 160)], w)) rfl ?_
          rw [h66160]
          refine mz_goP 1 (c' := (if (w 1 9) = 0 then 24 else 32, [some (.ref 65), some (.int 0)], [], w)) rfl ?_
          refine mz_ifFP q4 ?_
          refine mz_goP 6 (c' := (42, [some (.ref 65), some (.int 0)], [.int (w 66 150)], w)) rfl ?_
          rw [show w 66 150 = w 23 0 from (hthr 0 (by decide))]
          refine mz_retP (r := (some (.int (w 23 0)), w)) rfl ⟨w 23 0, rfl, ?_, rfl⟩
          show sm_I (n + 1) (w)
          exact sm_I_scr hn hI2 (fun _ _ => rfl) rfl rfl
        · refine mz_goP 1 (c' := (1, [some (.ref 0), some (.int 1)], [.int 1], w)) rfl ?_
          refine mz_doPQ (R := mz_r118) (as := [.int 1]) (rest := []) (r1 := some (.int 1)) (m1 := w) mz_t118 mz_v118 rfl rfl rfl rfl rfl ⟨?_, rfl⟩ ?_
          · refine mz_go 6 (c' := (9, [some (.int 1)], [.int 5, .int 0, .int 1], w)) rfl ?_
            refine mz_doQ (R := mz_r121) (as := [.int 1, .int 0, .int 5]) (rest := []) (r1 := some (.int 1)) (m1 := w) mz_t121 mz_v121 rfl rfl rfl rfl rfl ((cs_in1 (m := w) (v := 1) (a := 0) (b := 5) (by decide) (by decide)).deep (by decide)) ?_
            refine mz_go 3 (c' := (20, [some (.int 1)], [.int 1], w)) rfl ?_
            exact mz_ret rfl
          refine mz_goP 5 (c' := (if (w 1 9) = 0 then 23 else 29, [some (.ref 0), some (.int 1)], [], w)) rfl ?_
          refine mz_ifFP q4 ?_
          refine mz_goP 5 (c' := (38, [some (.ref 0), some (.int 1)], [.int (w 23 1)], w)) rfl ?_
          refine mz_retP (r := (some (.int (w 23 1)), w)) rfl ⟨w 23 1, rfl, ?_⟩
          refine mz_goP 1 (c' := (1, [some (.ref 65), some (.int 1)], [.int 1], w)) rfl ?_
          refine mz_doPQ (R := mz_r188) (as := [.int 1]) (rest := []) (r1 := some (.int 1)) (m1 := w) mz_t188 mz_v188 rfl rfl rfl rfl rfl ⟨?_, rfl⟩ ?_
          · refine mz_go 3 (c' := (3, [some (.int 1)], [.int 5, .int 0, .int 1], w)) rfl ?_
            refine mz_doQ (R := mz_r128) (as := [.int 1, .int 0, .int 5]) (rest := []) (r1 := some (.int 1)) (m1 := w) mz_t128 mz_v128 rfl rfl rfl rfl rfl ((ct_in1 (m := w) (v := 1) (a := 0) (b := 5) (by decide) (by decide)).deep (by decide)) ?_
            refine mz_go 3 (c' := (20, [some (.int 1)], [.int 1], w)) rfl ?_
            exact mz_ret rfl
          refine mz_goP 5 (c' := (21, [some (.ref 65), some (.int 1)], [.int (w 66 160)], w)) rfl ?_
          rw [h66160]
          refine mz_goP 1 (c' := (if (w 1 9) = 0 then 24 else 32, [some (.ref 65), some (.int 1)], [], w)) rfl ?_
          refine mz_ifFP q4 ?_
          refine mz_goP 6 (c' := (42, [some (.ref 65), some (.int 1)], [.int (w 66 151)], w)) rfl ?_
          rw [show w 66 151 = w 23 1 from (hthr 1 (by decide))]
          refine mz_retP (r := (some (.int (w 23 1)), w)) rfl ⟨w 23 1, rfl, ?_, rfl⟩
          show sm_I (n + 1) (w)
          exact sm_I_scr hn hI2 (fun _ _ => rfl) rfl rfl
        · refine mz_goP 1 (c' := (1, [some (.ref 0), some (.int 2)], [.int 2], w)) rfl ?_
          refine mz_doPQ (R := mz_r118) (as := [.int 2]) (rest := []) (r1 := some (.int 1)) (m1 := w) mz_t118 mz_v118 rfl rfl rfl rfl rfl ⟨?_, rfl⟩ ?_
          · refine mz_go 6 (c' := (9, [some (.int 2)], [.int 5, .int 0, .int 2], w)) rfl ?_
            refine mz_doQ (R := mz_r121) (as := [.int 2, .int 0, .int 5]) (rest := []) (r1 := some (.int 1)) (m1 := w) mz_t121 mz_v121 rfl rfl rfl rfl rfl ((cs_in1 (m := w) (v := 2) (a := 0) (b := 5) (by decide) (by decide)).deep (by decide)) ?_
            refine mz_go 3 (c' := (20, [some (.int 2)], [.int 1], w)) rfl ?_
            exact mz_ret rfl
          refine mz_goP 5 (c' := (if (w 1 9) = 0 then 23 else 29, [some (.ref 0), some (.int 2)], [], w)) rfl ?_
          refine mz_ifFP q4 ?_
          refine mz_goP 5 (c' := (38, [some (.ref 0), some (.int 2)], [.int (w 23 2)], w)) rfl ?_
          refine mz_retP (r := (some (.int (w 23 2)), w)) rfl ⟨w 23 2, rfl, ?_⟩
          refine mz_goP 1 (c' := (1, [some (.ref 65), some (.int 2)], [.int 2], w)) rfl ?_
          refine mz_doPQ (R := mz_r188) (as := [.int 2]) (rest := []) (r1 := some (.int 1)) (m1 := w) mz_t188 mz_v188 rfl rfl rfl rfl rfl ⟨?_, rfl⟩ ?_
          · refine mz_go 3 (c' := (3, [some (.int 2)], [.int 5, .int 0, .int 2], w)) rfl ?_
            refine mz_doQ (R := mz_r128) (as := [.int 2, .int 0, .int 5]) (rest := []) (r1 := some (.int 1)) (m1 := w) mz_t128 mz_v128 rfl rfl rfl rfl rfl ((ct_in1 (m := w) (v := 2) (a := 0) (b := 5) (by decide) (by decide)).deep (by decide)) ?_
            refine mz_go 3 (c' := (20, [some (.int 2)], [.int 1], w)) rfl ?_
            exact mz_ret rfl
          refine mz_goP 5 (c' := (21, [some (.ref 65), some (.int 2)], [.int (w 66 160)], w)) rfl ?_
          rw [h66160]
          refine mz_goP 1 (c' := (if (w 1 9) = 0 then 24 else 32, [some (.ref 65), some (.int 2)], [], w)) rfl ?_
          refine mz_ifFP q4 ?_
          refine mz_goP 6 (c' := (42, [some (.ref 65), some (.int 2)], [.int (w 66 152)], w)) rfl ?_
          rw [show w 66 152 = w 23 2 from (hthr 2 (by decide))]
          refine mz_retP (r := (some (.int (w 23 2)), w)) rfl ⟨w 23 2, rfl, ?_, rfl⟩
          show sm_I (n + 1) (w)
          exact sm_I_scr hn hI2 (fun _ _ => rfl) rfl rfl
        · refine mz_goP 1 (c' := (1, [some (.ref 0), some (.int 3)], [.int 3], w)) rfl ?_
          refine mz_doPQ (R := mz_r118) (as := [.int 3]) (rest := []) (r1 := some (.int 1)) (m1 := w) mz_t118 mz_v118 rfl rfl rfl rfl rfl ⟨?_, rfl⟩ ?_
          · refine mz_go 6 (c' := (9, [some (.int 3)], [.int 5, .int 0, .int 3], w)) rfl ?_
            refine mz_doQ (R := mz_r121) (as := [.int 3, .int 0, .int 5]) (rest := []) (r1 := some (.int 1)) (m1 := w) mz_t121 mz_v121 rfl rfl rfl rfl rfl ((cs_in1 (m := w) (v := 3) (a := 0) (b := 5) (by decide) (by decide)).deep (by decide)) ?_
            refine mz_go 3 (c' := (20, [some (.int 3)], [.int 1], w)) rfl ?_
            exact mz_ret rfl
          refine mz_goP 5 (c' := (if (w 1 9) = 0 then 23 else 29, [some (.ref 0), some (.int 3)], [], w)) rfl ?_
          refine mz_ifFP q4 ?_
          refine mz_goP 5 (c' := (38, [some (.ref 0), some (.int 3)], [.int (w 23 3)], w)) rfl ?_
          refine mz_retP (r := (some (.int (w 23 3)), w)) rfl ⟨w 23 3, rfl, ?_⟩
          refine mz_goP 1 (c' := (1, [some (.ref 65), some (.int 3)], [.int 3], w)) rfl ?_
          refine mz_doPQ (R := mz_r188) (as := [.int 3]) (rest := []) (r1 := some (.int 1)) (m1 := w) mz_t188 mz_v188 rfl rfl rfl rfl rfl ⟨?_, rfl⟩ ?_
          · refine mz_go 3 (c' := (3, [some (.int 3)], [.int 5, .int 0, .int 3], w)) rfl ?_
            refine mz_doQ (R := mz_r128) (as := [.int 3, .int 0, .int 5]) (rest := []) (r1 := some (.int 1)) (m1 := w) mz_t128 mz_v128 rfl rfl rfl rfl rfl ((ct_in1 (m := w) (v := 3) (a := 0) (b := 5) (by decide) (by decide)).deep (by decide)) ?_
            refine mz_go 3 (c' := (20, [some (.int 3)], [.int 1], w)) rfl ?_
            exact mz_ret rfl
          refine mz_goP 5 (c' := (21, [some (.ref 65), some (.int 3)], [.int (w 66 160)], w)) rfl ?_
          rw [h66160]
          refine mz_goP 1 (c' := (if (w 1 9) = 0 then 24 else 32, [some (.ref 65), some (.int 3)], [], w)) rfl ?_
          refine mz_ifFP q4 ?_
          refine mz_goP 6 (c' := (42, [some (.ref 65), some (.int 3)], [.int (w 66 153)], w)) rfl ?_
          rw [show w 66 153 = w 23 3 from (hthr 3 (by decide))]
          refine mz_retP (r := (some (.int (w 23 3)), w)) rfl ⟨w 23 3, rfl, ?_, rfl⟩
          show sm_I (n + 1) (w)
          exact sm_I_scr hn hI2 (fun _ _ => rfl) rfl rfl
        · refine mz_goP 1 (c' := (1, [some (.ref 0), some (.int 4)], [.int 4], w)) rfl ?_
          refine mz_doPQ (R := mz_r118) (as := [.int 4]) (rest := []) (r1 := some (.int 1)) (m1 := w) mz_t118 mz_v118 rfl rfl rfl rfl rfl ⟨?_, rfl⟩ ?_
          · refine mz_go 6 (c' := (9, [some (.int 4)], [.int 5, .int 0, .int 4], w)) rfl ?_
            refine mz_doQ (R := mz_r121) (as := [.int 4, .int 0, .int 5]) (rest := []) (r1 := some (.int 1)) (m1 := w) mz_t121 mz_v121 rfl rfl rfl rfl rfl ((cs_in1 (m := w) (v := 4) (a := 0) (b := 5) (by decide) (by decide)).deep (by decide)) ?_
            refine mz_go 3 (c' := (20, [some (.int 4)], [.int 1], w)) rfl ?_
            exact mz_ret rfl
          refine mz_goP 5 (c' := (if (w 1 9) = 0 then 23 else 29, [some (.ref 0), some (.int 4)], [], w)) rfl ?_
          refine mz_ifFP q4 ?_
          refine mz_goP 5 (c' := (38, [some (.ref 0), some (.int 4)], [.int (w 23 4)], w)) rfl ?_
          refine mz_retP (r := (some (.int (w 23 4)), w)) rfl ⟨w 23 4, rfl, ?_⟩
          refine mz_goP 1 (c' := (1, [some (.ref 65), some (.int 4)], [.int 4], w)) rfl ?_
          refine mz_doPQ (R := mz_r188) (as := [.int 4]) (rest := []) (r1 := some (.int 1)) (m1 := w) mz_t188 mz_v188 rfl rfl rfl rfl rfl ⟨?_, rfl⟩ ?_
          · refine mz_go 3 (c' := (3, [some (.int 4)], [.int 5, .int 0, .int 4], w)) rfl ?_
            refine mz_doQ (R := mz_r128) (as := [.int 4, .int 0, .int 5]) (rest := []) (r1 := some (.int 1)) (m1 := w) mz_t128 mz_v128 rfl rfl rfl rfl rfl ((ct_in1 (m := w) (v := 4) (a := 0) (b := 5) (by decide) (by decide)).deep (by decide)) ?_
            refine mz_go 3 (c' := (20, [some (.int 4)], [.int 1], w)) rfl ?_
            exact mz_ret rfl
          refine mz_goP 5 (c' := (21, [some (.ref 65), some (.int 4)], [.int (w 66 160)], w)) rfl ?_
          rw [h66160]
          refine mz_goP 1 (c' := (if (w 1 9) = 0 then 24 else 32, [some (.ref 65), some (.int 4)], [], w)) rfl ?_
          refine mz_ifFP q4 ?_
          refine mz_goP 6 (c' := (42, [some (.ref 65), some (.int 4)], [.int (w 66 154)], w)) rfl ?_
          rw [show w 66 154 = w 23 4 from (hthr 4 (by decide))]
          refine mz_retP (r := (some (.int (w 23 4)), w)) rfl ⟨w 23 4, rfl, ?_, rfl⟩
          show sm_I (n + 1) (w)
          exact sm_I_scr hn hI2 (fun _ _ => rfl) rfl rfl
        · refine mz_goP 1 (c' := (1, [some (.ref 0), some (.int 5)], [.int 5], w)) rfl ?_
          refine mz_doPQ (R := mz_r118) (as := [.int 5]) (rest := []) (r1 := some (.int 1)) (m1 := w) mz_t118 mz_v118 rfl rfl rfl rfl rfl ⟨?_, rfl⟩ ?_
          · refine mz_go 6 (c' := (9, [some (.int 5)], [.int 5, .int 0, .int 5], w)) rfl ?_
            refine mz_doQ (R := mz_r121) (as := [.int 5, .int 0, .int 5]) (rest := []) (r1 := some (.int 1)) (m1 := w) mz_t121 mz_v121 rfl rfl rfl rfl rfl ((cs_in1 (m := w) (v := 5) (a := 0) (b := 5) (by decide) (by decide)).deep (by decide)) ?_
            refine mz_go 3 (c' := (20, [some (.int 5)], [.int 1], w)) rfl ?_
            exact mz_ret rfl
          refine mz_goP 5 (c' := (if (w 1 9) = 0 then 23 else 29, [some (.ref 0), some (.int 5)], [], w)) rfl ?_
          refine mz_ifFP q4 ?_
          refine mz_goP 5 (c' := (38, [some (.ref 0), some (.int 5)], [.int (w 23 5)], w)) rfl ?_
          refine mz_retP (r := (some (.int (w 23 5)), w)) rfl ⟨w 23 5, rfl, ?_⟩
          refine mz_goP 1 (c' := (1, [some (.ref 65), some (.int 5)], [.int 5], w)) rfl ?_
          refine mz_doPQ (R := mz_r188) (as := [.int 5]) (rest := []) (r1 := some (.int 1)) (m1 := w) mz_t188 mz_v188 rfl rfl rfl rfl rfl ⟨?_, rfl⟩ ?_
          · refine mz_go 3 (c' := (3, [some (.int 5)], [.int 5, .int 0, .int 5], w)) rfl ?_
            refine mz_doQ (R := mz_r128) (as := [.int 5, .int 0, .int 5]) (rest := []) (r1 := some (.int 1)) (m1 := w) mz_t128 mz_v128 rfl rfl rfl rfl rfl ((ct_in1 (m := w) (v := 5) (a := 0) (b := 5) (by decide) (by decide)).deep (by decide)) ?_
            refine mz_go 3 (c' := (20, [some (.int 5)], [.int 1], w)) rfl ?_
            exact mz_ret rfl
          refine mz_goP 5 (c' := (21, [some (.ref 65), some (.int 5)], [.int (w 66 160)], w)) rfl ?_
          rw [h66160]
          refine mz_goP 1 (c' := (if (w 1 9) = 0 then 24 else 32, [some (.ref 65), some (.int 5)], [], w)) rfl ?_
          refine mz_ifFP q4 ?_
          refine mz_goP 6 (c' := (42, [some (.ref 65), some (.int 5)], [.int (w 66 155)], w)) rfl ?_
          rw [show w 66 155 = w 23 5 from (hthr 5 (by decide))]
          refine mz_retP (r := (some (.int (w 23 5)), w)) rfl ⟨w 23 5, rfl, ?_, rfl⟩
          show sm_I (n + 1) (w)
          exact sm_I_scr hn hI2 (fun _ _ => rfl) rfl rfl
