set_option maxHeartbeats 4000000 in
set_option maxRecDepth 100000 in
theorem sc_body {n : Nat} (hn : n < 64) {w : mz_M} (hI : sm_I n w) (xa : Int32) : ∃ v1 v2 m1 m2, mz_Me 100 mz_r98 [.ref 0, .int xa] w (some (.int v1)) m1 ∧ mz_Me 100 mz_r218 [.ref 65, .int xa] m1 (some (.int v2)) m2 ∧ sm_I (n + 1) m2 := by
  have hI2 := hI
  obtain ⟨hn0, ⟨-, ⟨hr80, hr5, hrr⟩, ⟨⟨TT, hTT, h81, h661⟩, htp⟩, ⟨⟨T0, hT0, hU0, hV0, -⟩, ⟨T1, hT1, hU1, hV1, -⟩, ⟨T2, hT2, hU2, hV2, -⟩⟩, ⟨hbx, hby, hbl⟩, ⟨⟨WW, HH, hWW, hHH, hWH, h202, h203, h6660, h6661⟩, h6662, h6663, h6664, hpc⟩, ⟨hth, h66160, hthr⟩, ⟨⟨AA, hAA, h111, h662⟩, h663, hwt⟩⟩, ⟨hsh, hsn⟩, ⟨hcb1, hcb2⟩, ⟨JJ, hJJ, h07, h652, hkept⟩⟩ := hI
  obtain ⟨N, hw, hr2, h660, -, -, h6615⟩ := sm_world hI2
  have hw2 := hw
  obtain ⟨hN, h4, hpb, -, -⟩ := hw2
  have hT60a := sm_T60 hV0
  have hT60b := sm_T60 hV1
  have hT60c := sm_T60 hV2
  obtain ⟨B1, hB1, e571⟩ := sm_Nof (by decide) hcb1
  obtain ⟨B2, hB2, e6519⟩ := sm_Nof (by decide) hcb2
  refine mz_two (fun _ => rfl) (fun _ => rfl) ?_
  by_cases q1 : B1 = 0
  · by_cases q2 : xa < 0
    · refine mz_goP 5 (c' := (9, [some (.ref 0), some (.int xa)], [.int (w 57 1), .int 0, .int xa], w)) rfl ?_
      rw [e571]
      refine mz_goP 2 (c' := (11, [some (.ref 0), some (.int xa)], [.int ((nI B1) - 1), .int 0, .int xa], w)) rfl ?_
      rw [show nI B1 - 1 = -1 from by rw [show B1 = 0 by omega]; decide]
      refine mz_doPQ (R := mz_r121) (as := [.int xa, .int 0, .int (-1)]) (rest := []) (r1 := some (.int 0)) (m1 := w) mz_t121 mz_v121 rfl rfl rfl rfl rfl ((cs_inL (m := w) (v := xa) (a := 0) (b := (-1)) q2).deep (by decide)) ?_
      refine mz_goP 3 (c' := (19, [some (.ref 0), some (.int xa)], [.int 2, .ref 0], w)) rfl ?_
      refine mz_doPQ (R := mz_r109) (as := [.ref 0, .int 2]) (rest := []) (r1 := some (.int (-1000002))) (m1 := mz_up w 64 2 ((w 64 2) + 1)) mz_t109 mz_v109_0 rfl rfl rfl rfl rfl ((cs_err2 (m := w)).deep (by decide)) ?_
      refine mz_retP (r := (some (.int ((-1000002))), mz_up w 64 2 ((w 64 2) + 1))) rfl ⟨(-1000002), rfl, ?_⟩
      refine mz_goP 4 (c' := (6, [some (.ref 65), some (.int xa)], [.int (w 65 19), .int 0, .int xa], mz_up w 64 2 ((w 64 2) + 1))) rfl ?_
      rw [e6519]
      refine mz_goP 2 (c' := (8, [some (.ref 65), some (.int xa)], [.int ((nI B2) - 1), .int 0, .int xa], mz_up w 64 2 ((w 64 2) + 1))) rfl ?_
      by_cases q3 : B2 = 0
      · rw [show nI B2 - 1 = -1 from by rw [show B2 = 0 by omega]; decide]
        refine mz_doPQ (R := mz_r128) (as := [.int xa, .int 0, .int (-1)]) (rest := []) (r1 := some (.int 0)) (m1 := mz_up w 64 2 ((w 64 2) + 1)) mz_t128 mz_v128 rfl rfl rfl rfl rfl ((ct_inL (m := mz_up w 64 2 ((w 64 2) + 1)) (v := xa) (a := 0) (b := (-1)) q2).deep (by decide)) ?_
        refine mz_goP 3 (c' := (25, [some (.ref 65), some (.int xa)], [.int 2, .ref 65], mz_up w 64 2 ((w 64 2) + 1))) rfl ?_
        refine mz_doPQ (R := mz_r127) (as := [.ref 65, .int 2]) (rest := []) (r1 := some (.int (-1000002))) (m1 := mz_up (mz_up w 64 2 ((w 64 2) + 1)) 68 2 ((w 68 2) + 1)) mz_t127 mz_v127_65 rfl rfl rfl rfl rfl ((ct_err2 (m := mz_up w 64 2 ((w 64 2) + 1))).deep (by decide)) ?_
        refine mz_retP (r := (some (.int ((-1000002))), mz_up (mz_up w 64 2 ((w 64 2) + 1)) 68 2 ((w 68 2) + 1))) rfl ⟨(-1000002), rfl, ?_⟩
        show sm_I (n + 1) (mz_up (mz_up w 64 2 ((w 64 2) + 1)) 68 2 ((w 68 2) + 1))
        exact sm_I_scr hn hI2 (fun i hi => by
          have hne : ∀ r, sm_scr r = true → i ≠ r := fun r hr e => by
            rw [e, hr] at hi
            cases hi
          simp only [mz_up_ne (hne 64 rfl), mz_up_ne (hne 68 rfl)]) rfl rfl
      · refine mz_doPQ (R := mz_r128) (as := [.int xa, .int 0, .int ((nI B2) - 1)]) (rest := []) (r1 := some (.int 0)) (m1 := mz_up w 64 2 ((w 64 2) + 1)) mz_t128 mz_v128 rfl rfl rfl rfl rfl ((ct_inL (m := mz_up w 64 2 ((w 64 2) + 1)) (v := xa) (a := 0) (b := (nI B2) - 1) q2).deep (by decide)) ?_
        refine mz_goP 3 (c' := (25, [some (.ref 65), some (.int xa)], [.int 2, .ref 65], mz_up w 64 2 ((w 64 2) + 1))) rfl ?_
        refine mz_doPQ (R := mz_r127) (as := [.ref 65, .int 2]) (rest := []) (r1 := some (.int (-1000002))) (m1 := mz_up (mz_up w 64 2 ((w 64 2) + 1)) 68 2 ((w 68 2) + 1)) mz_t127 mz_v127_65 rfl rfl rfl rfl rfl ((ct_err2 (m := mz_up w 64 2 ((w 64 2) + 1))).deep (by decide)) ?_
        refine mz_retP (r := (some (.int ((-1000002))), mz_up (mz_up w 64 2 ((w 64 2) + 1)) 68 2 ((w 68 2) + 1))) rfl ⟨(-1000002), rfl, ?_⟩
        show sm_I (n + 1) (mz_up (mz_up w 64 2 ((w 64 2) + 1)) 68 2 ((w 68 2) + 1))
        exact sm_I_scr hn hI2 (fun i hi => by
          have hne : ∀ r, sm_scr r = true → i ≠ r := fun r hr e => by
            rw [e, hr] at hi
            cases hi
          simp only [mz_up_ne (hne 64 rfl), mz_up_ne (hne 68 rfl)]) rfl rfl
    · by_cases q4 : B2 = 0
      · refine mz_goP 5 (c' := (9, [some (.ref 0), some (.int xa)], [.int (w 57 1), .int 0, .int xa], w)) rfl ?_
        rw [e571]
        refine mz_goP 2 (c' := (11, [some (.ref 0), some (.int xa)], [.int ((nI B1) - 1), .int 0, .int xa], w)) rfl ?_
        rw [show nI B1 - 1 = -1 from by rw [show B1 = 0 by omega]; decide]
        refine mz_doPQ (R := mz_r121) (as := [.int xa, .int 0, .int (-1)]) (rest := []) (r1 := some (.int 0)) (m1 := w) mz_t121 mz_v121 rfl rfl rfl rfl rfl ((cs_inG (m := w) (v := xa) (a := 0) (b := (-1)) q2 (by have hl : (0 : Int) ≤ (xa).toInt := Int32.le_iff_toInt_le.mp (Int32.not_lt.mp q2); exact Int32.lt_iff_toInt_lt.mpr (show (-1 : Int) < (xa).toInt by omega))).deep (by decide)) ?_
        refine mz_goP 3 (c' := (19, [some (.ref 0), some (.int xa)], [.int 2, .ref 0], w)) rfl ?_
        refine mz_doPQ (R := mz_r109) (as := [.ref 0, .int 2]) (rest := []) (r1 := some (.int (-1000002))) (m1 := mz_up w 64 2 ((w 64 2) + 1)) mz_t109 mz_v109_0 rfl rfl rfl rfl rfl ((cs_err2 (m := w)).deep (by decide)) ?_
        refine mz_retP (r := (some (.int ((-1000002))), mz_up w 64 2 ((w 64 2) + 1))) rfl ⟨(-1000002), rfl, ?_⟩
        refine mz_goP 4 (c' := (6, [some (.ref 65), some (.int xa)], [.int (w 65 19), .int 0, .int xa], mz_up w 64 2 ((w 64 2) + 1))) rfl ?_
        rw [e6519]
        refine mz_goP 2 (c' := (8, [some (.ref 65), some (.int xa)], [.int ((nI B2) - 1), .int 0, .int xa], mz_up w 64 2 ((w 64 2) + 1))) rfl ?_
        rw [show nI B2 - 1 = -1 from by rw [show B2 = 0 by omega]; decide]
        refine mz_doPQ (R := mz_r128) (as := [.int xa, .int 0, .int (-1)]) (rest := []) (r1 := some (.int 0)) (m1 := mz_up w 64 2 ((w 64 2) + 1)) mz_t128 mz_v128 rfl rfl rfl rfl rfl ((ct_inG (m := mz_up w 64 2 ((w 64 2) + 1)) (v := xa) (a := 0) (b := (-1)) q2 (by have hl : (0 : Int) ≤ (xa).toInt := Int32.le_iff_toInt_le.mp (Int32.not_lt.mp q2); exact Int32.lt_iff_toInt_lt.mpr (show (-1 : Int) < (xa).toInt by omega))).deep (by decide)) ?_
        refine mz_goP 3 (c' := (25, [some (.ref 65), some (.int xa)], [.int 2, .ref 65], mz_up w 64 2 ((w 64 2) + 1))) rfl ?_
        refine mz_doPQ (R := mz_r127) (as := [.ref 65, .int 2]) (rest := []) (r1 := some (.int (-1000002))) (m1 := mz_up (mz_up w 64 2 ((w 64 2) + 1)) 68 2 ((w 68 2) + 1)) mz_t127 mz_v127_65 rfl rfl rfl rfl rfl ((ct_err2 (m := mz_up w 64 2 ((w 64 2) + 1))).deep (by decide)) ?_
        refine mz_retP (r := (some (.int ((-1000002))), mz_up (mz_up w 64 2 ((w 64 2) + 1)) 68 2 ((w 68 2) + 1))) rfl ⟨(-1000002), rfl, ?_⟩
        show sm_I (n + 1) (mz_up (mz_up w 64 2 ((w 64 2) + 1)) 68 2 ((w 68 2) + 1))
        exact sm_I_scr hn hI2 (fun i hi => by
          have hne : ∀ r, sm_scr r = true → i ≠ r := fun r hr e => by
            rw [e, hr] at hi
            cases hi
          simp only [mz_up_ne (hne 64 rfl), mz_up_ne (hne 68 rfl)]) rfl rfl
      · obtain ⟨jxa, hjxa, rfl⟩ := nI_of q2
        refine mz_goP 5 (c' := (9, [some (.ref 0), some (.int (nI jxa))], [.int (w 57 1), .int 0, .int (nI jxa)], w)) rfl ?_
        rw [e571]
        refine mz_goP 2 (c' := (11, [some (.ref 0), some (.int (nI jxa))], [.int ((nI B1) - 1), .int 0, .int (nI jxa)], w)) rfl ?_
        rw [show nI B1 - 1 = -1 from by rw [show B1 = 0 by omega]; decide]
        refine mz_doPQ (R := mz_r121) (as := [.int (nI jxa), .int 0, .int (-1)]) (rest := []) (r1 := some (.int 0)) (m1 := w) mz_t121 mz_v121 rfl rfl rfl rfl rfl ((cs_inG (m := w) (v := nI jxa) (a := 0) (b := (-1)) q2 (show ((-1) < (nI jxa)) from (sm_m1lt rfl (show jxa < 2 ^ 31 by omega)))).deep (by decide)) ?_
        refine mz_goP 3 (c' := (19, [some (.ref 0), some (.int (nI jxa))], [.int 2, .ref 0], w)) rfl ?_
        refine mz_doPQ (R := mz_r109) (as := [.ref 0, .int 2]) (rest := []) (r1 := some (.int (-1000002))) (m1 := mz_up w 64 2 ((w 64 2) + 1)) mz_t109 mz_v109_0 rfl rfl rfl rfl rfl ((cs_err2 (m := w)).deep (by decide)) ?_
        refine mz_retP (r := (some (.int ((-1000002))), mz_up w 64 2 ((w 64 2) + 1))) rfl ⟨(-1000002), rfl, ?_⟩
        refine mz_goP 4 (c' := (6, [some (.ref 65), some (.int (nI jxa))], [.int (w 65 19), .int 0, .int (nI jxa)], mz_up w 64 2 ((w 64 2) + 1))) rfl ?_
        rw [e6519]
        refine mz_goP 2 (c' := (8, [some (.ref 65), some (.int (nI jxa))], [.int ((nI B2) - 1), .int 0, .int (nI jxa)], mz_up w 64 2 ((w 64 2) + 1))) rfl ?_
        by_cases q5 : (B2 - 1) < jxa
        · refine mz_doPQ (R := mz_r128) (as := [.int (nI jxa), .int 0, .int ((nI B2) - 1)]) (rest := []) (r1 := some (.int 0)) (m1 := mz_up w 64 2 ((w 64 2) + 1)) mz_t128 mz_v128 rfl rfl rfl rfl rfl ((ct_inG (m := mz_up w 64 2 ((w 64 2) + 1)) (v := nI jxa) (a := 0) (b := (nI B2) - 1) q2 (show (((nI B2) - 1) < (nI jxa)) from (sm_ltN (sm_subN (a := B2) (b := 1) rfl rfl (by omega)) rfl (show (B2 - 1) < jxa by omega) (show jxa < 2 ^ 31 by omega)))).deep (by decide)) ?_
          refine mz_goP 3 (c' := (25, [some (.ref 65), some (.int (nI jxa))], [.int 2, .ref 65], mz_up w 64 2 ((w 64 2) + 1))) rfl ?_
          refine mz_doPQ (R := mz_r127) (as := [.ref 65, .int 2]) (rest := []) (r1 := some (.int (-1000002))) (m1 := mz_up (mz_up w 64 2 ((w 64 2) + 1)) 68 2 ((w 68 2) + 1)) mz_t127 mz_v127_65 rfl rfl rfl rfl rfl ((ct_err2 (m := mz_up w 64 2 ((w 64 2) + 1))).deep (by decide)) ?_
          refine mz_retP (r := (some (.int ((-1000002))), mz_up (mz_up w 64 2 ((w 64 2) + 1)) 68 2 ((w 68 2) + 1))) rfl ⟨(-1000002), rfl, ?_⟩
          show sm_I (n + 1) (mz_up (mz_up w 64 2 ((w 64 2) + 1)) 68 2 ((w 68 2) + 1))
          exact sm_I_scr hn hI2 (fun i hi => by
            have hne : ∀ r, sm_scr r = true → i ≠ r := fun r hr e => by
              rw [e, hr] at hi
              cases hi
            simp only [mz_up_ne (hne 64 rfl), mz_up_ne (hne 68 rfl)]) rfl rfl
        · refine mz_doPQ (R := mz_r128) (as := [.int (nI jxa), .int 0, .int ((nI B2) - 1)]) (rest := []) (r1 := some (.int 1)) (m1 := mz_up w 64 2 ((w 64 2) + 1)) mz_t128 mz_v128 rfl rfl rfl rfl rfl ((ct_in1 (m := mz_up w 64 2 ((w 64 2) + 1)) (v := nI jxa) (a := 0) (b := (nI B2) - 1) q2 (show ¬ (((nI B2) - 1) < (nI jxa)) from (sm_nltN (sm_subN (a := B2) (b := 1) rfl rfl (by omega)) rfl (show jxa ≤ (B2 - 1) by omega) (show (B2 - 1) < 2 ^ 31 by omega)))).deep (by decide)) ?_
          refine mz_goP 4 (c' := (19, [some (.ref 65), some (.int (nI jxa))], [.int (nI jxa), .ref 74], mz_up w 64 2 ((w 64 2) + 1))) rfl ?_
          refine mz_arrP (c' := (20, [some (.ref 65), some (.int (nI jxa))], [.int (w 74 ((nI jxa).toNatClampNeg))], mz_up w 64 2 ((w 64 2) + 1))) rfl (show mz_in (nI jxa) 30 = true from sm_inN rfl (show jxa < 30 by omega) (by decide)) ?_
          rw [show (nI jxa : Int32).toNatClampNeg = jxa from sm_clN rfl (show jxa < 2 ^ 31 by omega)]
          refine mz_goP 1 (c' := (28, [some (.ref 65), some (.int (nI jxa))], [.int (w 74 jxa)], mz_up w 64 2 ((w 64 2) + 1))) rfl ?_
          refine mz_retP (r := (some (.int (w 74 jxa)), mz_up w 64 2 ((w 64 2) + 1))) rfl ⟨w 74 jxa, rfl, ?_⟩
          show sm_I (n + 1) (mz_up w 64 2 ((w 64 2) + 1))
          exact sm_I_scr hn hI2 (fun i hi => by
            have hne : ∀ r, sm_scr r = true → i ≠ r := fun r hr e => by
              rw [e, hr] at hi
              cases hi
            simp only [mz_up_ne (hne 64 rfl)]) rfl rfl
  · by_cases q6 : xa < 0
    · refine mz_goP 5 (c' := (9, [some (.ref 0), some (.int xa)], [.int (w 57 1), .int 0, .int xa], w)) rfl ?_
      rw [e571]
      refine mz_goP 2 (c' := (11, [some (.ref 0), some (.int xa)], [.int ((nI B1) - 1), .int 0, .int xa], w)) rfl ?_
      refine mz_doPQ (R := mz_r121) (as := [.int xa, .int 0, .int ((nI B1) - 1)]) (rest := []) (r1 := some (.int 0)) (m1 := w) mz_t121 mz_v121 rfl rfl rfl rfl rfl ((cs_inL (m := w) (v := xa) (a := 0) (b := (nI B1) - 1) q6).deep (by decide)) ?_
      refine mz_goP 3 (c' := (19, [some (.ref 0), some (.int xa)], [.int 2, .ref 0], w)) rfl ?_
      refine mz_doPQ (R := mz_r109) (as := [.ref 0, .int 2]) (rest := []) (r1 := some (.int (-1000002))) (m1 := mz_up w 64 2 ((w 64 2) + 1)) mz_t109 mz_v109_0 rfl rfl rfl rfl rfl ((cs_err2 (m := w)).deep (by decide)) ?_
      refine mz_retP (r := (some (.int ((-1000002))), mz_up w 64 2 ((w 64 2) + 1))) rfl ⟨(-1000002), rfl, ?_⟩
      refine mz_goP 4 (c' := (6, [some (.ref 65), some (.int xa)], [.int (w 65 19), .int 0, .int xa], mz_up w 64 2 ((w 64 2) + 1))) rfl ?_
      rw [e6519]
      refine mz_goP 2 (c' := (8, [some (.ref 65), some (.int xa)], [.int ((nI B2) - 1), .int 0, .int xa], mz_up w 64 2 ((w 64 2) + 1))) rfl ?_
      by_cases q7 : B2 = 0
      · rw [show nI B2 - 1 = -1 from by rw [show B2 = 0 by omega]; decide]
        refine mz_doPQ (R := mz_r128) (as := [.int xa, .int 0, .int (-1)]) (rest := []) (r1 := some (.int 0)) (m1 := mz_up w 64 2 ((w 64 2) + 1)) mz_t128 mz_v128 rfl rfl rfl rfl rfl ((ct_inL (m := mz_up w 64 2 ((w 64 2) + 1)) (v := xa) (a := 0) (b := (-1)) q6).deep (by decide)) ?_
        refine mz_goP 3 (c' := (25, [some (.ref 65), some (.int xa)], [.int 2, .ref 65], mz_up w 64 2 ((w 64 2) + 1))) rfl ?_
        refine mz_doPQ (R := mz_r127) (as := [.ref 65, .int 2]) (rest := []) (r1 := some (.int (-1000002))) (m1 := mz_up (mz_up w 64 2 ((w 64 2) + 1)) 68 2 ((w 68 2) + 1)) mz_t127 mz_v127_65 rfl rfl rfl rfl rfl ((ct_err2 (m := mz_up w 64 2 ((w 64 2) + 1))).deep (by decide)) ?_
        refine mz_retP (r := (some (.int ((-1000002))), mz_up (mz_up w 64 2 ((w 64 2) + 1)) 68 2 ((w 68 2) + 1))) rfl ⟨(-1000002), rfl, ?_⟩
        show sm_I (n + 1) (mz_up (mz_up w 64 2 ((w 64 2) + 1)) 68 2 ((w 68 2) + 1))
        exact sm_I_scr hn hI2 (fun i hi => by
          have hne : ∀ r, sm_scr r = true → i ≠ r := fun r hr e => by
            rw [e, hr] at hi
            cases hi
          simp only [mz_up_ne (hne 64 rfl), mz_up_ne (hne 68 rfl)]) rfl rfl
      · refine mz_doPQ (R := mz_r128) (as := [.int xa, .int 0, .int ((nI B2) - 1)]) (rest := []) (r1 := some (.int 0)) (m1 := mz_up w 64 2 ((w 64 2) + 1)) mz_t128 mz_v128 rfl rfl rfl rfl rfl ((ct_inL (m := mz_up w 64 2 ((w 64 2) + 1)) (v := xa) (a := 0) (b := (nI B2) - 1) q6).deep (by decide)) ?_
        refine mz_goP 3 (c' := (25, [some (.ref 65), some (.int xa)], [.int 2, .ref 65], mz_up w 64 2 ((w 64 2) + 1))) rfl ?_
        refine mz_doPQ (R := mz_r127) (as := [.ref 65, .int 2]) (rest := []) (r1 := some (.int (-1000002))) (m1 := mz_up (mz_up w 64 2 ((w 64 2) + 1)) 68 2 ((w 68 2) + 1)) mz_t127 mz_v127_65 rfl rfl rfl rfl rfl ((ct_err2 (m := mz_up w 64 2 ((w 64 2) + 1))).deep (by decide)) ?_
        refine mz_retP (r := (some (.int ((-1000002))), mz_up (mz_up w 64 2 ((w 64 2) + 1)) 68 2 ((w 68 2) + 1))) rfl ⟨(-1000002), rfl, ?_⟩
        show sm_I (n + 1) (mz_up (mz_up w 64 2 ((w 64 2) + 1)) 68 2 ((w 68 2) + 1))
        exact sm_I_scr hn hI2 (fun i hi => by
          have hne : ∀ r, sm_scr r = true → i ≠ r := fun r hr e => by
            rw [e, hr] at hi
            cases hi
          simp only [mz_up_ne (hne 64 rfl), mz_up_ne (hne 68 rfl)]) rfl rfl
    · obtain ⟨jxa, hjxa, rfl⟩ := nI_of q6
      refine mz_goP 5 (c' := (9, [some (.ref 0), some (.int (nI jxa))], [.int (w 57 1), .int 0, .int (nI jxa)], w)) rfl ?_
      rw [e571]
      refine mz_goP 2 (c' := (11, [some (.ref 0), some (.int (nI jxa))], [.int ((nI B1) - 1), .int 0, .int (nI jxa)], w)) rfl ?_
      by_cases q8 : (B1 - 1) < jxa
      · refine mz_doPQ (R := mz_r121) (as := [.int (nI jxa), .int 0, .int ((nI B1) - 1)]) (rest := []) (r1 := some (.int 0)) (m1 := w) mz_t121 mz_v121 rfl rfl rfl rfl rfl ((cs_inG (m := w) (v := nI jxa) (a := 0) (b := (nI B1) - 1) q6 (show (((nI B1) - 1) < (nI jxa)) from (sm_ltN (sm_subN (a := B1) (b := 1) rfl rfl (by omega)) rfl (show (B1 - 1) < jxa by omega) (show jxa < 2 ^ 31 by omega)))).deep (by decide)) ?_
        refine mz_goP 3 (c' := (19, [some (.ref 0), some (.int (nI jxa))], [.int 2, .ref 0], w)) rfl ?_
        refine mz_doPQ (R := mz_r109) (as := [.ref 0, .int 2]) (rest := []) (r1 := some (.int (-1000002))) (m1 := mz_up w 64 2 ((w 64 2) + 1)) mz_t109 mz_v109_0 rfl rfl rfl rfl rfl ((cs_err2 (m := w)).deep (by decide)) ?_
        refine mz_retP (r := (some (.int ((-1000002))), mz_up w 64 2 ((w 64 2) + 1))) rfl ⟨(-1000002), rfl, ?_⟩
        refine mz_goP 4 (c' := (6, [some (.ref 65), some (.int (nI jxa))], [.int (w 65 19), .int 0, .int (nI jxa)], mz_up w 64 2 ((w 64 2) + 1))) rfl ?_
        rw [e6519]
        refine mz_goP 2 (c' := (8, [some (.ref 65), some (.int (nI jxa))], [.int ((nI B2) - 1), .int 0, .int (nI jxa)], mz_up w 64 2 ((w 64 2) + 1))) rfl ?_
        by_cases q9 : B2 = 0
        · rw [show nI B2 - 1 = -1 from by rw [show B2 = 0 by omega]; decide]
          refine mz_doPQ (R := mz_r128) (as := [.int (nI jxa), .int 0, .int (-1)]) (rest := []) (r1 := some (.int 0)) (m1 := mz_up w 64 2 ((w 64 2) + 1)) mz_t128 mz_v128 rfl rfl rfl rfl rfl ((ct_inG (m := mz_up w 64 2 ((w 64 2) + 1)) (v := nI jxa) (a := 0) (b := (-1)) q6 (show ((-1) < (nI jxa)) from (sm_m1lt rfl (show jxa < 2 ^ 31 by omega)))).deep (by decide)) ?_
          refine mz_goP 3 (c' := (25, [some (.ref 65), some (.int (nI jxa))], [.int 2, .ref 65], mz_up w 64 2 ((w 64 2) + 1))) rfl ?_
          refine mz_doPQ (R := mz_r127) (as := [.ref 65, .int 2]) (rest := []) (r1 := some (.int (-1000002))) (m1 := mz_up (mz_up w 64 2 ((w 64 2) + 1)) 68 2 ((w 68 2) + 1)) mz_t127 mz_v127_65 rfl rfl rfl rfl rfl ((ct_err2 (m := mz_up w 64 2 ((w 64 2) + 1))).deep (by decide)) ?_
          refine mz_retP (r := (some (.int ((-1000002))), mz_up (mz_up w 64 2 ((w 64 2) + 1)) 68 2 ((w 68 2) + 1))) rfl ⟨(-1000002), rfl, ?_⟩
          show sm_I (n + 1) (mz_up (mz_up w 64 2 ((w 64 2) + 1)) 68 2 ((w 68 2) + 1))
          exact sm_I_scr hn hI2 (fun i hi => by
            have hne : ∀ r, sm_scr r = true → i ≠ r := fun r hr e => by
              rw [e, hr] at hi
              cases hi
            simp only [mz_up_ne (hne 64 rfl), mz_up_ne (hne 68 rfl)]) rfl rfl
        · by_cases q10 : (B2 - 1) < jxa
          · refine mz_doPQ (R := mz_r128) (as := [.int (nI jxa), .int 0, .int ((nI B2) - 1)]) (rest := []) (r1 := some (.int 0)) (m1 := mz_up w 64 2 ((w 64 2) + 1)) mz_t128 mz_v128 rfl rfl rfl rfl rfl ((ct_inG (m := mz_up w 64 2 ((w 64 2) + 1)) (v := nI jxa) (a := 0) (b := (nI B2) - 1) q6 (show (((nI B2) - 1) < (nI jxa)) from (sm_ltN (sm_subN (a := B2) (b := 1) rfl rfl (by omega)) rfl (show (B2 - 1) < jxa by omega) (show jxa < 2 ^ 31 by omega)))).deep (by decide)) ?_
            refine mz_goP 3 (c' := (25, [some (.ref 65), some (.int (nI jxa))], [.int 2, .ref 65], mz_up w 64 2 ((w 64 2) + 1))) rfl ?_
            refine mz_doPQ (R := mz_r127) (as := [.ref 65, .int 2]) (rest := []) (r1 := some (.int (-1000002))) (m1 := mz_up (mz_up w 64 2 ((w 64 2) + 1)) 68 2 ((w 68 2) + 1)) mz_t127 mz_v127_65 rfl rfl rfl rfl rfl ((ct_err2 (m := mz_up w 64 2 ((w 64 2) + 1))).deep (by decide)) ?_
            refine mz_retP (r := (some (.int ((-1000002))), mz_up (mz_up w 64 2 ((w 64 2) + 1)) 68 2 ((w 68 2) + 1))) rfl ⟨(-1000002), rfl, ?_⟩
            show sm_I (n + 1) (mz_up (mz_up w 64 2 ((w 64 2) + 1)) 68 2 ((w 68 2) + 1))
            exact sm_I_scr hn hI2 (fun i hi => by
              have hne : ∀ r, sm_scr r = true → i ≠ r := fun r hr e => by
                rw [e, hr] at hi
                cases hi
              simp only [mz_up_ne (hne 64 rfl), mz_up_ne (hne 68 rfl)]) rfl rfl
          · refine mz_doPQ (R := mz_r128) (as := [.int (nI jxa), .int 0, .int ((nI B2) - 1)]) (rest := []) (r1 := some (.int 1)) (m1 := mz_up w 64 2 ((w 64 2) + 1)) mz_t128 mz_v128 rfl rfl rfl rfl rfl ((ct_in1 (m := mz_up w 64 2 ((w 64 2) + 1)) (v := nI jxa) (a := 0) (b := (nI B2) - 1) q6 (show ¬ (((nI B2) - 1) < (nI jxa)) from (sm_nltN (sm_subN (a := B2) (b := 1) rfl rfl (by omega)) rfl (show jxa ≤ (B2 - 1) by omega) (show (B2 - 1) < 2 ^ 31 by omega)))).deep (by decide)) ?_
            refine mz_goP 4 (c' := (19, [some (.ref 65), some (.int (nI jxa))], [.int (nI jxa), .ref 74], mz_up w 64 2 ((w 64 2) + 1))) rfl ?_
            refine mz_arrP (c' := (20, [some (.ref 65), some (.int (nI jxa))], [.int (w 74 ((nI jxa).toNatClampNeg))], mz_up w 64 2 ((w 64 2) + 1))) rfl (show mz_in (nI jxa) 30 = true from sm_inN rfl (show jxa < 30 by omega) (by decide)) ?_
            rw [show (nI jxa : Int32).toNatClampNeg = jxa from sm_clN rfl (show jxa < 2 ^ 31 by omega)]
            refine mz_goP 1 (c' := (28, [some (.ref 65), some (.int (nI jxa))], [.int (w 74 jxa)], mz_up w 64 2 ((w 64 2) + 1))) rfl ?_
            refine mz_retP (r := (some (.int (w 74 jxa)), mz_up w 64 2 ((w 64 2) + 1))) rfl ⟨w 74 jxa, rfl, ?_⟩
            show sm_I (n + 1) (mz_up w 64 2 ((w 64 2) + 1))
            exact sm_I_scr hn hI2 (fun i hi => by
              have hne : ∀ r, sm_scr r = true → i ≠ r := fun r hr e => by
                rw [e, hr] at hi
                cases hi
              simp only [mz_up_ne (hne 64 rfl)]) rfl rfl
      · refine mz_doPQ (R := mz_r121) (as := [.int (nI jxa), .int 0, .int ((nI B1) - 1)]) (rest := []) (r1 := some (.int 1)) (m1 := w) mz_t121 mz_v121 rfl rfl rfl rfl rfl ((cs_in1 (m := w) (v := nI jxa) (a := 0) (b := (nI B1) - 1) q6 (show ¬ (((nI B1) - 1) < (nI jxa)) from (sm_nltN (sm_subN (a := B1) (b := 1) rfl rfl (by omega)) rfl (show jxa ≤ (B1 - 1) by omega) (show (B1 - 1) < 2 ^ 31 by omega)))).deep (by decide)) ?_
        refine mz_goP 5 (c' := (31, [some (.ref 0), some (.int (nI jxa))], [.int (nI jxa), .ref 58], w)) rfl ?_
        refine mz_arrP (c' := (32, [some (.ref 0), some (.int (nI jxa))], [.int (w 58 ((nI jxa).toNatClampNeg))], w)) rfl (show mz_in (nI jxa) 30 = true from sm_inN rfl (show jxa < 30 by omega) (by decide)) ?_
        rw [show (nI jxa : Int32).toNatClampNeg = jxa from sm_clN rfl (show jxa < 2 ^ 31 by omega)]
        refine mz_retP (r := (some (.int (w 58 jxa)), w)) rfl ⟨w 58 jxa, rfl, ?_⟩
        refine mz_goP 4 (c' := (6, [some (.ref 65), some (.int (nI jxa))], [.int (w 65 19), .int 0, .int (nI jxa)], w)) rfl ?_
        rw [e6519]
        refine mz_goP 2 (c' := (8, [some (.ref 65), some (.int (nI jxa))], [.int ((nI B2) - 1), .int 0, .int (nI jxa)], w)) rfl ?_
        by_cases q11 : B2 = 0
        · rw [show nI B2 - 1 = -1 from by rw [show B2 = 0 by omega]; decide]
          refine mz_doPQ (R := mz_r128) (as := [.int (nI jxa), .int 0, .int (-1)]) (rest := []) (r1 := some (.int 0)) (m1 := w) mz_t128 mz_v128 rfl rfl rfl rfl rfl ((ct_inG (m := w) (v := nI jxa) (a := 0) (b := (-1)) q6 (show ((-1) < (nI jxa)) from (sm_m1lt rfl (show jxa < 2 ^ 31 by omega)))).deep (by decide)) ?_
          refine mz_goP 3 (c' := (25, [some (.ref 65), some (.int (nI jxa))], [.int 2, .ref 65], w)) rfl ?_
          refine mz_doPQ (R := mz_r127) (as := [.ref 65, .int 2]) (rest := []) (r1 := some (.int (-1000002))) (m1 := mz_up w 68 2 ((w 68 2) + 1)) mz_t127 mz_v127_65 rfl rfl rfl rfl rfl ((ct_err2 (m := w)).deep (by decide)) ?_
          refine mz_retP (r := (some (.int ((-1000002))), mz_up w 68 2 ((w 68 2) + 1))) rfl ⟨(-1000002), rfl, ?_⟩
          show sm_I (n + 1) (mz_up w 68 2 ((w 68 2) + 1))
          exact sm_I_scr hn hI2 (fun i hi => by
            have hne : ∀ r, sm_scr r = true → i ≠ r := fun r hr e => by
              rw [e, hr] at hi
              cases hi
            simp only [mz_up_ne (hne 68 rfl)]) rfl rfl
        · by_cases q12 : (B2 - 1) < jxa
          · refine mz_doPQ (R := mz_r128) (as := [.int (nI jxa), .int 0, .int ((nI B2) - 1)]) (rest := []) (r1 := some (.int 0)) (m1 := w) mz_t128 mz_v128 rfl rfl rfl rfl rfl ((ct_inG (m := w) (v := nI jxa) (a := 0) (b := (nI B2) - 1) q6 (show (((nI B2) - 1) < (nI jxa)) from (sm_ltN (sm_subN (a := B2) (b := 1) rfl rfl (by omega)) rfl (show (B2 - 1) < jxa by omega) (show jxa < 2 ^ 31 by omega)))).deep (by decide)) ?_
            refine mz_goP 3 (c' := (25, [some (.ref 65), some (.int (nI jxa))], [.int 2, .ref 65], w)) rfl ?_
            refine mz_doPQ (R := mz_r127) (as := [.ref 65, .int 2]) (rest := []) (r1 := some (.int (-1000002))) (m1 := mz_up w 68 2 ((w 68 2) + 1)) mz_t127 mz_v127_65 rfl rfl rfl rfl rfl ((ct_err2 (m := w)).deep (by decide)) ?_
            refine mz_retP (r := (some (.int ((-1000002))), mz_up w 68 2 ((w 68 2) + 1))) rfl ⟨(-1000002), rfl, ?_⟩
            show sm_I (n + 1) (mz_up w 68 2 ((w 68 2) + 1))
            exact sm_I_scr hn hI2 (fun i hi => by
              have hne : ∀ r, sm_scr r = true → i ≠ r := fun r hr e => by
                rw [e, hr] at hi
                cases hi
              simp only [mz_up_ne (hne 68 rfl)]) rfl rfl
          · refine mz_doPQ (R := mz_r128) (as := [.int (nI jxa), .int 0, .int ((nI B2) - 1)]) (rest := []) (r1 := some (.int 1)) (m1 := w) mz_t128 mz_v128 rfl rfl rfl rfl rfl ((ct_in1 (m := w) (v := nI jxa) (a := 0) (b := (nI B2) - 1) q6 (show ¬ (((nI B2) - 1) < (nI jxa)) from (sm_nltN (sm_subN (a := B2) (b := 1) rfl rfl (by omega)) rfl (show jxa ≤ (B2 - 1) by omega) (show (B2 - 1) < 2 ^ 31 by omega)))).deep (by decide)) ?_
            refine mz_goP 4 (c' := (19, [some (.ref 65), some (.int (nI jxa))], [.int (nI jxa), .ref 74], w)) rfl ?_
            refine mz_arrP (c' := (20, [some (.ref 65), some (.int (nI jxa))], [.int (w 74 ((nI jxa).toNatClampNeg))], w)) rfl (show mz_in (nI jxa) 30 = true from sm_inN rfl (show jxa < 30 by omega) (by decide)) ?_
            rw [show (nI jxa : Int32).toNatClampNeg = jxa from sm_clN rfl (show jxa < 2 ^ 31 by omega)]
            refine mz_goP 1 (c' := (28, [some (.ref 65), some (.int (nI jxa))], [.int (w 74 jxa)], w)) rfl ?_
            refine mz_retP (r := (some (.int (w 74 jxa)), w)) rfl ⟨w 74 jxa, rfl, ?_⟩
            show sm_I (n + 1) (w)
            exact sm_I_scr hn hI2 (fun _ _ => rfl) rfl rfl
set_option maxHeartbeats 4000000 in
set_option maxRecDepth 100000 in
theorem sc_count {n : Nat} (hn : n < 64) {w : mz_M} (hI : sm_I n w) (xa : Int32) : ∃ v1 v2 m1 m2, mz_Me 100 mz_r107 [.ref 0, .int xa] w (some (.int v1)) m1 ∧ mz_Me 100 mz_r228 [.ref 65, .int xa] m1 (some (.int v2)) m2 ∧ sm_I (n + 1) m2 := by
  have hI2 := hI
  obtain ⟨hn0, ⟨-, ⟨hr80, hr5, hrr⟩, ⟨⟨TT, hTT, h81, h661⟩, htp⟩, ⟨⟨T0, hT0, hU0, hV0, -⟩, ⟨T1, hT1, hU1, hV1, -⟩, ⟨T2, hT2, hU2, hV2, -⟩⟩, ⟨hbx, hby, hbl⟩, ⟨⟨WW, HH, hWW, hHH, hWH, h202, h203, h6660, h6661⟩, h6662, h6663, h6664, hpc⟩, ⟨hth, h66160, hthr⟩, ⟨⟨AA, hAA, h111, h662⟩, h663, hwt⟩⟩, ⟨hsh, hsn⟩, ⟨hcb1, hcb2⟩, ⟨JJ, hJJ, h07, h652, hkept⟩⟩ := hI
  obtain ⟨N, hw, hr2, h660, -, -, h6615⟩ := sm_world hI2
  have hw2 := hw
  obtain ⟨hN, h4, hpb, -, -⟩ := hw2
  have hT60a := sm_T60 hV0
  have hT60b := sm_T60 hV1
  have hT60c := sm_T60 hV2
  obtain ⟨B1, hB1, e571⟩ := sm_Nof (by decide) hcb1
  obtain ⟨B2, hB2, e6519⟩ := sm_Nof (by decide) hcb2
  refine mz_two (fun _ => rfl) (fun _ => rfl) ?_
  by_cases q1 : xa < 0
  · refine mz_goP 1 (c' := (1, [some (.ref 0), some (.int xa)], [.int xa], w)) rfl ?_
    refine mz_swdP (c' := (97, [some (.ref 0), some (.int xa)], [], w)) rfl (Or.inl (Int32.lt_iff_toInt_lt.mp q1)) ?_
    refine mz_goP 2 (c' := (99, [some (.ref 0), some (.int xa)], [.int 1, .ref 0], w)) rfl ?_
    refine mz_doPQ (R := mz_r109) (as := [.ref 0, .int 1]) (rest := []) (r1 := some (.int (-1000001))) (m1 := mz_up w 64 1 ((w 64 1) + 1)) mz_t109 mz_v109_0 rfl rfl rfl rfl rfl ((cs_err1 (m := w)).deep (by decide)) ?_
    refine mz_retP (r := (some (.int ((-1000001))), mz_up w 64 1 ((w 64 1) + 1))) rfl ⟨(-1000001), rfl, ?_⟩
    refine mz_goP 1 (c' := (1, [some (.ref 65), some (.int xa)], [.int xa], mz_up w 64 1 ((w 64 1) + 1))) rfl ?_
    refine mz_swdP (c' := (83, [some (.ref 65), some (.int xa)], [], mz_up w 64 1 ((w 64 1) + 1))) rfl (Or.inl (Int32.lt_iff_toInt_lt.mp q1)) ?_
    refine mz_goP 2 (c' := (85, [some (.ref 65), some (.int xa)], [.int 1, .ref 65], mz_up w 64 1 ((w 64 1) + 1))) rfl ?_
    refine mz_doPQ (R := mz_r127) (as := [.ref 65, .int 1]) (rest := []) (r1 := some (.int (-1000001))) (m1 := mz_up (mz_up w 64 1 ((w 64 1) + 1)) 68 1 ((w 68 1) + 1)) mz_t127 mz_v127_65 rfl rfl rfl rfl rfl ((ct_err1 (m := mz_up w 64 1 ((w 64 1) + 1))).deep (by decide)) ?_
    refine mz_retP (r := (some (.int ((-1000001))), mz_up (mz_up w 64 1 ((w 64 1) + 1)) 68 1 ((w 68 1) + 1))) rfl ⟨(-1000001), rfl, ?_⟩
    show sm_I (n + 1) (mz_up (mz_up w 64 1 ((w 64 1) + 1)) 68 1 ((w 68 1) + 1))
    exact sm_I_scr hn hI2 (fun i hi => by
      have hne : ∀ r, sm_scr r = true → i ≠ r := fun r hr e => by
        rw [e, hr] at hi
        cases hi
      simp only [mz_up_ne (hne 64 rfl), mz_up_ne (hne 68 rfl)]) rfl rfl
  · by_cases q2 : 5 < xa
    · refine mz_goP 1 (c' := (1, [some (.ref 0), some (.int xa)], [.int xa], w)) rfl ?_
      refine mz_swdP (c' := (97, [some (.ref 0), some (.int xa)], [], w)) rfl (Or.inr (Int32.lt_iff_toInt_lt.mp q2)) ?_
      refine mz_goP 2 (c' := (99, [some (.ref 0), some (.int xa)], [.int 1, .ref 0], w)) rfl ?_
      refine mz_doPQ (R := mz_r109) (as := [.ref 0, .int 1]) (rest := []) (r1 := some (.int (-1000001))) (m1 := mz_up w 64 1 ((w 64 1) + 1)) mz_t109 mz_v109_0 rfl rfl rfl rfl rfl ((cs_err1 (m := w)).deep (by decide)) ?_
      refine mz_retP (r := (some (.int ((-1000001))), mz_up w 64 1 ((w 64 1) + 1))) rfl ⟨(-1000001), rfl, ?_⟩
      refine mz_goP 1 (c' := (1, [some (.ref 65), some (.int xa)], [.int xa], mz_up w 64 1 ((w 64 1) + 1))) rfl ?_
      refine mz_swdP (c' := (83, [some (.ref 65), some (.int xa)], [], mz_up w 64 1 ((w 64 1) + 1))) rfl (Or.inr (Int32.lt_iff_toInt_lt.mp q2)) ?_
      refine mz_goP 2 (c' := (85, [some (.ref 65), some (.int xa)], [.int 1, .ref 65], mz_up w 64 1 ((w 64 1) + 1))) rfl ?_
      refine mz_doPQ (R := mz_r127) (as := [.ref 65, .int 1]) (rest := []) (r1 := some (.int (-1000001))) (m1 := mz_up (mz_up w 64 1 ((w 64 1) + 1)) 68 1 ((w 68 1) + 1)) mz_t127 mz_v127_65 rfl rfl rfl rfl rfl ((ct_err1 (m := mz_up w 64 1 ((w 64 1) + 1))).deep (by decide)) ?_
      refine mz_retP (r := (some (.int ((-1000001))), mz_up (mz_up w 64 1 ((w 64 1) + 1)) 68 1 ((w 68 1) + 1))) rfl ⟨(-1000001), rfl, ?_⟩
      show sm_I (n + 1) (mz_up (mz_up w 64 1 ((w 64 1) + 1)) 68 1 ((w 68 1) + 1))
      exact sm_I_scr hn hI2 (fun i hi => by
        have hne : ∀ r, sm_scr r = true → i ≠ r := fun r hr e => by
          rw [e, hr] at hi
          cases hi
        simp only [mz_up_ne (hne 64 rfl), mz_up_ne (hne 68 rfl)]) rfl rfl
    · have hl3 : (0 : Int) ≤ (xa).toInt := Int32.le_iff_toInt_le.mp (Int32.not_lt.mp q1)
      have hu3 : (xa).toInt ≤ (5 : Int) := Int32.le_iff_toInt_le.mp (Int32.not_lt.mp q2)
      obtain rfl | rfl | rfl | rfl | rfl | rfl : xa = 0 ∨ xa = 1 ∨ xa = 2 ∨ xa = 3 ∨ xa = 4 ∨ xa = 5 := by
        rcases (show xa.toInt = 0 ∨ xa.toInt = 1 ∨ xa.toInt = 2 ∨ xa.toInt = 3 ∨ xa.toInt = 4 ∨ xa.toInt = 5 by omega) with h | h | h | h | h | h
        · exact (Or.inl (Int32.toInt_inj.mp h))
        · exact (Or.inr (Or.inl (Int32.toInt_inj.mp h)))
        · exact (Or.inr (Or.inr (Or.inl (Int32.toInt_inj.mp h))))
        · exact (Or.inr (Or.inr (Or.inr (Or.inl (Int32.toInt_inj.mp h)))))
        · exact (Or.inr (Or.inr (Or.inr (Or.inr (Or.inl (Int32.toInt_inj.mp h))))))
        · exact (Or.inr (Or.inr (Or.inr (Or.inr (Or.inr (Int32.toInt_inj.mp h))))))
      · refine mz_goP 6 (c' := (50, [some (.ref 0), some (.int 0)], [.int (w 2 4)], w)) rfl ?_
        rw [h4]
        refine mz_retP (r := (some (.int (nI N)), w)) rfl ⟨nI N, rfl, ?_⟩
        refine mz_goP 6 (c' := (46, [some (.ref 65), some (.int 0)], [.int (w 66 0)], w)) rfl ?_
        rw [h660]
        refine mz_retP (r := (some (.int (nI N)), w)) rfl ⟨nI N, rfl, ?_⟩
        show sm_I (n + 1) (w)
        exact sm_I_scr hn hI2 (fun _ _ => rfl) rfl rfl
      · refine mz_goP 5 (c' := (58, [some (.ref 0), some (.int 1)], [.ref 20], w)) rfl ?_
        refine mz_doPQ (R := mz_r3) (as := [.ref 20]) (rest := []) (r1 := some (.int ((nI WW) * (nI HH)))) (m1 := w) mz_t3 mz_v3_20 rfl rfl rfl rfl rfl ⟨?_, rfl⟩ ?_
        · refine mz_go 2 (c' := (4, [some (.ref 20)], [.int (w 20 2)], w)) rfl ?_
          rw [h202]
          refine mz_go 2 (c' := (8, [some (.ref 20)], [.int (w 20 3), .int (nI WW)], w)) rfl ?_
          rw [h203]
          refine mz_go 1 (c' := (9, [some (.ref 20)], [.int ((nI WW) * (nI HH))], w)) rfl ?_
          exact mz_ret rfl
        refine mz_retP (r := (some (.int ((nI WW) * (nI HH))), w)) rfl ⟨(nI WW) * (nI HH), rfl, ?_⟩
        refine mz_goP 3 (c' := (48, [some (.ref 65), some (.int 1)], [.ref 65], w)) rfl ?_
        refine mz_doPQ (R := mz_r183) (as := [.ref 65]) (rest := []) (r1 := some (.int (nI WW))) (m1 := w) mz_t183 mz_v183_65 rfl rfl rfl rfl rfl ⟨?_, rfl⟩ ?_
        · refine mz_go 4 (c' := (7, [some (.ref 65)], [.int (w 66 60)], w)) rfl ?_
          rw [h6660]
          exact mz_ret rfl
        refine mz_goP 1 (c' := (52, [some (.ref 65), some (.int 1)], [.ref 65, .int (nI WW)], w)) rfl ?_
        refine mz_doPQ (R := mz_r184) (as := [.ref 65]) (rest := [.int (nI WW)]) (r1 := some (.int (nI HH))) (m1 := w) mz_t184 mz_v184_65 rfl rfl rfl rfl rfl ⟨?_, rfl⟩ ?_
        · refine mz_go 4 (c' := (7, [some (.ref 65)], [.int (w 66 61)], w)) rfl ?_
          rw [h6661]
          exact mz_ret rfl
        refine mz_goP 1 (c' := (56, [some (.ref 65), some (.int 1)], [.int ((nI WW) * (nI HH))], w)) rfl ?_
        refine mz_retP (r := (some (.int ((nI WW) * (nI HH))), w)) rfl ⟨(nI WW) * (nI HH), rfl, ?_⟩
        show sm_I (n + 1) (w)
        exact sm_I_scr hn hI2 (fun _ _ => rfl) rfl rfl
      · refine mz_goP 6 (c' := (72, [some (.ref 0), some (.int 2)], [.int (w 8 1)], w)) rfl ?_
        rw [h81]
        refine mz_retP (r := (some (.int (nI TT)), w)) rfl ⟨nI TT, rfl, ?_⟩
        refine mz_goP 6 (c' := (63, [some (.ref 65), some (.int 2)], [.int (w 66 1)], w)) rfl ?_
        rw [h661]
        refine mz_retP (r := (some (.int (nI TT)), w)) rfl ⟨nI TT, rfl, ?_⟩
        show sm_I (n + 1) (w)
        exact sm_I_scr hn hI2 (fun _ _ => rfl) rfl rfl
      · refine mz_goP 5 (c' := (80, [some (.ref 0), some (.int 3)], [.int (w 1 11)], w)) rfl ?_
        rw [h111]
        refine mz_retP (r := (some (.int (nI AA)), w)) rfl ⟨nI AA, rfl, ?_⟩
        refine mz_goP 6 (c' := (70, [some (.ref 65), some (.int 3)], [.int (w 66 2)], w)) rfl ?_
        rw [h662]
        refine mz_retP (r := (some (.int (nI AA)), w)) rfl ⟨nI AA, rfl, ?_⟩
        show sm_I (n + 1) (w)
        exact sm_I_scr hn hI2 (fun _ _ => rfl) rfl rfl
      · refine mz_goP 5 (c' := (88, [some (.ref 0), some (.int 4)], [.int (w 57 1)], w)) rfl ?_
        rw [e571]
        refine mz_retP (r := (some (.int (nI B1)), w)) rfl ⟨nI B1, rfl, ?_⟩
        refine mz_goP 4 (c' := (75, [some (.ref 65), some (.int 4)], [.int (w 65 19)], w)) rfl ?_
        rw [e6519]
        refine mz_retP (r := (some (.int (nI B2)), w)) rfl ⟨nI B2, rfl, ?_⟩
        show sm_I (n + 1) (w)
        exact sm_I_scr hn hI2 (fun _ _ => rfl) rfl rfl
      · refine mz_goP 5 (c' := (96, [some (.ref 0), some (.int 5)], [.int (w 1 12)], w)) rfl ?_
        refine mz_retP (r := (some (.int (w 1 12)), w)) rfl ⟨w 1 12, rfl, ?_⟩
        refine mz_goP 6 (c' := (82, [some (.ref 65), some (.int 5)], [.int (w 66 3)], w)) rfl ?_
        rw [h663]
        refine mz_retP (r := (some (.int (w 1 12)), w)) rfl ⟨w 1 12, rfl, ?_⟩
        show sm_I (n + 1) (w)
        exact sm_I_scr hn hI2 (fun _ _ => rfl) rfl rfl
set_option maxHeartbeats 4000000 in
set_option maxRecDepth 100000 in
theorem sc_rule {n : Nat} (hn : n < 64) {w : mz_M} (hI : sm_I n w) (xa : Int32) (xb : Int32) : ∃ v1 v2 m1 m2, mz_Me 100 mz_r72 [.ref 0, .int xa, .int xb] w (some (.int v1)) m1 ∧ mz_Me 100 mz_r143 [.ref 65, .int xa, .int xb] m1 (some (.int v2)) m2 ∧ sm_I (n + 1) m2 ∧ v1 = v2 := by
  have hI2 := hI
  obtain ⟨hn0, ⟨-, ⟨hr80, hr5, hrr⟩, ⟨⟨TT, hTT, h81, h661⟩, htp⟩, ⟨⟨T0, hT0, hU0, hV0, -⟩, ⟨T1, hT1, hU1, hV1, -⟩, ⟨T2, hT2, hU2, hV2, -⟩⟩, ⟨hbx, hby, hbl⟩, ⟨⟨WW, HH, hWW, hHH, hWH, h202, h203, h6660, h6661⟩, h6662, h6663, h6664, hpc⟩, ⟨hth, h66160, hthr⟩, ⟨⟨AA, hAA, h111, h662⟩, h663, hwt⟩⟩, ⟨hsh, hsn⟩, ⟨hcb1, hcb2⟩, ⟨JJ, hJJ, h07, h652, hkept⟩⟩ := hI
  obtain ⟨N, hw, hr2, h660, -, -, h6615⟩ := sm_world hI2
  have hw2 := hw
  obtain ⟨hN, h4, hpb, -, -⟩ := hw2
  have hT60a := sm_T60 hV0
  have hT60b := sm_T60 hV1
  have hT60c := sm_T60 hV2
  obtain ⟨B1, hB1, e571⟩ := sm_Nof (by decide) hcb1
  obtain ⟨B2, hB2, e6519⟩ := sm_Nof (by decide) hcb2
  refine mz_two (fun _ => rfl) (fun _ => rfl) ?_
  by_cases q1 : (sm_bI (sm_in xa 0 5)) = 0
  · refine mz_goP 3 (c' := (3, [some (.ref 0), some (.int xa), some (.int xb), none], [.int 5, .int 0, .int xa], w)) rfl ?_
    refine mz_doPQ (R := mz_r121) (as := [.int xa, .int 0, .int 5]) (rest := []) (r1 := some (.int (sm_bI (sm_in xa 0 5)))) (m1 := w) mz_t121 mz_v121 rfl rfl rfl rfl rfl ((cs_in (m := w) xa 0 5).deep (by decide)) ?_
    refine mz_goP 1 (c' := (if (sm_bI (sm_in xa 0 5)) = 0 then 26 else 9, [some (.ref 0), some (.int xa), some (.int xb), none], [], w)) rfl ?_
    refine mz_ifTP q1 ?_
    refine mz_goP 2 (c' := (28, [some (.ref 0), some (.int xa), some (.int xb), none], [.int 1, .ref 0], w)) rfl ?_
    refine mz_doPQ (R := mz_r109) (as := [.ref 0, .int 1]) (rest := []) (r1 := some (.int (-1000001))) (m1 := mz_up w 64 1 ((w 64 1) + 1)) mz_t109 mz_v109_0 rfl rfl rfl rfl rfl ((cs_err1 (m := w)).deep (by decide)) ?_
    refine mz_retP (r := (some (.int ((-1000001))), mz_up w 64 1 ((w 64 1) + 1))) rfl ⟨(-1000001), rfl, ?_⟩
    refine mz_goP 3 (c' := (3, [some (.ref 65), some (.int xa), some (.int xb), none], [.int 5, .int 0, .int xa], mz_up w 64 1 ((w 64 1) + 1))) rfl ?_
    refine mz_doPQ (R := mz_r128) (as := [.int xa, .int 0, .int 5]) (rest := []) (r1 := some (.int (sm_bI (sm_in xa 0 5)))) (m1 := mz_up w 64 1 ((w 64 1) + 1)) mz_t128 mz_v128 rfl rfl rfl rfl rfl ((ct_in (m := mz_up w 64 1 ((w 64 1) + 1)) xa 0 5).deep (by decide)) ?_
    refine mz_goP 1 (c' := (if (sm_bI (sm_in xa 0 5)) = 0 then 17 else 9, [some (.ref 65), some (.int xa), some (.int xb), none], [], mz_up w 64 1 ((w 64 1) + 1))) rfl ?_
    refine mz_ifTP q1 ?_
    refine mz_goP 2 (c' := (19, [some (.ref 65), some (.int xa), some (.int xb), none], [.int 1, .ref 65], mz_up w 64 1 ((w 64 1) + 1))) rfl ?_
    refine mz_doPQ (R := mz_r127) (as := [.ref 65, .int 1]) (rest := []) (r1 := some (.int (-1000001))) (m1 := mz_up (mz_up w 64 1 ((w 64 1) + 1)) 68 1 ((w 68 1) + 1)) mz_t127 mz_v127_65 rfl rfl rfl rfl rfl ((ct_err1 (m := mz_up w 64 1 ((w 64 1) + 1))).deep (by decide)) ?_
    refine mz_retP (r := (some (.int ((-1000001))), mz_up (mz_up w 64 1 ((w 64 1) + 1)) 68 1 ((w 68 1) + 1))) rfl ⟨(-1000001), rfl, ?_, rfl⟩
    show sm_I (n + 1) (mz_up (mz_up w 64 1 ((w 64 1) + 1)) 68 1 ((w 68 1) + 1))
    exact sm_I_scr hn hI2 (fun i hi => by
      have hne : ∀ r, sm_scr r = true → i ≠ r := fun r hr e => by
        rw [e, hr] at hi
        cases hi
      simp only [mz_up_ne (hne 64 rfl), mz_up_ne (hne 68 rfl)]) rfl rfl
  · have hl2 : (0 : Int) ≤ (xa).toInt := Int32.le_iff_toInt_le.mp (Int32.not_lt.mp (sm_in_lo q1))
    have hu2 : (xa).toInt ≤ (5 : Int) := Int32.le_iff_toInt_le.mp (Int32.not_lt.mp (sm_in_hi q1))
    obtain rfl | rfl | rfl | rfl | rfl | rfl : xa = 0 ∨ xa = 1 ∨ xa = 2 ∨ xa = 3 ∨ xa = 4 ∨ xa = 5 := by
      rcases (show xa.toInt = 0 ∨ xa.toInt = 1 ∨ xa.toInt = 2 ∨ xa.toInt = 3 ∨ xa.toInt = 4 ∨ xa.toInt = 5 by omega) with h | h | h | h | h | h
      · exact (Or.inl (Int32.toInt_inj.mp h))
      · exact (Or.inr (Or.inl (Int32.toInt_inj.mp h)))
      · exact (Or.inr (Or.inr (Or.inl (Int32.toInt_inj.mp h))))
      · exact (Or.inr (Or.inr (Or.inr (Or.inl (Int32.toInt_inj.mp h)))))
      · exact (Or.inr (Or.inr (Or.inr (Or.inr (Or.inl (Int32.toInt_inj.mp h))))))
      · exact (Or.inr (Or.inr (Or.inr (Or.inr (Or.inr (Int32.toInt_inj.mp h))))))
    · refine mz_goP 3 (c' := (3, [some (.ref 0), some (.int 0), some (.int xb), none], [.int 5, .int 0, .int 0], w)) rfl ?_
      refine mz_doPQ (R := mz_r121) (as := [.int 0, .int 0, .int 5]) (rest := []) (r1 := some (.int 1)) (m1 := w) mz_t121 mz_v121 rfl rfl rfl rfl rfl ((cs_in1 (m := w) (v := 0) (a := 0) (b := 5) (by decide) (by decide)).deep (by decide)) ?_
      refine mz_goP 8 (c' := (20, [some (.ref 0), some (.int 0), some (.int xb), none], [.int 99, .int 0, .int xb], w)) rfl ?_
      by_cases q3 : (sm_bI (sm_in xb 0 99)) = 0
      · refine mz_doPQ (R := mz_r121) (as := [.int xb, .int 0, .int 99]) (rest := []) (r1 := some (.int (sm_bI (sm_in xb 0 99)))) (m1 := w) mz_t121 mz_v121 rfl rfl rfl rfl rfl ((cs_in (m := w) xb 0 99).deep (by decide)) ?_
        refine mz_goP 1 (c' := (if (sm_bI (sm_in xb 0 99)) = 0 then 26 else 32, [some (.ref 0), some (.int 0), some (.int xb), none], [], w)) rfl ?_
        refine mz_ifTP q3 ?_
        refine mz_goP 2 (c' := (28, [some (.ref 0), some (.int 0), some (.int xb), none], [.int 1, .ref 0], w)) rfl ?_
        refine mz_doPQ (R := mz_r109) (as := [.ref 0, .int 1]) (rest := []) (r1 := some (.int (-1000001))) (m1 := mz_up w 64 1 ((w 64 1) + 1)) mz_t109 mz_v109_0 rfl rfl rfl rfl rfl ((cs_err1 (m := w)).deep (by decide)) ?_
        refine mz_retP (r := (some (.int ((-1000001))), mz_up w 64 1 ((w 64 1) + 1))) rfl ⟨(-1000001), rfl, ?_⟩
        refine mz_goP 3 (c' := (3, [some (.ref 65), some (.int 0), some (.int xb), none], [.int 5, .int 0, .int 0], mz_up w 64 1 ((w 64 1) + 1))) rfl ?_
        refine mz_doPQ (R := mz_r128) (as := [.int 0, .int 0, .int 5]) (rest := []) (r1 := some (.int 1)) (m1 := mz_up w 64 1 ((w 64 1) + 1)) mz_t128 mz_v128 rfl rfl rfl rfl rfl ((ct_in1 (m := mz_up w 64 1 ((w 64 1) + 1)) (v := 0) (a := 0) (b := 5) (by decide) (by decide)).deep (by decide)) ?_
        refine mz_goP 3 (c' := (11, [some (.ref 65), some (.int 0), some (.int xb), none], [.int xb, .int 0], mz_up w 64 1 ((w 64 1) + 1))) rfl ?_
        refine mz_doPQ (R := mz_r142) (as := [.int 0, .int xb]) (rest := []) (r1 := some (.int (sm_bI (sm_in xb 0 99)))) (m1 := mz_up w 64 1 ((w 64 1) + 1)) mz_t142 mz_v142 rfl rfl rfl rfl rfl ⟨?_, sm_fitB _⟩ ?_
        · refine mz_go 9 (c' := (33, [some (.int 0), some (.int xb)], [.int 99, .int 0, .int xb], mz_up w 64 1 ((w 64 1) + 1))) rfl ?_
          refine mz_doQ (R := mz_r128) (as := [.int xb, .int 0, .int 99]) (rest := []) (r1 := some (.int (sm_bI (sm_in xb 0 99)))) (m1 := mz_up w 64 1 ((w 64 1) + 1)) mz_t128 mz_v128 rfl rfl rfl rfl rfl ((ct_in (m := mz_up w 64 1 ((w 64 1) + 1)) xb 0 99).deep (by decide)) ?_
          exact mz_ret rfl
        refine mz_goP 1 (c' := (if (sm_bI (sm_in xb 0 99)) = 0 then 17 else 23, [some (.ref 65), some (.int 0), some (.int xb), none], [], mz_up w 64 1 ((w 64 1) + 1))) rfl ?_
        refine mz_ifTP q3 ?_
        refine mz_goP 2 (c' := (19, [some (.ref 65), some (.int 0), some (.int xb), none], [.int 1, .ref 65], mz_up w 64 1 ((w 64 1) + 1))) rfl ?_
        refine mz_doPQ (R := mz_r127) (as := [.ref 65, .int 1]) (rest := []) (r1 := some (.int (-1000001))) (m1 := mz_up (mz_up w 64 1 ((w 64 1) + 1)) 68 1 ((w 68 1) + 1)) mz_t127 mz_v127_65 rfl rfl rfl rfl rfl ((ct_err1 (m := mz_up w 64 1 ((w 64 1) + 1))).deep (by decide)) ?_
        refine mz_retP (r := (some (.int ((-1000001))), mz_up (mz_up w 64 1 ((w 64 1) + 1)) 68 1 ((w 68 1) + 1))) rfl ⟨(-1000001), rfl, ?_, rfl⟩
        show sm_I (n + 1) (mz_up (mz_up w 64 1 ((w 64 1) + 1)) 68 1 ((w 68 1) + 1))
        exact sm_I_scr hn hI2 (fun i hi => by
          have hne : ∀ r, sm_scr r = true → i ≠ r := fun r hr e => by
            rw [e, hr] at hi
            cases hi
          simp only [mz_up_ne (hne 64 rfl), mz_up_ne (hne 68 rfl)]) rfl rfl
      · refine mz_doPQ (R := mz_r121) (as := [.int xb, .int 0, .int 99]) (rest := []) (r1 := some (.int 1)) (m1 := w) mz_t121 mz_v121 rfl rfl rfl rfl rfl ((cs_in1 (m := w) (v := xb) (a := 0) (b := 99) (show ¬ (xb < 0) from (sm_in_lo q3)) (show ¬ (99 < xb) from (sm_in_hi q3))).deep (by decide)) ?_
        refine mz_goP 14 (c' := (53, [some (.ref 0), some (.int 0), some (.int xb), some (.int (w 7 0))], [.int (w 7 0)], mz_up w 7 0 xb)) rfl ?_
        refine mz_retP (r := (some (.int (w 7 0)), mz_up w 7 0 xb)) rfl ⟨w 7 0, rfl, ?_⟩
        refine mz_goP 3 (c' := (3, [some (.ref 65), some (.int 0), some (.int xb), none], [.int 5, .int 0, .int 0], mz_up w 7 0 xb)) rfl ?_
        refine mz_doPQ (R := mz_r128) (as := [.int 0, .int 0, .int 5]) (rest := []) (r1 := some (.int 1)) (m1 := mz_up w 7 0 xb) mz_t128 mz_v128 rfl rfl rfl rfl rfl ((ct_in1 (m := mz_up w 7 0 xb) (v := 0) (a := 0) (b := 5) (by decide) (by decide)).deep (by decide)) ?_
        refine mz_goP 3 (c' := (11, [some (.ref 65), some (.int 0), some (.int xb), none], [.int xb, .int 0], mz_up w 7 0 xb)) rfl ?_
        refine mz_doPQ (R := mz_r142) (as := [.int 0, .int xb]) (rest := []) (r1 := some (.int 1)) (m1 := mz_up w 7 0 xb) mz_t142 mz_v142 rfl rfl rfl rfl rfl ⟨?_, rfl⟩ ?_
        · refine mz_go 9 (c' := (33, [some (.int 0), some (.int xb)], [.int 99, .int 0, .int xb], mz_up w 7 0 xb)) rfl ?_
          refine mz_doQ (R := mz_r128) (as := [.int xb, .int 0, .int 99]) (rest := []) (r1 := some (.int 1)) (m1 := mz_up w 7 0 xb) mz_t128 mz_v128 rfl rfl rfl rfl rfl ((ct_in1 (m := mz_up w 7 0 xb) (v := xb) (a := 0) (b := 99) (show ¬ (xb < 0) from (sm_in_lo q3)) (show ¬ (99 < xb) from (sm_in_hi q3))).deep (by decide)) ?_
          exact mz_ret rfl
        refine mz_goP 7 (c' := (32, [some (.ref 65), some (.int 0), some (.int xb), none], [.int (w 66 10)], mz_up w 7 0 xb)) rfl ?_
        rw [show w 66 10 = w 7 0 from hrr 0 (by decide)]
        refine mz_goP 9 (c' := (44, [some (.ref 65), some (.int 0), some (.int xb), some (.int (w 7 0))], [.int (w 7 0)], mz_up (mz_up w 7 0 xb) 66 10 xb)) rfl ?_
        refine mz_retP (r := (some (.int (w 7 0)), mz_up (mz_up w 7 0 xb) 66 10 xb)) rfl ⟨w 7 0, rfl, ?_, rfl⟩
        show sm_I (n + 1) (mz_up (mz_up w 7 0 xb) 66 10 xb)
        obtain ⟨-, ⟨d1, d2, d3, ⟨d4, d4b, d4c⟩, d5, d6, d7, d8⟩, da, db, dc⟩ := hI2
        have hs : ∀ i, i ≠ 10 → (mz_up (mz_up w 7 0 xb) 66 10 xb) 66 i = w 66 i := fun i p0 => by rw [mz_up_eq, if_neg (by omega), mz_up_ne (show (66 : Nat) ≠ 7 by decide)]
        exact ⟨hn, ⟨sm_k1 (hs 0 (by omega)) (fun i h1 h2 => hs i (by omega)) d1, ⟨d2.1, d2.2.1, fun i h => by
          rcases (show i = 0 ∨ i = 1 ∨ i = 2 ∨ i = 3 ∨ i = 4 ∨ i = 5 by omega) with rfl | rfl | rfl | rfl | rfl | rfl <;> first | rfl | exact (hs _ (by omega)).trans (d2.2.2 _ (by omega))⟩, sm_k3 (hs 1 (by omega)) (fun i h1 h2 => hs i (by omega)) d3, ⟨sm_k4 (fun i h1 h2 => hs i (by omega)) d4, sm_k4 (fun i h1 h2 => hs i (by omega)) d4b, sm_k4 (fun i h1 h2 => hs i (by omega)) d4c⟩, sm_k5 (fun i h1 h2 => hs i (by omega)) d5, sm_k6 (fun i h1 h2 => hs i (by omega)) d6, sm_k7 (fun i h1 h2 => hs i (by omega)) d7, sm_k8 (hs 2 (by omega)) (hs 3 (by omega)) (fun i h1 h2 => hs i (by omega)) d8⟩, da, db, sm_cc_of (fun i h1 h2 => by simp only [mz_up_ne (show i ≠ 66 by omega), mz_up_ne (show i ≠ 7 by omega)]) dc⟩
    · refine mz_goP 3 (c' := (3, [some (.ref 0), some (.int 1), some (.int xb), none], [.int 5, .int 0, .int 1], w)) rfl ?_
      refine mz_doPQ (R := mz_r121) (as := [.int 1, .int 0, .int 5]) (rest := []) (r1 := some (.int 1)) (m1 := w) mz_t121 mz_v121 rfl rfl rfl rfl rfl ((cs_in1 (m := w) (v := 1) (a := 0) (b := 5) (by decide) (by decide)).deep (by decide)) ?_
      refine mz_goP 8 (c' := (20, [some (.ref 0), some (.int 1), some (.int xb), none], [.int 99, .int 0, .int xb], w)) rfl ?_
      by_cases q4 : (sm_bI (sm_in xb 0 99)) = 0
      · refine mz_doPQ (R := mz_r121) (as := [.int xb, .int 0, .int 99]) (rest := []) (r1 := some (.int (sm_bI (sm_in xb 0 99)))) (m1 := w) mz_t121 mz_v121 rfl rfl rfl rfl rfl ((cs_in (m := w) xb 0 99).deep (by decide)) ?_
        refine mz_goP 1 (c' := (if (sm_bI (sm_in xb 0 99)) = 0 then 26 else 32, [some (.ref 0), some (.int 1), some (.int xb), none], [], w)) rfl ?_
        refine mz_ifTP q4 ?_
        refine mz_goP 2 (c' := (28, [some (.ref 0), some (.int 1), some (.int xb), none], [.int 1, .ref 0], w)) rfl ?_
        refine mz_doPQ (R := mz_r109) (as := [.ref 0, .int 1]) (rest := []) (r1 := some (.int (-1000001))) (m1 := mz_up w 64 1 ((w 64 1) + 1)) mz_t109 mz_v109_0 rfl rfl rfl rfl rfl ((cs_err1 (m := w)).deep (by decide)) ?_
        refine mz_retP (r := (some (.int ((-1000001))), mz_up w 64 1 ((w 64 1) + 1))) rfl ⟨(-1000001), rfl, ?_⟩
        refine mz_goP 3 (c' := (3, [some (.ref 65), some (.int 1), some (.int xb), none], [.int 5, .int 0, .int 1], mz_up w 64 1 ((w 64 1) + 1))) rfl ?_
        refine mz_doPQ (R := mz_r128) (as := [.int 1, .int 0, .int 5]) (rest := []) (r1 := some (.int 1)) (m1 := mz_up w 64 1 ((w 64 1) + 1)) mz_t128 mz_v128 rfl rfl rfl rfl rfl ((ct_in1 (m := mz_up w 64 1 ((w 64 1) + 1)) (v := 1) (a := 0) (b := 5) (by decide) (by decide)).deep (by decide)) ?_
        refine mz_goP 3 (c' := (11, [some (.ref 65), some (.int 1), some (.int xb), none], [.int xb, .int 1], mz_up w 64 1 ((w 64 1) + 1))) rfl ?_
        refine mz_doPQ (R := mz_r142) (as := [.int 1, .int xb]) (rest := []) (r1 := some (.int (sm_bI (sm_in xb 0 99)))) (m1 := mz_up w 64 1 ((w 64 1) + 1)) mz_t142 mz_v142 rfl rfl rfl rfl rfl ⟨?_, sm_fitB _⟩ ?_
        · refine mz_go 9 (c' := (33, [some (.int 1), some (.int xb)], [.int 99, .int 0, .int xb], mz_up w 64 1 ((w 64 1) + 1))) rfl ?_
          refine mz_doQ (R := mz_r128) (as := [.int xb, .int 0, .int 99]) (rest := []) (r1 := some (.int (sm_bI (sm_in xb 0 99)))) (m1 := mz_up w 64 1 ((w 64 1) + 1)) mz_t128 mz_v128 rfl rfl rfl rfl rfl ((ct_in (m := mz_up w 64 1 ((w 64 1) + 1)) xb 0 99).deep (by decide)) ?_
          exact mz_ret rfl
        refine mz_goP 1 (c' := (if (sm_bI (sm_in xb 0 99)) = 0 then 17 else 23, [some (.ref 65), some (.int 1), some (.int xb), none], [], mz_up w 64 1 ((w 64 1) + 1))) rfl ?_
        refine mz_ifTP q4 ?_
        refine mz_goP 2 (c' := (19, [some (.ref 65), some (.int 1), some (.int xb), none], [.int 1, .ref 65], mz_up w 64 1 ((w 64 1) + 1))) rfl ?_
        refine mz_doPQ (R := mz_r127) (as := [.ref 65, .int 1]) (rest := []) (r1 := some (.int (-1000001))) (m1 := mz_up (mz_up w 64 1 ((w 64 1) + 1)) 68 1 ((w 68 1) + 1)) mz_t127 mz_v127_65 rfl rfl rfl rfl rfl ((ct_err1 (m := mz_up w 64 1 ((w 64 1) + 1))).deep (by decide)) ?_
        refine mz_retP (r := (some (.int ((-1000001))), mz_up (mz_up w 64 1 ((w 64 1) + 1)) 68 1 ((w 68 1) + 1))) rfl ⟨(-1000001), rfl, ?_, rfl⟩
        show sm_I (n + 1) (mz_up (mz_up w 64 1 ((w 64 1) + 1)) 68 1 ((w 68 1) + 1))
        exact sm_I_scr hn hI2 (fun i hi => by
          have hne : ∀ r, sm_scr r = true → i ≠ r := fun r hr e => by
            rw [e, hr] at hi
            cases hi
          simp only [mz_up_ne (hne 64 rfl), mz_up_ne (hne 68 rfl)]) rfl rfl
      · refine mz_doPQ (R := mz_r121) (as := [.int xb, .int 0, .int 99]) (rest := []) (r1 := some (.int 1)) (m1 := w) mz_t121 mz_v121 rfl rfl rfl rfl rfl ((cs_in1 (m := w) (v := xb) (a := 0) (b := 99) (show ¬ (xb < 0) from (sm_in_lo q4)) (show ¬ (99 < xb) from (sm_in_hi q4))).deep (by decide)) ?_
        refine mz_goP 14 (c' := (53, [some (.ref 0), some (.int 1), some (.int xb), some (.int (w 7 1))], [.int (w 7 1)], mz_up w 7 1 xb)) rfl ?_
        refine mz_retP (r := (some (.int (w 7 1)), mz_up w 7 1 xb)) rfl ⟨w 7 1, rfl, ?_⟩
        refine mz_goP 3 (c' := (3, [some (.ref 65), some (.int 1), some (.int xb), none], [.int 5, .int 0, .int 1], mz_up w 7 1 xb)) rfl ?_
        refine mz_doPQ (R := mz_r128) (as := [.int 1, .int 0, .int 5]) (rest := []) (r1 := some (.int 1)) (m1 := mz_up w 7 1 xb) mz_t128 mz_v128 rfl rfl rfl rfl rfl ((ct_in1 (m := mz_up w 7 1 xb) (v := 1) (a := 0) (b := 5) (by decide) (by decide)).deep (by decide)) ?_
        refine mz_goP 3 (c' := (11, [some (.ref 65), some (.int 1), some (.int xb), none], [.int xb, .int 1], mz_up w 7 1 xb)) rfl ?_
        refine mz_doPQ (R := mz_r142) (as := [.int 1, .int xb]) (rest := []) (r1 := some (.int 1)) (m1 := mz_up w 7 1 xb) mz_t142 mz_v142 rfl rfl rfl rfl rfl ⟨?_, rfl⟩ ?_
        · refine mz_go 9 (c' := (33, [some (.int 1), some (.int xb)], [.int 99, .int 0, .int xb], mz_up w 7 1 xb)) rfl ?_
          refine mz_doQ (R := mz_r128) (as := [.int xb, .int 0, .int 99]) (rest := []) (r1 := some (.int 1)) (m1 := mz_up w 7 1 xb) mz_t128 mz_v128 rfl rfl rfl rfl rfl ((ct_in1 (m := mz_up w 7 1 xb) (v := xb) (a := 0) (b := 99) (show ¬ (xb < 0) from (sm_in_lo q4)) (show ¬ (99 < xb) from (sm_in_hi q4))).deep (by decide)) ?_
          exact mz_ret rfl
        refine mz_goP 7 (c' := (32, [some (.ref 65), some (.int 1), some (.int xb), none], [.int (w 66 11)], mz_up w 7 1 xb)) rfl ?_
        rw [show w 66 11 = w 7 1 from hrr 1 (by decide)]
        refine mz_goP 9 (c' := (44, [some (.ref 65), some (.int 1), some (.int xb), some (.int (w 7 1))], [.int (w 7 1)], mz_up (mz_up w 7 1 xb) 66 11 xb)) rfl ?_
        refine mz_retP (r := (some (.int (w 7 1)), mz_up (mz_up w 7 1 xb) 66 11 xb)) rfl ⟨w 7 1, rfl, ?_, rfl⟩
        show sm_I (n + 1) (mz_up (mz_up w 7 1 xb) 66 11 xb)
        obtain ⟨-, ⟨d1, d2, d3, ⟨d4, d4b, d4c⟩, d5, d6, d7, d8⟩, da, db, dc⟩ := hI2
        have hs : ∀ i, i ≠ 11 → (mz_up (mz_up w 7 1 xb) 66 11 xb) 66 i = w 66 i := fun i p0 => by rw [mz_up_eq, if_neg (by omega), mz_up_ne (show (66 : Nat) ≠ 7 by decide)]
        exact ⟨hn, ⟨sm_k1 (hs 0 (by omega)) (fun i h1 h2 => hs i (by omega)) d1, ⟨d2.1, d2.2.1, fun i h => by
          rcases (show i = 0 ∨ i = 1 ∨ i = 2 ∨ i = 3 ∨ i = 4 ∨ i = 5 by omega) with rfl | rfl | rfl | rfl | rfl | rfl <;> first | rfl | exact (hs _ (by omega)).trans (d2.2.2 _ (by omega))⟩, sm_k3 (hs 1 (by omega)) (fun i h1 h2 => hs i (by omega)) d3, ⟨sm_k4 (fun i h1 h2 => hs i (by omega)) d4, sm_k4 (fun i h1 h2 => hs i (by omega)) d4b, sm_k4 (fun i h1 h2 => hs i (by omega)) d4c⟩, sm_k5 (fun i h1 h2 => hs i (by omega)) d5, sm_k6 (fun i h1 h2 => hs i (by omega)) d6, sm_k7 (fun i h1 h2 => hs i (by omega)) d7, sm_k8 (hs 2 (by omega)) (hs 3 (by omega)) (fun i h1 h2 => hs i (by omega)) d8⟩, da, db, sm_cc_of (fun i h1 h2 => by simp only [mz_up_ne (show i ≠ 66 by omega), mz_up_ne (show i ≠ 7 by omega)]) dc⟩
    · refine mz_goP 3 (c' := (3, [some (.ref 0), some (.int 2), some (.int xb), none], [.int 5, .int 0, .int 2], w)) rfl ?_
      refine mz_doPQ (R := mz_r121) (as := [.int 2, .int 0, .int 5]) (rest := []) (r1 := some (.int 1)) (m1 := w) mz_t121 mz_v121 rfl rfl rfl rfl rfl ((cs_in1 (m := w) (v := 2) (a := 0) (b := 5) (by decide) (by decide)).deep (by decide)) ?_
      refine mz_goP 8 (c' := (20, [some (.ref 0), some (.int 2), some (.int xb), none], [.int 80, .int 1, .int xb], w)) rfl ?_
      by_cases q5 : (sm_bI (sm_in xb 1 80)) = 0
      · refine mz_doPQ (R := mz_r121) (as := [.int xb, .int 1, .int 80]) (rest := []) (r1 := some (.int (sm_bI (sm_in xb 1 80)))) (m1 := w) mz_t121 mz_v121 rfl rfl rfl rfl rfl ((cs_in (m := w) xb 1 80).deep (by decide)) ?_
        refine mz_goP 1 (c' := (if (sm_bI (sm_in xb 1 80)) = 0 then 26 else 32, [some (.ref 0), some (.int 2), some (.int xb), none], [], w)) rfl ?_
        refine mz_ifTP q5 ?_
        refine mz_goP 2 (c' := (28, [some (.ref 0), some (.int 2), some (.int xb), none], [.int 1, .ref 0], w)) rfl ?_
        refine mz_doPQ (R := mz_r109) (as := [.ref 0, .int 1]) (rest := []) (r1 := some (.int (-1000001))) (m1 := mz_up w 64 1 ((w 64 1) + 1)) mz_t109 mz_v109_0 rfl rfl rfl rfl rfl ((cs_err1 (m := w)).deep (by decide)) ?_
        refine mz_retP (r := (some (.int ((-1000001))), mz_up w 64 1 ((w 64 1) + 1))) rfl ⟨(-1000001), rfl, ?_⟩
        refine mz_goP 3 (c' := (3, [some (.ref 65), some (.int 2), some (.int xb), none], [.int 5, .int 0, .int 2], mz_up w 64 1 ((w 64 1) + 1))) rfl ?_
        refine mz_doPQ (R := mz_r128) (as := [.int 2, .int 0, .int 5]) (rest := []) (r1 := some (.int 1)) (m1 := mz_up w 64 1 ((w 64 1) + 1)) mz_t128 mz_v128 rfl rfl rfl rfl rfl ((ct_in1 (m := mz_up w 64 1 ((w 64 1) + 1)) (v := 2) (a := 0) (b := 5) (by decide) (by decide)).deep (by decide)) ?_
        refine mz_goP 3 (c' := (11, [some (.ref 65), some (.int 2), some (.int xb), none], [.int xb, .int 2], mz_up w 64 1 ((w 64 1) + 1))) rfl ?_
        refine mz_doPQ (R := mz_r142) (as := [.int 2, .int xb]) (rest := []) (r1 := some (.int (sm_bI (sm_in xb 1 80)))) (m1 := mz_up w 64 1 ((w 64 1) + 1)) mz_t142 mz_v142 rfl rfl rfl rfl rfl ⟨?_, sm_fitB _⟩ ?_
        · refine mz_go 6 (c' := (9, [some (.int 2), some (.int xb)], [.int 80, .int 1, .int xb], mz_up w 64 1 ((w 64 1) + 1))) rfl ?_
          refine mz_doQ (R := mz_r128) (as := [.int xb, .int 1, .int 80]) (rest := []) (r1 := some (.int (sm_bI (sm_in xb 1 80)))) (m1 := mz_up w 64 1 ((w 64 1) + 1)) mz_t128 mz_v128 rfl rfl rfl rfl rfl ((ct_in (m := mz_up w 64 1 ((w 64 1) + 1)) xb 1 80).deep (by decide)) ?_
          refine mz_go 1 (c' := (36, [some (.int 2), some (.int xb)], [.int (sm_bI (sm_in xb 1 80))], mz_up w 64 1 ((w 64 1) + 1))) rfl ?_
          exact mz_ret rfl
        refine mz_goP 1 (c' := (if (sm_bI (sm_in xb 1 80)) = 0 then 17 else 23, [some (.ref 65), some (.int 2), some (.int xb), none], [], mz_up w 64 1 ((w 64 1) + 1))) rfl ?_
        refine mz_ifTP q5 ?_
        refine mz_goP 2 (c' := (19, [some (.ref 65), some (.int 2), some (.int xb), none], [.int 1, .ref 65], mz_up w 64 1 ((w 64 1) + 1))) rfl ?_
        refine mz_doPQ (R := mz_r127) (as := [.ref 65, .int 1]) (rest := []) (r1 := some (.int (-1000001))) (m1 := mz_up (mz_up w 64 1 ((w 64 1) + 1)) 68 1 ((w 68 1) + 1)) mz_t127 mz_v127_65 rfl rfl rfl rfl rfl ((ct_err1 (m := mz_up w 64 1 ((w 64 1) + 1))).deep (by decide)) ?_
        refine mz_retP (r := (some (.int ((-1000001))), mz_up (mz_up w 64 1 ((w 64 1) + 1)) 68 1 ((w 68 1) + 1))) rfl ⟨(-1000001), rfl, ?_, rfl⟩
        show sm_I (n + 1) (mz_up (mz_up w 64 1 ((w 64 1) + 1)) 68 1 ((w 68 1) + 1))
        exact sm_I_scr hn hI2 (fun i hi => by
          have hne : ∀ r, sm_scr r = true → i ≠ r := fun r hr e => by
            rw [e, hr] at hi
            cases hi
          simp only [mz_up_ne (hne 64 rfl), mz_up_ne (hne 68 rfl)]) rfl rfl
      · refine mz_doPQ (R := mz_r121) (as := [.int xb, .int 1, .int 80]) (rest := []) (r1 := some (.int 1)) (m1 := w) mz_t121 mz_v121 rfl rfl rfl rfl rfl ((cs_in1 (m := w) (v := xb) (a := 1) (b := 80) (show ¬ (xb < 1) from (sm_in_lo q5)) (show ¬ (80 < xb) from (sm_in_hi q5))).deep (by decide)) ?_
        refine mz_goP 14 (c' := (53, [some (.ref 0), some (.int 2), some (.int xb), some (.int (w 7 2))], [.int (w 7 2)], mz_up w 7 2 xb)) rfl ?_
        refine mz_retP (r := (some (.int (w 7 2)), mz_up w 7 2 xb)) rfl ⟨w 7 2, rfl, ?_⟩
        refine mz_goP 3 (c' := (3, [some (.ref 65), some (.int 2), some (.int xb), none], [.int 5, .int 0, .int 2], mz_up w 7 2 xb)) rfl ?_
        refine mz_doPQ (R := mz_r128) (as := [.int 2, .int 0, .int 5]) (rest := []) (r1 := some (.int 1)) (m1 := mz_up w 7 2 xb) mz_t128 mz_v128 rfl rfl rfl rfl rfl ((ct_in1 (m := mz_up w 7 2 xb) (v := 2) (a := 0) (b := 5) (by decide) (by decide)).deep (by decide)) ?_
        refine mz_goP 3 (c' := (11, [some (.ref 65), some (.int 2), some (.int xb), none], [.int xb, .int 2], mz_up w 7 2 xb)) rfl ?_
        refine mz_doPQ (R := mz_r142) (as := [.int 2, .int xb]) (rest := []) (r1 := some (.int 1)) (m1 := mz_up w 7 2 xb) mz_t142 mz_v142 rfl rfl rfl rfl rfl ⟨?_, rfl⟩ ?_
        · refine mz_go 6 (c' := (9, [some (.int 2), some (.int xb)], [.int 80, .int 1, .int xb], mz_up w 7 2 xb)) rfl ?_
          refine mz_doQ (R := mz_r128) (as := [.int xb, .int 1, .int 80]) (rest := []) (r1 := some (.int 1)) (m1 := mz_up w 7 2 xb) mz_t128 mz_v128 rfl rfl rfl rfl rfl ((ct_in1 (m := mz_up w 7 2 xb) (v := xb) (a := 1) (b := 80) (show ¬ (xb < 1) from (sm_in_lo q5)) (show ¬ (80 < xb) from (sm_in_hi q5))).deep (by decide)) ?_
          refine mz_go 1 (c' := (36, [some (.int 2), some (.int xb)], [.int 1], mz_up w 7 2 xb)) rfl ?_
          exact mz_ret rfl
        refine mz_goP 7 (c' := (32, [some (.ref 65), some (.int 2), some (.int xb), none], [.int (w 66 12)], mz_up w 7 2 xb)) rfl ?_
        rw [show w 66 12 = w 7 2 from hrr 2 (by decide)]
        refine mz_goP 9 (c' := (44, [some (.ref 65), some (.int 2), some (.int xb), some (.int (w 7 2))], [.int (w 7 2)], mz_up (mz_up w 7 2 xb) 66 12 xb)) rfl ?_
        refine mz_retP (r := (some (.int (w 7 2)), mz_up (mz_up w 7 2 xb) 66 12 xb)) rfl ⟨w 7 2, rfl, ?_, rfl⟩
        show sm_I (n + 1) (mz_up (mz_up w 7 2 xb) 66 12 xb)
        obtain ⟨-, ⟨d1, d2, d3, ⟨d4, d4b, d4c⟩, d5, d6, d7, d8⟩, da, db, dc⟩ := hI2
        have hs : ∀ i, i ≠ 12 → (mz_up (mz_up w 7 2 xb) 66 12 xb) 66 i = w 66 i := fun i p0 => by rw [mz_up_eq, if_neg (by omega), mz_up_ne (show (66 : Nat) ≠ 7 by decide)]
        exact ⟨hn, ⟨sm_k1 (hs 0 (by omega)) (fun i h1 h2 => hs i (by omega)) d1, ⟨(sm_N_lim (sm_in_lo q5) (sm_in_hi q5)), d2.2.1, fun i h => by
          rcases (show i = 0 ∨ i = 1 ∨ i = 2 ∨ i = 3 ∨ i = 4 ∨ i = 5 by omega) with rfl | rfl | rfl | rfl | rfl | rfl <;> first | rfl | exact (hs _ (by omega)).trans (d2.2.2 _ (by omega))⟩, sm_k3 (hs 1 (by omega)) (fun i h1 h2 => hs i (by omega)) d3, ⟨sm_k4 (fun i h1 h2 => hs i (by omega)) d4, sm_k4 (fun i h1 h2 => hs i (by omega)) d4b, sm_k4 (fun i h1 h2 => hs i (by omega)) d4c⟩, sm_k5 (fun i h1 h2 => hs i (by omega)) d5, sm_k6 (fun i h1 h2 => hs i (by omega)) d6, sm_k7 (fun i h1 h2 => hs i (by omega)) d7, sm_k8 (hs 2 (by omega)) (hs 3 (by omega)) (fun i h1 h2 => hs i (by omega)) d8⟩, da, db, sm_cc_of (fun i h1 h2 => by simp only [mz_up_ne (show i ≠ 66 by omega), mz_up_ne (show i ≠ 7 by omega)]) dc⟩
    · refine mz_goP 3 (c' := (3, [some (.ref 0), some (.int 3), some (.int xb), none], [.int 5, .int 0, .int 3], w)) rfl ?_
      refine mz_doPQ (R := mz_r121) (as := [.int 3, .int 0, .int 5]) (rest := []) (r1 := some (.int 1)) (m1 := w) mz_t121 mz_v121 rfl rfl rfl rfl rfl ((cs_in1 (m := w) (v := 3) (a := 0) (b := 5) (by decide) (by decide)).deep (by decide)) ?_
      refine mz_goP 8 (c' := (20, [some (.ref 0), some (.int 3), some (.int xb), none], [.int 99, .int 0, .int xb], w)) rfl ?_
      by_cases q6 : (sm_bI (sm_in xb 0 99)) = 0
      · refine mz_doPQ (R := mz_r121) (as := [.int xb, .int 0, .int 99]) (rest := []) (r1 := some (.int (sm_bI (sm_in xb 0 99)))) (m1 := w) mz_t121 mz_v121 rfl rfl rfl rfl rfl ((cs_in (m := w) xb 0 99).deep (by decide)) ?_
        refine mz_goP 1 (c' := (if (sm_bI (sm_in xb 0 99)) = 0 then 26 else 32, [some (.ref 0), some (.int 3), some (.int xb), none], [], w)) rfl ?_
        refine mz_ifTP q6 ?_
        refine mz_goP 2 (c' := (28, [some (.ref 0), some (.int 3), some (.int xb), none], [.int 1, .ref 0], w)) rfl ?_
        refine mz_doPQ (R := mz_r109) (as := [.ref 0, .int 1]) (rest := []) (r1 := some (.int (-1000001))) (m1 := mz_up w 64 1 ((w 64 1) + 1)) mz_t109 mz_v109_0 rfl rfl rfl rfl rfl ((cs_err1 (m := w)).deep (by decide)) ?_
        refine mz_retP (r := (some (.int ((-1000001))), mz_up w 64 1 ((w 64 1) + 1))) rfl ⟨(-1000001), rfl, ?_⟩
        refine mz_goP 3 (c' := (3, [some (.ref 65), some (.int 3), some (.int xb), none], [.int 5, .int 0, .int 3], mz_up w 64 1 ((w 64 1) + 1))) rfl ?_
        refine mz_doPQ (R := mz_r128) (as := [.int 3, .int 0, .int 5]) (rest := []) (r1 := some (.int 1)) (m1 := mz_up w 64 1 ((w 64 1) + 1)) mz_t128 mz_v128 rfl rfl rfl rfl rfl ((ct_in1 (m := mz_up w 64 1 ((w 64 1) + 1)) (v := 3) (a := 0) (b := 5) (by decide) (by decide)).deep (by decide)) ?_
        refine mz_goP 3 (c' := (11, [some (.ref 65), some (.int 3), some (.int xb), none], [.int xb, .int 3], mz_up w 64 1 ((w 64 1) + 1))) rfl ?_
        refine mz_doPQ (R := mz_r142) (as := [.int 3, .int xb]) (rest := []) (r1 := some (.int (sm_bI (sm_in xb 0 99)))) (m1 := mz_up w 64 1 ((w 64 1) + 1)) mz_t142 mz_v142 rfl rfl rfl rfl rfl ⟨?_, sm_fitB _⟩ ?_
        · refine mz_go 9 (c' := (33, [some (.int 3), some (.int xb)], [.int 99, .int 0, .int xb], mz_up w 64 1 ((w 64 1) + 1))) rfl ?_
          refine mz_doQ (R := mz_r128) (as := [.int xb, .int 0, .int 99]) (rest := []) (r1 := some (.int (sm_bI (sm_in xb 0 99)))) (m1 := mz_up w 64 1 ((w 64 1) + 1)) mz_t128 mz_v128 rfl rfl rfl rfl rfl ((ct_in (m := mz_up w 64 1 ((w 64 1) + 1)) xb 0 99).deep (by decide)) ?_
          exact mz_ret rfl
        refine mz_goP 1 (c' := (if (sm_bI (sm_in xb 0 99)) = 0 then 17 else 23, [some (.ref 65), some (.int 3), some (.int xb), none], [], mz_up w 64 1 ((w 64 1) + 1))) rfl ?_
        refine mz_ifTP q6 ?_
        refine mz_goP 2 (c' := (19, [some (.ref 65), some (.int 3), some (.int xb), none], [.int 1, .ref 65], mz_up w 64 1 ((w 64 1) + 1))) rfl ?_
        refine mz_doPQ (R := mz_r127) (as := [.ref 65, .int 1]) (rest := []) (r1 := some (.int (-1000001))) (m1 := mz_up (mz_up w 64 1 ((w 64 1) + 1)) 68 1 ((w 68 1) + 1)) mz_t127 mz_v127_65 rfl rfl rfl rfl rfl ((ct_err1 (m := mz_up w 64 1 ((w 64 1) + 1))).deep (by decide)) ?_
        refine mz_retP (r := (some (.int ((-1000001))), mz_up (mz_up w 64 1 ((w 64 1) + 1)) 68 1 ((w 68 1) + 1))) rfl ⟨(-1000001), rfl, ?_, rfl⟩
        show sm_I (n + 1) (mz_up (mz_up w 64 1 ((w 64 1) + 1)) 68 1 ((w 68 1) + 1))
        exact sm_I_scr hn hI2 (fun i hi => by
          have hne : ∀ r, sm_scr r = true → i ≠ r := fun r hr e => by
            rw [e, hr] at hi
            cases hi
          simp only [mz_up_ne (hne 64 rfl), mz_up_ne (hne 68 rfl)]) rfl rfl
      · refine mz_doPQ (R := mz_r121) (as := [.int xb, .int 0, .int 99]) (rest := []) (r1 := some (.int 1)) (m1 := w) mz_t121 mz_v121 rfl rfl rfl rfl rfl ((cs_in1 (m := w) (v := xb) (a := 0) (b := 99) (show ¬ (xb < 0) from (sm_in_lo q6)) (show ¬ (99 < xb) from (sm_in_hi q6))).deep (by decide)) ?_
        refine mz_goP 14 (c' := (53, [some (.ref 0), some (.int 3), some (.int xb), some (.int (w 7 3))], [.int (w 7 3)], mz_up w 7 3 xb)) rfl ?_
        refine mz_retP (r := (some (.int (w 7 3)), mz_up w 7 3 xb)) rfl ⟨w 7 3, rfl, ?_⟩
        refine mz_goP 3 (c' := (3, [some (.ref 65), some (.int 3), some (.int xb), none], [.int 5, .int 0, .int 3], mz_up w 7 3 xb)) rfl ?_
        refine mz_doPQ (R := mz_r128) (as := [.int 3, .int 0, .int 5]) (rest := []) (r1 := some (.int 1)) (m1 := mz_up w 7 3 xb) mz_t128 mz_v128 rfl rfl rfl rfl rfl ((ct_in1 (m := mz_up w 7 3 xb) (v := 3) (a := 0) (b := 5) (by decide) (by decide)).deep (by decide)) ?_
        refine mz_goP 3 (c' := (11, [some (.ref 65), some (.int 3), some (.int xb), none], [.int xb, .int 3], mz_up w 7 3 xb)) rfl ?_
        refine mz_doPQ (R := mz_r142) (as := [.int 3, .int xb]) (rest := []) (r1 := some (.int 1)) (m1 := mz_up w 7 3 xb) mz_t142 mz_v142 rfl rfl rfl rfl rfl ⟨?_, rfl⟩ ?_
        · refine mz_go 9 (c' := (33, [some (.int 3), some (.int xb)], [.int 99, .int 0, .int xb], mz_up w 7 3 xb)) rfl ?_
          refine mz_doQ (R := mz_r128) (as := [.int xb, .int 0, .int 99]) (rest := []) (r1 := some (.int 1)) (m1 := mz_up w 7 3 xb) mz_t128 mz_v128 rfl rfl rfl rfl rfl ((ct_in1 (m := mz_up w 7 3 xb) (v := xb) (a := 0) (b := 99) (show ¬ (xb < 0) from (sm_in_lo q6)) (show ¬ (99 < xb) from (sm_in_hi q6))).deep (by decide)) ?_
          exact mz_ret rfl
        refine mz_goP 7 (c' := (32, [some (.ref 65), some (.int 3), some (.int xb), none], [.int (w 66 13)], mz_up w 7 3 xb)) rfl ?_
        rw [show w 66 13 = w 7 3 from hrr 3 (by decide)]
        refine mz_goP 9 (c' := (44, [some (.ref 65), some (.int 3), some (.int xb), some (.int (w 7 3))], [.int (w 7 3)], mz_up (mz_up w 7 3 xb) 66 13 xb)) rfl ?_
        refine mz_retP (r := (some (.int (w 7 3)), mz_up (mz_up w 7 3 xb) 66 13 xb)) rfl ⟨w 7 3, rfl, ?_, rfl⟩
        show sm_I (n + 1) (mz_up (mz_up w 7 3 xb) 66 13 xb)
        obtain ⟨-, ⟨d1, d2, d3, ⟨d4, d4b, d4c⟩, d5, d6, d7, d8⟩, da, db, dc⟩ := hI2
        have hs : ∀ i, i ≠ 13 → (mz_up (mz_up w 7 3 xb) 66 13 xb) 66 i = w 66 i := fun i p0 => by rw [mz_up_eq, if_neg (by omega), mz_up_ne (show (66 : Nat) ≠ 7 by decide)]
        exact ⟨hn, ⟨sm_k1 (hs 0 (by omega)) (fun i h1 h2 => hs i (by omega)) d1, ⟨d2.1, d2.2.1, fun i h => by
          rcases (show i = 0 ∨ i = 1 ∨ i = 2 ∨ i = 3 ∨ i = 4 ∨ i = 5 by omega) with rfl | rfl | rfl | rfl | rfl | rfl <;> first | rfl | exact (hs _ (by omega)).trans (d2.2.2 _ (by omega))⟩, sm_k3 (hs 1 (by omega)) (fun i h1 h2 => hs i (by omega)) d3, ⟨sm_k4 (fun i h1 h2 => hs i (by omega)) d4, sm_k4 (fun i h1 h2 => hs i (by omega)) d4b, sm_k4 (fun i h1 h2 => hs i (by omega)) d4c⟩, sm_k5 (fun i h1 h2 => hs i (by omega)) d5, sm_k6 (fun i h1 h2 => hs i (by omega)) d6, sm_k7 (fun i h1 h2 => hs i (by omega)) d7, sm_k8 (hs 2 (by omega)) (hs 3 (by omega)) (fun i h1 h2 => hs i (by omega)) d8⟩, da, db, sm_cc_of (fun i h1 h2 => by simp only [mz_up_ne (show i ≠ 66 by omega), mz_up_ne (show i ≠ 7 by omega)]) dc⟩
    · refine mz_goP 3 (c' := (3, [some (.ref 0), some (.int 4), some (.int xb), none], [.int 5, .int 0, .int 4], w)) rfl ?_
      refine mz_doPQ (R := mz_r121) (as := [.int 4, .int 0, .int 5]) (rest := []) (r1 := some (.int 1)) (m1 := w) mz_t121 mz_v121 rfl rfl rfl rfl rfl ((cs_in1 (m := w) (v := 4) (a := 0) (b := 5) (by decide) (by decide)).deep (by decide)) ?_
      refine mz_goP 8 (c' := (20, [some (.ref 0), some (.int 4), some (.int xb), none], [.int 99, .int 0, .int xb], w)) rfl ?_
      by_cases q7 : (sm_bI (sm_in xb 0 99)) = 0
      · refine mz_doPQ (R := mz_r121) (as := [.int xb, .int 0, .int 99]) (rest := []) (r1 := some (.int (sm_bI (sm_in xb 0 99)))) (m1 := w) mz_t121 mz_v121 rfl rfl rfl rfl rfl ((cs_in (m := w) xb 0 99).deep (by decide)) ?_
        refine mz_goP 1 (c' := (if (sm_bI (sm_in xb 0 99)) = 0 then 26 else 32, [some (.ref 0), some (.int 4), some (.int xb), none], [], w)) rfl ?_
        refine mz_ifTP q7 ?_
        refine mz_goP 2 (c' := (28, [some (.ref 0), some (.int 4), some (.int xb), none], [.int 1, .ref 0], w)) rfl ?_
        refine mz_doPQ (R := mz_r109) (as := [.ref 0, .int 1]) (rest := []) (r1 := some (.int (-1000001))) (m1 := mz_up w 64 1 ((w 64 1) + 1)) mz_t109 mz_v109_0 rfl rfl rfl rfl rfl ((cs_err1 (m := w)).deep (by decide)) ?_
        refine mz_retP (r := (some (.int ((-1000001))), mz_up w 64 1 ((w 64 1) + 1))) rfl ⟨(-1000001), rfl, ?_⟩
        refine mz_goP 3 (c' := (3, [some (.ref 65), some (.int 4), some (.int xb), none], [.int 5, .int 0, .int 4], mz_up w 64 1 ((w 64 1) + 1))) rfl ?_
        refine mz_doPQ (R := mz_r128) (as := [.int 4, .int 0, .int 5]) (rest := []) (r1 := some (.int 1)) (m1 := mz_up w 64 1 ((w 64 1) + 1)) mz_t128 mz_v128 rfl rfl rfl rfl rfl ((ct_in1 (m := mz_up w 64 1 ((w 64 1) + 1)) (v := 4) (a := 0) (b := 5) (by decide) (by decide)).deep (by decide)) ?_
        refine mz_goP 3 (c' := (11, [some (.ref 65), some (.int 4), some (.int xb), none], [.int xb, .int 4], mz_up w 64 1 ((w 64 1) + 1))) rfl ?_
        refine mz_doPQ (R := mz_r142) (as := [.int 4, .int xb]) (rest := []) (r1 := some (.int (sm_bI (sm_in xb 0 99)))) (m1 := mz_up w 64 1 ((w 64 1) + 1)) mz_t142 mz_v142 rfl rfl rfl rfl rfl ⟨?_, sm_fitB _⟩ ?_
        · refine mz_go 9 (c' := (33, [some (.int 4), some (.int xb)], [.int 99, .int 0, .int xb], mz_up w 64 1 ((w 64 1) + 1))) rfl ?_
          refine mz_doQ (R := mz_r128) (as := [.int xb, .int 0, .int 99]) (rest := []) (r1 := some (.int (sm_bI (sm_in xb 0 99)))) (m1 := mz_up w 64 1 ((w 64 1) + 1)) mz_t128 mz_v128 rfl rfl rfl rfl rfl ((ct_in (m := mz_up w 64 1 ((w 64 1) + 1)) xb 0 99).deep (by decide)) ?_
          exact mz_ret rfl
        refine mz_goP 1 (c' := (if (sm_bI (sm_in xb 0 99)) = 0 then 17 else 23, [some (.ref 65), some (.int 4), some (.int xb), none], [], mz_up w 64 1 ((w 64 1) + 1))) rfl ?_
        refine mz_ifTP q7 ?_
        refine mz_goP 2 (c' := (19, [some (.ref 65), some (.int 4), some (.int xb), none], [.int 1, .ref 65], mz_up w 64 1 ((w 64 1) + 1))) rfl ?_
        refine mz_doPQ (R := mz_r127) (as := [.ref 65, .int 1]) (rest := []) (r1 := some (.int (-1000001))) (m1 := mz_up (mz_up w 64 1 ((w 64 1) + 1)) 68 1 ((w 68 1) + 1)) mz_t127 mz_v127_65 rfl rfl rfl rfl rfl ((ct_err1 (m := mz_up w 64 1 ((w 64 1) + 1))).deep (by decide)) ?_
        refine mz_retP (r := (some (.int ((-1000001))), mz_up (mz_up w 64 1 ((w 64 1) + 1)) 68 1 ((w 68 1) + 1))) rfl ⟨(-1000001), rfl, ?_, rfl⟩
        show sm_I (n + 1) (mz_up (mz_up w 64 1 ((w 64 1) + 1)) 68 1 ((w 68 1) + 1))
        exact sm_I_scr hn hI2 (fun i hi => by
          have hne : ∀ r, sm_scr r = true → i ≠ r := fun r hr e => by
            rw [e, hr] at hi
            cases hi
          simp only [mz_up_ne (hne 64 rfl), mz_up_ne (hne 68 rfl)]) rfl rfl
      · refine mz_doPQ (R := mz_r121) (as := [.int xb, .int 0, .int 99]) (rest := []) (r1 := some (.int 1)) (m1 := w) mz_t121 mz_v121 rfl rfl rfl rfl rfl ((cs_in1 (m := w) (v := xb) (a := 0) (b := 99) (show ¬ (xb < 0) from (sm_in_lo q7)) (show ¬ (99 < xb) from (sm_in_hi q7))).deep (by decide)) ?_
        refine mz_goP 14 (c' := (53, [some (.ref 0), some (.int 4), some (.int xb), some (.int (w 7 4))], [.int (w 7 4)], mz_up w 7 4 xb)) rfl ?_
        refine mz_retP (r := (some (.int (w 7 4)), mz_up w 7 4 xb)) rfl ⟨w 7 4, rfl, ?_⟩
        refine mz_goP 3 (c' := (3, [some (.ref 65), some (.int 4), some (.int xb), none], [.int 5, .int 0, .int 4], mz_up w 7 4 xb)) rfl ?_
        refine mz_doPQ (R := mz_r128) (as := [.int 4, .int 0, .int 5]) (rest := []) (r1 := some (.int 1)) (m1 := mz_up w 7 4 xb) mz_t128 mz_v128 rfl rfl rfl rfl rfl ((ct_in1 (m := mz_up w 7 4 xb) (v := 4) (a := 0) (b := 5) (by decide) (by decide)).deep (by decide)) ?_
        refine mz_goP 3 (c' := (11, [some (.ref 65), some (.int 4), some (.int xb), none], [.int xb, .int 4], mz_up w 7 4 xb)) rfl ?_
        refine mz_doPQ (R := mz_r142) (as := [.int 4, .int xb]) (rest := []) (r1 := some (.int 1)) (m1 := mz_up w 7 4 xb) mz_t142 mz_v142 rfl rfl rfl rfl rfl ⟨?_, rfl⟩ ?_
        · refine mz_go 9 (c' := (33, [some (.int 4), some (.int xb)], [.int 99, .int 0, .int xb], mz_up w 7 4 xb)) rfl ?_
          refine mz_doQ (R := mz_r128) (as := [.int xb, .int 0, .int 99]) (rest := []) (r1 := some (.int 1)) (m1 := mz_up w 7 4 xb) mz_t128 mz_v128 rfl rfl rfl rfl rfl ((ct_in1 (m := mz_up w 7 4 xb) (v := xb) (a := 0) (b := 99) (show ¬ (xb < 0) from (sm_in_lo q7)) (show ¬ (99 < xb) from (sm_in_hi q7))).deep (by decide)) ?_
          exact mz_ret rfl
        refine mz_goP 7 (c' := (32, [some (.ref 65), some (.int 4), some (.int xb), none], [.int (w 66 14)], mz_up w 7 4 xb)) rfl ?_
        rw [show w 66 14 = w 7 4 from hrr 4 (by decide)]
        refine mz_goP 9 (c' := (44, [some (.ref 65), some (.int 4), some (.int xb), some (.int (w 7 4))], [.int (w 7 4)], mz_up (mz_up w 7 4 xb) 66 14 xb)) rfl ?_
        refine mz_retP (r := (some (.int (w 7 4)), mz_up (mz_up w 7 4 xb) 66 14 xb)) rfl ⟨w 7 4, rfl, ?_, rfl⟩
        show sm_I (n + 1) (mz_up (mz_up w 7 4 xb) 66 14 xb)
        obtain ⟨-, ⟨d1, d2, d3, ⟨d4, d4b, d4c⟩, d5, d6, d7, d8⟩, da, db, dc⟩ := hI2
        have hs : ∀ i, i ≠ 14 → (mz_up (mz_up w 7 4 xb) 66 14 xb) 66 i = w 66 i := fun i p0 => by rw [mz_up_eq, if_neg (by omega), mz_up_ne (show (66 : Nat) ≠ 7 by decide)]
        exact ⟨hn, ⟨sm_k1 (hs 0 (by omega)) (fun i h1 h2 => hs i (by omega)) d1, ⟨d2.1, d2.2.1, fun i h => by
          rcases (show i = 0 ∨ i = 1 ∨ i = 2 ∨ i = 3 ∨ i = 4 ∨ i = 5 by omega) with rfl | rfl | rfl | rfl | rfl | rfl <;> first | rfl | exact (hs _ (by omega)).trans (d2.2.2 _ (by omega))⟩, sm_k3 (hs 1 (by omega)) (fun i h1 h2 => hs i (by omega)) d3, ⟨sm_k4 (fun i h1 h2 => hs i (by omega)) d4, sm_k4 (fun i h1 h2 => hs i (by omega)) d4b, sm_k4 (fun i h1 h2 => hs i (by omega)) d4c⟩, sm_k5 (fun i h1 h2 => hs i (by omega)) d5, sm_k6 (fun i h1 h2 => hs i (by omega)) d6, sm_k7 (fun i h1 h2 => hs i (by omega)) d7, sm_k8 (hs 2 (by omega)) (hs 3 (by omega)) (fun i h1 h2 => hs i (by omega)) d8⟩, da, db, sm_cc_of (fun i h1 h2 => by simp only [mz_up_ne (show i ≠ 66 by omega), mz_up_ne (show i ≠ 7 by omega)]) dc⟩
    · refine mz_goP 3 (c' := (3, [some (.ref 0), some (.int 5), some (.int xb), none], [.int 5, .int 0, .int 5], w)) rfl ?_
      refine mz_doPQ (R := mz_r121) (as := [.int 5, .int 0, .int 5]) (rest := []) (r1 := some (.int 1)) (m1 := w) mz_t121 mz_v121 rfl rfl rfl rfl rfl ((cs_in1 (m := w) (v := 5) (a := 0) (b := 5) (by decide) (by decide)).deep (by decide)) ?_
      refine mz_goP 8 (c' := (20, [some (.ref 0), some (.int 5), some (.int xb), none], [.int 2, .int 1, .int xb], w)) rfl ?_
      by_cases q8 : (sm_bI (sm_in xb 1 2)) = 0
      · refine mz_doPQ (R := mz_r121) (as := [.int xb, .int 1, .int 2]) (rest := []) (r1 := some (.int (sm_bI (sm_in xb 1 2)))) (m1 := w) mz_t121 mz_v121 rfl rfl rfl rfl rfl ((cs_in (m := w) xb 1 2).deep (by decide)) ?_
        refine mz_goP 1 (c' := (if (sm_bI (sm_in xb 1 2)) = 0 then 26 else 32, [some (.ref 0), some (.int 5), some (.int xb), none], [], w)) rfl ?_
        refine mz_ifTP q8 ?_
        refine mz_goP 2 (c' := (28, [some (.ref 0), some (.int 5), some (.int xb), none], [.int 1, .ref 0], w)) rfl ?_
        refine mz_doPQ (R := mz_r109) (as := [.ref 0, .int 1]) (rest := []) (r1 := some (.int (-1000001))) (m1 := mz_up w 64 1 ((w 64 1) + 1)) mz_t109 mz_v109_0 rfl rfl rfl rfl rfl ((cs_err1 (m := w)).deep (by decide)) ?_
        refine mz_retP (r := (some (.int ((-1000001))), mz_up w 64 1 ((w 64 1) + 1))) rfl ⟨(-1000001), rfl, ?_⟩
        refine mz_goP 3 (c' := (3, [some (.ref 65), some (.int 5), some (.int xb), none], [.int 5, .int 0, .int 5], mz_up w 64 1 ((w 64 1) + 1))) rfl ?_
        refine mz_doPQ (R := mz_r128) (as := [.int 5, .int 0, .int 5]) (rest := []) (r1 := some (.int 1)) (m1 := mz_up w 64 1 ((w 64 1) + 1)) mz_t128 mz_v128 rfl rfl rfl rfl rfl ((ct_in1 (m := mz_up w 64 1 ((w 64 1) + 1)) (v := 5) (a := 0) (b := 5) (by decide) (by decide)).deep (by decide)) ?_
        refine mz_goP 3 (c' := (11, [some (.ref 65), some (.int 5), some (.int xb), none], [.int xb, .int 5], mz_up w 64 1 ((w 64 1) + 1))) rfl ?_
        refine mz_doPQ (R := mz_r142) (as := [.int 5, .int xb]) (rest := []) (r1 := some (.int (sm_bI (sm_in xb 1 2)))) (m1 := mz_up w 64 1 ((w 64 1) + 1)) mz_t142 mz_v142 rfl rfl rfl rfl rfl ⟨?_, sm_fitB _⟩ ?_
        · refine mz_go 9 (c' := (23, [some (.int 5), some (.int xb)], [.int 2, .int 1, .int xb], mz_up w 64 1 ((w 64 1) + 1))) rfl ?_
          refine mz_doQ (R := mz_r128) (as := [.int xb, .int 1, .int 2]) (rest := []) (r1 := some (.int (sm_bI (sm_in xb 1 2)))) (m1 := mz_up w 64 1 ((w 64 1) + 1)) mz_t128 mz_v128 rfl rfl rfl rfl rfl ((ct_in (m := mz_up w 64 1 ((w 64 1) + 1)) xb 1 2).deep (by decide)) ?_
          refine mz_go 1 (c' := (36, [some (.int 5), some (.int xb)], [.int (sm_bI (sm_in xb 1 2))], mz_up w 64 1 ((w 64 1) + 1))) rfl ?_
          exact mz_ret rfl
        refine mz_goP 1 (c' := (if (sm_bI (sm_in xb 1 2)) = 0 then 17 else 23, [some (.ref 65), some (.int 5), some (.int xb), none], [], mz_up w 64 1 ((w 64 1) + 1))) rfl ?_
        refine mz_ifTP q8 ?_
        refine mz_goP 2 (c' := (19, [some (.ref 65), some (.int 5), some (.int xb), none], [.int 1, .ref 65], mz_up w 64 1 ((w 64 1) + 1))) rfl ?_
        refine mz_doPQ (R := mz_r127) (as := [.ref 65, .int 1]) (rest := []) (r1 := some (.int (-1000001))) (m1 := mz_up (mz_up w 64 1 ((w 64 1) + 1)) 68 1 ((w 68 1) + 1)) mz_t127 mz_v127_65 rfl rfl rfl rfl rfl ((ct_err1 (m := mz_up w 64 1 ((w 64 1) + 1))).deep (by decide)) ?_
        refine mz_retP (r := (some (.int ((-1000001))), mz_up (mz_up w 64 1 ((w 64 1) + 1)) 68 1 ((w 68 1) + 1))) rfl ⟨(-1000001), rfl, ?_, rfl⟩
        show sm_I (n + 1) (mz_up (mz_up w 64 1 ((w 64 1) + 1)) 68 1 ((w 68 1) + 1))
        exact sm_I_scr hn hI2 (fun i hi => by
          have hne : ∀ r, sm_scr r = true → i ≠ r := fun r hr e => by
            rw [e, hr] at hi
            cases hi
          simp only [mz_up_ne (hne 64 rfl), mz_up_ne (hne 68 rfl)]) rfl rfl
      · refine mz_doPQ (R := mz_r121) (as := [.int xb, .int 1, .int 2]) (rest := []) (r1 := some (.int 1)) (m1 := w) mz_t121 mz_v121 rfl rfl rfl rfl rfl ((cs_in1 (m := w) (v := xb) (a := 1) (b := 2) (show ¬ (xb < 1) from (sm_in_lo q8)) (show ¬ (2 < xb) from (sm_in_hi q8))).deep (by decide)) ?_
        refine mz_goP 14 (c' := (53, [some (.ref 0), some (.int 5), some (.int xb), some (.int (w 7 5))], [.int (w 7 5)], mz_up w 7 5 xb)) rfl ?_
        refine mz_retP (r := (some (.int (w 7 5)), mz_up w 7 5 xb)) rfl ⟨w 7 5, rfl, ?_⟩
        refine mz_goP 3 (c' := (3, [some (.ref 65), some (.int 5), some (.int xb), none], [.int 5, .int 0, .int 5], mz_up w 7 5 xb)) rfl ?_
        refine mz_doPQ (R := mz_r128) (as := [.int 5, .int 0, .int 5]) (rest := []) (r1 := some (.int 1)) (m1 := mz_up w 7 5 xb) mz_t128 mz_v128 rfl rfl rfl rfl rfl ((ct_in1 (m := mz_up w 7 5 xb) (v := 5) (a := 0) (b := 5) (by decide) (by decide)).deep (by decide)) ?_
        refine mz_goP 3 (c' := (11, [some (.ref 65), some (.int 5), some (.int xb), none], [.int xb, .int 5], mz_up w 7 5 xb)) rfl ?_
        refine mz_doPQ (R := mz_r142) (as := [.int 5, .int xb]) (rest := []) (r1 := some (.int 1)) (m1 := mz_up w 7 5 xb) mz_t142 mz_v142 rfl rfl rfl rfl rfl ⟨?_, rfl⟩ ?_
        · refine mz_go 9 (c' := (23, [some (.int 5), some (.int xb)], [.int 2, .int 1, .int xb], mz_up w 7 5 xb)) rfl ?_
          refine mz_doQ (R := mz_r128) (as := [.int xb, .int 1, .int 2]) (rest := []) (r1 := some (.int 1)) (m1 := mz_up w 7 5 xb) mz_t128 mz_v128 rfl rfl rfl rfl rfl ((ct_in1 (m := mz_up w 7 5 xb) (v := xb) (a := 1) (b := 2) (show ¬ (xb < 1) from (sm_in_lo q8)) (show ¬ (2 < xb) from (sm_in_hi q8))).deep (by decide)) ?_
          refine mz_go 1 (c' := (36, [some (.int 5), some (.int xb)], [.int 1], mz_up w 7 5 xb)) rfl ?_
          exact mz_ret rfl
        refine mz_goP 7 (c' := (32, [some (.ref 65), some (.int 5), some (.int xb), none], [.int (w 66 15)], mz_up w 7 5 xb)) rfl ?_
        rw [show w 66 15 = w 7 5 from hrr 5 (by decide)]
        refine mz_goP 9 (c' := (44, [some (.ref 65), some (.int 5), some (.int xb), some (.int (w 7 5))], [.int (w 7 5)], mz_up (mz_up w 7 5 xb) 66 15 xb)) rfl ?_
        refine mz_retP (r := (some (.int (w 7 5)), mz_up (mz_up w 7 5 xb) 66 15 xb)) rfl ⟨w 7 5, rfl, ?_, rfl⟩
        show sm_I (n + 1) (mz_up (mz_up w 7 5 xb) 66 15 xb)
        obtain ⟨-, ⟨d1, d2, d3, ⟨d4, d4b, d4c⟩, d5, d6, d7, d8⟩, da, db, dc⟩ := hI2
        have hs : ∀ i, i ≠ 15 → (mz_up (mz_up w 7 5 xb) 66 15 xb) 66 i = w 66 i := fun i p0 => by rw [mz_up_eq, if_neg (by omega), mz_up_ne (show (66 : Nat) ≠ 7 by decide)]
        exact ⟨hn, ⟨sm_k1 (hs 0 (by omega)) (fun i h1 h2 => hs i (by omega)) d1, ⟨d2.1, (sm_fine12 (sm_in_lo q8) (sm_in_hi q8)), fun i h => by
          rcases (show i = 0 ∨ i = 1 ∨ i = 2 ∨ i = 3 ∨ i = 4 ∨ i = 5 by omega) with rfl | rfl | rfl | rfl | rfl | rfl <;> first | rfl | exact (hs _ (by omega)).trans (d2.2.2 _ (by omega))⟩, sm_k3 (hs 1 (by omega)) (fun i h1 h2 => hs i (by omega)) d3, ⟨sm_k4 (fun i h1 h2 => hs i (by omega)) d4, sm_k4 (fun i h1 h2 => hs i (by omega)) d4b, sm_k4 (fun i h1 h2 => hs i (by omega)) d4c⟩, sm_k5 (fun i h1 h2 => hs i (by omega)) d5, sm_k6 (fun i h1 h2 => hs i (by omega)) d6, sm_k7 (fun i h1 h2 => hs i (by omega)) d7, sm_k8 (hs 2 (by omega)) (hs 3 (by omega)) (fun i h1 h2 => hs i (by omega)) d8⟩, da, db, sm_cc_of (fun i h1 h2 => by simp only [mz_up_ne (show i ≠ 66 by omega), mz_up_ne (show i ≠ 7 by omega)]) dc⟩
set_option maxHeartbeats 4000000 in
set_option maxRecDepth 100000 in
theorem sc_shift {n : Nat} (hn : n < 64) {w : mz_M} (hI : sm_I n w) (xa : Int32) (xb : Int32) (xc : Int32) (xd : Int32) : ∃ v1 v2 m1 m2, mz_Me 100 mz_r70 [.ref 0, .int xa, .int xb, .int xc, .int xd] w (some (.int v1)) m1 ∧ mz_Me 100 mz_r140 [.ref 65, .int xa, .int xb, .int xc, .int xd] m1 (some (.int v2)) m2 ∧ sm_I (n + 1) m2 ∧ v1 = v2 := by
  have hI2 := hI
  obtain ⟨hn0, ⟨-, ⟨hr80, hr5, hrr⟩, ⟨⟨TT, hTT, h81, h661⟩, htp⟩, ⟨⟨T0, hT0, hU0, hV0, -⟩, ⟨T1, hT1, hU1, hV1, -⟩, ⟨T2, hT2, hU2, hV2, -⟩⟩, ⟨hbx, hby, hbl⟩, ⟨⟨WW, HH, hWW, hHH, hWH, h202, h203, h6660, h6661⟩, h6662, h6663, h6664, hpc⟩, ⟨hth, h66160, hthr⟩, ⟨⟨AA, hAA, h111, h662⟩, h663, hwt⟩⟩, ⟨hsh, hsn⟩, ⟨hcb1, hcb2⟩, ⟨JJ, hJJ, h07, h652, hkept⟩⟩ := hI
  obtain ⟨N, hw, hr2, h660, -, -, h6615⟩ := sm_world hI2
  have hw2 := hw
  obtain ⟨hN, h4, hpb, -, -⟩ := hw2
  have hT60a := sm_T60 hV0
  have hT60b := sm_T60 hV1
  have hT60c := sm_T60 hV2
  obtain ⟨B1, hB1, e571⟩ := sm_Nof (by decide) hcb1
  obtain ⟨B2, hB2, e6519⟩ := sm_Nof (by decide) hcb2
  refine mz_two (fun _ => rfl) (fun _ => rfl) ?_
  by_cases q1 : xa < 0
  · refine mz_goP 6 (c' := (12, [some (.ref 0), some (.int xa), some (.int xb), some (.int xc), some (.int xd), some (.ref 2), none], [.int xa, .ref 2], w)) rfl ?_
    refine mz_doPQ (R := mz_r21) (as := [.ref 2, .int xa]) (rest := []) (r1 := some (.int 0)) (m1 := w) mz_t21 mz_v21_2 rfl rfl rfl rfl rfl ⟨?_, rfl⟩ ?_
    · refine mz_go 2 (c' := (if xa < 0 then 22 else 4, [some (.ref 2), some (.int xa)], [], w)) rfl ?_
      refine mz_ifT q1 ?_
      refine mz_go 1 (c' := (23, [some (.ref 2), some (.int xa)], [.int 0], w)) rfl ?_
      exact mz_ret rfl
    refine mz_goP 3 (c' := (36, [some (.ref 0), some (.int xa), some (.int xb), some (.int xc), some (.int xd), some (.ref 2), none], [.int 1, .ref 0], w)) rfl ?_
    refine mz_doPQ (R := mz_r109) (as := [.ref 0, .int 1]) (rest := []) (r1 := some (.int (-1000001))) (m1 := mz_up w 64 1 ((w 64 1) + 1)) mz_t109 mz_v109_0 rfl rfl rfl rfl rfl ((cs_err1 (m := w)).deep (by decide)) ?_
    refine mz_retP (r := (some (.int ((-1000001))), mz_up w 64 1 ((w 64 1) + 1))) rfl ⟨(-1000001), rfl, ?_⟩
    refine mz_goP 2 (c' := (2, [some (.ref 65), some (.int xa), some (.int xb), some (.int xc), some (.int xd), none, none], [.int xa, .ref 65], mz_up w 64 1 ((w 64 1) + 1))) rfl ?_
    by_cases q2 : N = 0
    · refine mz_doPQ (R := mz_r132) (as := [.ref 65, .int xa]) (rest := []) (r1 := some (.int 0)) (m1 := mz_up w 64 1 ((w 64 1) + 1)) mz_t132 mz_v132_65 rfl rfl rfl rfl rfl ⟨?_, rfl⟩ ?_
      · refine mz_go 6 (c' := (8, [some (.ref 65), some (.int xa)], [.int (w 66 0), .int 0, .int xa], mz_up w 64 1 ((w 64 1) + 1))) rfl ?_
        rw [h660]
        refine mz_go 2 (c' := (10, [some (.ref 65), some (.int xa)], [.int ((nI N) - 1), .int 0, .int xa], mz_up w 64 1 ((w 64 1) + 1))) rfl ?_
        rw [show nI N - 1 = -1 from by rw [show N = 0 by omega]; decide]
        refine mz_doQ (R := mz_r128) (as := [.int xa, .int 0, .int (-1)]) (rest := []) (r1 := some (.int 0)) (m1 := mz_up w 64 1 ((w 64 1) + 1)) mz_t128 mz_v128 rfl rfl rfl rfl rfl ((ct_inL (m := mz_up w 64 1 ((w 64 1) + 1)) (v := xa) (a := 0) (b := (-1)) q1).deep (by decide)) ?_
        exact mz_ret rfl
      refine mz_goP 3 (c' := (29, [some (.ref 65), some (.int xa), some (.int xb), some (.int xc), some (.int xd), none, none], [.int 1, .ref 65], mz_up w 64 1 ((w 64 1) + 1))) rfl ?_
      refine mz_doPQ (R := mz_r127) (as := [.ref 65, .int 1]) (rest := []) (r1 := some (.int (-1000001))) (m1 := mz_up (mz_up w 64 1 ((w 64 1) + 1)) 68 1 ((w 68 1) + 1)) mz_t127 mz_v127_65 rfl rfl rfl rfl rfl ((ct_err1 (m := mz_up w 64 1 ((w 64 1) + 1))).deep (by decide)) ?_
      refine mz_retP (r := (some (.int ((-1000001))), mz_up (mz_up w 64 1 ((w 64 1) + 1)) 68 1 ((w 68 1) + 1))) rfl ⟨(-1000001), rfl, ?_, rfl⟩
      show sm_I (n + 1) (mz_up (mz_up w 64 1 ((w 64 1) + 1)) 68 1 ((w 68 1) + 1))
      exact sm_I_scr hn hI2 (fun i hi => by
        have hne : ∀ r, sm_scr r = true → i ≠ r := fun r hr e => by
          rw [e, hr] at hi
          cases hi
        simp only [mz_up_ne (hne 64 rfl), mz_up_ne (hne 68 rfl)]) rfl rfl
    · refine mz_doPQ (R := mz_r132) (as := [.ref 65, .int xa]) (rest := []) (r1 := some (.int 0)) (m1 := mz_up w 64 1 ((w 64 1) + 1)) mz_t132 mz_v132_65 rfl rfl rfl rfl rfl ⟨?_, rfl⟩ ?_
      · refine mz_go 6 (c' := (8, [some (.ref 65), some (.int xa)], [.int (w 66 0), .int 0, .int xa], mz_up w 64 1 ((w 64 1) + 1))) rfl ?_
        rw [h660]
        refine mz_go 2 (c' := (10, [some (.ref 65), some (.int xa)], [.int ((nI N) - 1), .int 0, .int xa], mz_up w 64 1 ((w 64 1) + 1))) rfl ?_
        refine mz_doQ (R := mz_r128) (as := [.int xa, .int 0, .int ((nI N) - 1)]) (rest := []) (r1 := some (.int 0)) (m1 := mz_up w 64 1 ((w 64 1) + 1)) mz_t128 mz_v128 rfl rfl rfl rfl rfl ((ct_inL (m := mz_up w 64 1 ((w 64 1) + 1)) (v := xa) (a := 0) (b := (nI N) - 1) q1).deep (by decide)) ?_
        exact mz_ret rfl
      refine mz_goP 3 (c' := (29, [some (.ref 65), some (.int xa), some (.int xb), some (.int xc), some (.int xd), none, none], [.int 1, .ref 65], mz_up w 64 1 ((w 64 1) + 1))) rfl ?_
      refine mz_doPQ (R := mz_r127) (as := [.ref 65, .int 1]) (rest := []) (r1 := some (.int (-1000001))) (m1 := mz_up (mz_up w 64 1 ((w 64 1) + 1)) 68 1 ((w 68 1) + 1)) mz_t127 mz_v127_65 rfl rfl rfl rfl rfl ((ct_err1 (m := mz_up w 64 1 ((w 64 1) + 1))).deep (by decide)) ?_
      refine mz_retP (r := (some (.int ((-1000001))), mz_up (mz_up w 64 1 ((w 64 1) + 1)) 68 1 ((w 68 1) + 1))) rfl ⟨(-1000001), rfl, ?_, rfl⟩
      show sm_I (n + 1) (mz_up (mz_up w 64 1 ((w 64 1) + 1)) 68 1 ((w 68 1) + 1))
      exact sm_I_scr hn hI2 (fun i hi => by
        have hne : ∀ r, sm_scr r = true → i ≠ r := fun r hr e => by
          rw [e, hr] at hi
          cases hi
        simp only [mz_up_ne (hne 64 rfl), mz_up_ne (hne 68 rfl)]) rfl rfl
  · obtain ⟨jxa, hjxa, rfl⟩ := nI_of q1
    refine mz_goP 6 (c' := (12, [some (.ref 0), some (.int (nI jxa)), some (.int xb), some (.int xc), some (.int xd), some (.ref 2), none], [.int (nI jxa), .ref 2], w)) rfl ?_
    by_cases q3 : N ≤ jxa
    · refine mz_doPQ (R := mz_r21) (as := [.ref 2, .int (nI jxa)]) (rest := []) (r1 := some (.int 0)) (m1 := w) mz_t21 mz_v21_2 rfl rfl rfl rfl rfl ⟨?_, rfl⟩ ?_
      · refine mz_go 2 (c' := (if (nI jxa) < 0 then 22 else 4, [some (.ref 2), some (.int (nI jxa))], [], w)) rfl ?_
        refine mz_ifF q1 ?_
        refine mz_go 3 (c' := (9, [some (.ref 2), some (.int (nI jxa))], [.int (w 2 4), .int (nI jxa)], w)) rfl ?_
        rw [h4]
        refine mz_go 1 (c' := (if (nI N) ≤ (nI jxa) then 22 else 12, [some (.ref 2), some (.int (nI jxa))], [], w)) rfl ?_
        refine mz_ifT (show ((nI N) ≤ (nI jxa)) from (sm_leN rfl rfl (show N ≤ jxa by omega) (show jxa < 2 ^ 31 by omega))) ?_
        refine mz_go 1 (c' := (23, [some (.ref 2), some (.int (nI jxa))], [.int 0], w)) rfl ?_
        exact mz_ret rfl
      refine mz_goP 3 (c' := (36, [some (.ref 0), some (.int (nI jxa)), some (.int xb), some (.int xc), some (.int xd), some (.ref 2), none], [.int 1, .ref 0], w)) rfl ?_
      refine mz_doPQ (R := mz_r109) (as := [.ref 0, .int 1]) (rest := []) (r1 := some (.int (-1000001))) (m1 := mz_up w 64 1 ((w 64 1) + 1)) mz_t109 mz_v109_0 rfl rfl rfl rfl rfl ((cs_err1 (m := w)).deep (by decide)) ?_
      refine mz_retP (r := (some (.int ((-1000001))), mz_up w 64 1 ((w 64 1) + 1))) rfl ⟨(-1000001), rfl, ?_⟩
      refine mz_goP 2 (c' := (2, [some (.ref 65), some (.int (nI jxa)), some (.int xb), some (.int xc), some (.int xd), none, none], [.int (nI jxa), .ref 65], mz_up w 64 1 ((w 64 1) + 1))) rfl ?_
      by_cases q4 : N = 0
      · refine mz_doPQ (R := mz_r132) (as := [.ref 65, .int (nI jxa)]) (rest := []) (r1 := some (.int 0)) (m1 := mz_up w 64 1 ((w 64 1) + 1)) mz_t132 mz_v132_65 rfl rfl rfl rfl rfl ⟨?_, rfl⟩ ?_
        · refine mz_go 6 (c' := (8, [some (.ref 65), some (.int (nI jxa))], [.int (w 66 0), .int 0, .int (nI jxa)], mz_up w 64 1 ((w 64 1) + 1))) rfl ?_
          rw [h660]
          refine mz_go 2 (c' := (10, [some (.ref 65), some (.int (nI jxa))], [.int ((nI N) - 1), .int 0, .int (nI jxa)], mz_up w 64 1 ((w 64 1) + 1))) rfl ?_
          rw [show nI N - 1 = -1 from by rw [show N = 0 by omega]; decide]
          refine mz_doQ (R := mz_r128) (as := [.int (nI jxa), .int 0, .int (-1)]) (rest := []) (r1 := some (.int 0)) (m1 := mz_up w 64 1 ((w 64 1) + 1)) mz_t128 mz_v128 rfl rfl rfl rfl rfl ((ct_inG (m := mz_up w 64 1 ((w 64 1) + 1)) (v := nI jxa) (a := 0) (b := (-1)) q1 (show ((-1) < (nI jxa)) from (sm_m1lt rfl (show jxa < 2 ^ 31 by omega)))).deep (by decide)) ?_
          exact mz_ret rfl
        refine mz_goP 3 (c' := (29, [some (.ref 65), some (.int (nI jxa)), some (.int xb), some (.int xc), some (.int xd), none, none], [.int 1, .ref 65], mz_up w 64 1 ((w 64 1) + 1))) rfl ?_
        refine mz_doPQ (R := mz_r127) (as := [.ref 65, .int 1]) (rest := []) (r1 := some (.int (-1000001))) (m1 := mz_up (mz_up w 64 1 ((w 64 1) + 1)) 68 1 ((w 68 1) + 1)) mz_t127 mz_v127_65 rfl rfl rfl rfl rfl ((ct_err1 (m := mz_up w 64 1 ((w 64 1) + 1))).deep (by decide)) ?_
        refine mz_retP (r := (some (.int ((-1000001))), mz_up (mz_up w 64 1 ((w 64 1) + 1)) 68 1 ((w 68 1) + 1))) rfl ⟨(-1000001), rfl, ?_, rfl⟩
        show sm_I (n + 1) (mz_up (mz_up w 64 1 ((w 64 1) + 1)) 68 1 ((w 68 1) + 1))
        exact sm_I_scr hn hI2 (fun i hi => by
          have hne : ∀ r, sm_scr r = true → i ≠ r := fun r hr e => by
            rw [e, hr] at hi
            cases hi
          simp only [mz_up_ne (hne 64 rfl), mz_up_ne (hne 68 rfl)]) rfl rfl
      · refine mz_doPQ (R := mz_r132) (as := [.ref 65, .int (nI jxa)]) (rest := []) (r1 := some (.int 0)) (m1 := mz_up w 64 1 ((w 64 1) + 1)) mz_t132 mz_v132_65 rfl rfl rfl rfl rfl ⟨?_, rfl⟩ ?_
        · refine mz_go 6 (c' := (8, [some (.ref 65), some (.int (nI jxa))], [.int (w 66 0), .int 0, .int (nI jxa)], mz_up w 64 1 ((w 64 1) + 1))) rfl ?_
          rw [h660]
          refine mz_go 2 (c' := (10, [some (.ref 65), some (.int (nI jxa))], [.int ((nI N) - 1), .int 0, .int (nI jxa)], mz_up w 64 1 ((w 64 1) + 1))) rfl ?_
          refine mz_doQ (R := mz_r128) (as := [.int (nI jxa), .int 0, .int ((nI N) - 1)]) (rest := []) (r1 := some (.int 0)) (m1 := mz_up w 64 1 ((w 64 1) + 1)) mz_t128 mz_v128 rfl rfl rfl rfl rfl ((ct_inG (m := mz_up w 64 1 ((w 64 1) + 1)) (v := nI jxa) (a := 0) (b := (nI N) - 1) q1 (show (((nI N) - 1) < (nI jxa)) from (sm_ltN (sm_subN (a := N) (b := 1) rfl rfl (by omega)) rfl (show (N - 1) < jxa by omega) (show jxa < 2 ^ 31 by omega)))).deep (by decide)) ?_
          exact mz_ret rfl
        refine mz_goP 3 (c' := (29, [some (.ref 65), some (.int (nI jxa)), some (.int xb), some (.int xc), some (.int xd), none, none], [.int 1, .ref 65], mz_up w 64 1 ((w 64 1) + 1))) rfl ?_
        refine mz_doPQ (R := mz_r127) (as := [.ref 65, .int 1]) (rest := []) (r1 := some (.int (-1000001))) (m1 := mz_up (mz_up w 64 1 ((w 64 1) + 1)) 68 1 ((w 68 1) + 1)) mz_t127 mz_v127_65 rfl rfl rfl rfl rfl ((ct_err1 (m := mz_up w 64 1 ((w 64 1) + 1))).deep (by decide)) ?_
        refine mz_retP (r := (some (.int ((-1000001))), mz_up (mz_up w 64 1 ((w 64 1) + 1)) 68 1 ((w 68 1) + 1))) rfl ⟨(-1000001), rfl, ?_, rfl⟩
        show sm_I (n + 1) (mz_up (mz_up w 64 1 ((w 64 1) + 1)) 68 1 ((w 68 1) + 1))
        exact sm_I_scr hn hI2 (fun i hi => by
          have hne : ∀ r, sm_scr r = true → i ≠ r := fun r hr e => by
            rw [e, hr] at hi
            cases hi
          simp only [mz_up_ne (hne 64 rfl), mz_up_ne (hne 68 rfl)]) rfl rfl
    · refine mz_doPQ (R := mz_r21) (as := [.ref 2, .int (nI jxa)]) (rest := []) (r1 := some (.int 1)) (m1 := w) mz_t21 mz_v21_2 rfl rfl rfl rfl rfl ((cs_has hN (m := w) h4 (show jxa < N by omega)).deep (by decide)) ?_
      refine mz_goP 2 (c' := (19, [some (.ref 0), some (.int (nI jxa)), some (.int xb), some (.int xc), some (.int xd), some (.ref 2), none], [.int xb], w)) rfl ?_
      by_cases q5 : (sm_bI (sm_in xb 0 6)) = 0
      · refine mz_doPQ (R := mz_r114) (as := [.int xb]) (rest := []) (r1 := some (.int (sm_bI (sm_in xb 0 6)))) (m1 := w) mz_t114 mz_v114 rfl rfl rfl rfl rfl ⟨?_, sm_fitB _⟩ ?_
        · refine mz_go 3 (c' := (4, [some (.int xb)], [.int 6, .int 0, .int xb], w)) rfl ?_
          refine mz_doQ (R := mz_r121) (as := [.int xb, .int 0, .int 6]) (rest := []) (r1 := some (.int (sm_bI (sm_in xb 0 6)))) (m1 := w) mz_t121 mz_v121 rfl rfl rfl rfl rfl ((cs_in (m := w) xb 0 6).deep (by decide)) ?_
          exact mz_ret rfl
        refine mz_goP 1 (c' := (if (sm_bI (sm_in xb 0 6)) = 0 then 34 else 25, [some (.ref 0), some (.int (nI jxa)), some (.int xb), some (.int xc), some (.int xd), some (.ref 2), none], [], w)) rfl ?_
        refine mz_ifTP q5 ?_
        refine mz_goP 2 (c' := (36, [some (.ref 0), some (.int (nI jxa)), some (.int xb), some (.int xc), some (.int xd), some (.ref 2), none], [.int 1, .ref 0], w)) rfl ?_
        refine mz_doPQ (R := mz_r109) (as := [.ref 0, .int 1]) (rest := []) (r1 := some (.int (-1000001))) (m1 := mz_up w 64 1 ((w 64 1) + 1)) mz_t109 mz_v109_0 rfl rfl rfl rfl rfl ((cs_err1 (m := w)).deep (by decide)) ?_
        refine mz_retP (r := (some (.int ((-1000001))), mz_up w 64 1 ((w 64 1) + 1))) rfl ⟨(-1000001), rfl, ?_⟩
        refine mz_goP 2 (c' := (2, [some (.ref 65), some (.int (nI jxa)), some (.int xb), some (.int xc), some (.int xd), none, none], [.int (nI jxa), .ref 65], mz_up w 64 1 ((w 64 1) + 1))) rfl ?_
        refine mz_doPQ (R := mz_r132) (as := [.ref 65, .int (nI jxa)]) (rest := []) (r1 := some (.int 1)) (m1 := mz_up w 64 1 ((w 64 1) + 1)) mz_t132 mz_v132_65 rfl rfl rfl rfl rfl ⟨?_, rfl⟩ ?_
        · refine mz_go 6 (c' := (8, [some (.ref 65), some (.int (nI jxa))], [.int (w 66 0), .int 0, .int (nI jxa)], mz_up w 64 1 ((w 64 1) + 1))) rfl ?_
          rw [h660]
          refine mz_go 2 (c' := (10, [some (.ref 65), some (.int (nI jxa))], [.int ((nI N) - 1), .int 0, .int (nI jxa)], mz_up w 64 1 ((w 64 1) + 1))) rfl ?_
          refine mz_doQ (R := mz_r128) (as := [.int (nI jxa), .int 0, .int ((nI N) - 1)]) (rest := []) (r1 := some (.int 1)) (m1 := mz_up w 64 1 ((w 64 1) + 1)) mz_t128 mz_v128 rfl rfl rfl rfl rfl ((ct_in1 (m := mz_up w 64 1 ((w 64 1) + 1)) (v := nI jxa) (a := 0) (b := (nI N) - 1) q1 (show ¬ (((nI N) - 1) < (nI jxa)) from (sm_nltN (sm_subN (a := N) (b := 1) rfl rfl (by omega)) rfl (show jxa ≤ (N - 1) by omega) (show (N - 1) < 2 ^ 31 by omega)))).deep (by decide)) ?_
          exact mz_ret rfl
        refine mz_goP 4 (c' := (12, [some (.ref 65), some (.int (nI jxa)), some (.int xb), some (.int xc), some (.int xd), none, none], [.int 6, .int 0, .int xb], mz_up w 64 1 ((w 64 1) + 1))) rfl ?_
        refine mz_doPQ (R := mz_r128) (as := [.int xb, .int 0, .int 6]) (rest := []) (r1 := some (.int (sm_bI (sm_in xb 0 6)))) (m1 := mz_up w 64 1 ((w 64 1) + 1)) mz_t128 mz_v128 rfl rfl rfl rfl rfl ((ct_in (m := mz_up w 64 1 ((w 64 1) + 1)) xb 0 6).deep (by decide)) ?_
        refine mz_goP 1 (c' := (if (sm_bI (sm_in xb 0 6)) = 0 then 27 else 18, [some (.ref 65), some (.int (nI jxa)), some (.int xb), some (.int xc), some (.int xd), none, none], [], mz_up w 64 1 ((w 64 1) + 1))) rfl ?_
        refine mz_ifTP q5 ?_
        refine mz_goP 2 (c' := (29, [some (.ref 65), some (.int (nI jxa)), some (.int xb), some (.int xc), some (.int xd), none, none], [.int 1, .ref 65], mz_up w 64 1 ((w 64 1) + 1))) rfl ?_
        refine mz_doPQ (R := mz_r127) (as := [.ref 65, .int 1]) (rest := []) (r1 := some (.int (-1000001))) (m1 := mz_up (mz_up w 64 1 ((w 64 1) + 1)) 68 1 ((w 68 1) + 1)) mz_t127 mz_v127_65 rfl rfl rfl rfl rfl ((ct_err1 (m := mz_up w 64 1 ((w 64 1) + 1))).deep (by decide)) ?_
        refine mz_retP (r := (some (.int ((-1000001))), mz_up (mz_up w 64 1 ((w 64 1) + 1)) 68 1 ((w 68 1) + 1))) rfl ⟨(-1000001), rfl, ?_, rfl⟩
        show sm_I (n + 1) (mz_up (mz_up w 64 1 ((w 64 1) + 1)) 68 1 ((w 68 1) + 1))
        exact sm_I_scr hn hI2 (fun i hi => by
          have hne : ∀ r, sm_scr r = true → i ≠ r := fun r hr e => by
            rw [e, hr] at hi
            cases hi
          simp only [mz_up_ne (hne 64 rfl), mz_up_ne (hne 68 rfl)]) rfl rfl
      · refine mz_doPQ (R := mz_r114) (as := [.int xb]) (rest := []) (r1 := some (.int 1)) (m1 := w) mz_t114 mz_v114 rfl rfl rfl rfl rfl ⟨?_, rfl⟩ ?_
        · refine mz_go 3 (c' := (4, [some (.int xb)], [.int 6, .int 0, .int xb], w)) rfl ?_
          refine mz_doQ (R := mz_r121) (as := [.int xb, .int 0, .int 6]) (rest := []) (r1 := some (.int 1)) (m1 := w) mz_t121 mz_v121 rfl rfl rfl rfl rfl ((cs_in1 (m := w) (v := xb) (a := 0) (b := 6) (show ¬ (xb < 0) from (sm_in_lo q5)) (show ¬ (6 < xb) from (sm_in_hi q5))).deep (by decide)) ?_
          exact mz_ret rfl
        refine mz_goP 3 (c' := (28, [some (.ref 0), some (.int (nI jxa)), some (.int xb), some (.int xc), some (.int xd), some (.ref 2), none], [.int xd, .int xc], w)) rfl ?_
        by_cases q6 : (sm_bI (sm_plc xc xd)) = 0
        · refine mz_doPQ (R := mz_r116) (as := [.int xc, .int xd]) (rest := []) (r1 := some (.int (sm_bI (sm_plc xc xd)))) (m1 := w) mz_t116 mz_v116 rfl rfl rfl rfl rfl ((cs_plc (m := w) xc xd).deep (by decide)) ?_
          refine mz_goP 1 (c' := (if (sm_bI (sm_plc xc xd)) = 0 then 34 else 40, [some (.ref 0), some (.int (nI jxa)), some (.int xb), some (.int xc), some (.int xd), some (.ref 2), none], [], w)) rfl ?_
          refine mz_ifTP q6 ?_
          refine mz_goP 2 (c' := (36, [some (.ref 0), some (.int (nI jxa)), some (.int xb), some (.int xc), some (.int xd), some (.ref 2), none], [.int 1, .ref 0], w)) rfl ?_
          refine mz_doPQ (R := mz_r109) (as := [.ref 0, .int 1]) (rest := []) (r1 := some (.int (-1000001))) (m1 := mz_up w 64 1 ((w 64 1) + 1)) mz_t109 mz_v109_0 rfl rfl rfl rfl rfl ((cs_err1 (m := w)).deep (by decide)) ?_
          refine mz_retP (r := (some (.int ((-1000001))), mz_up w 64 1 ((w 64 1) + 1))) rfl ⟨(-1000001), rfl, ?_⟩
          refine mz_goP 2 (c' := (2, [some (.ref 65), some (.int (nI jxa)), some (.int xb), some (.int xc), some (.int xd), none, none], [.int (nI jxa), .ref 65], mz_up w 64 1 ((w 64 1) + 1))) rfl ?_
          refine mz_doPQ (R := mz_r132) (as := [.ref 65, .int (nI jxa)]) (rest := []) (r1 := some (.int 1)) (m1 := mz_up w 64 1 ((w 64 1) + 1)) mz_t132 mz_v132_65 rfl rfl rfl rfl rfl ⟨?_, rfl⟩ ?_
          · refine mz_go 6 (c' := (8, [some (.ref 65), some (.int (nI jxa))], [.int (w 66 0), .int 0, .int (nI jxa)], mz_up w 64 1 ((w 64 1) + 1))) rfl ?_
            rw [h660]
            refine mz_go 2 (c' := (10, [some (.ref 65), some (.int (nI jxa))], [.int ((nI N) - 1), .int 0, .int (nI jxa)], mz_up w 64 1 ((w 64 1) + 1))) rfl ?_
            refine mz_doQ (R := mz_r128) (as := [.int (nI jxa), .int 0, .int ((nI N) - 1)]) (rest := []) (r1 := some (.int 1)) (m1 := mz_up w 64 1 ((w 64 1) + 1)) mz_t128 mz_v128 rfl rfl rfl rfl rfl ((ct_in1 (m := mz_up w 64 1 ((w 64 1) + 1)) (v := nI jxa) (a := 0) (b := (nI N) - 1) q1 (show ¬ (((nI N) - 1) < (nI jxa)) from (sm_nltN (sm_subN (a := N) (b := 1) rfl rfl (by omega)) rfl (show jxa ≤ (N - 1) by omega) (show (N - 1) < 2 ^ 31 by omega)))).deep (by decide)) ?_
            exact mz_ret rfl
          refine mz_goP 4 (c' := (12, [some (.ref 65), some (.int (nI jxa)), some (.int xb), some (.int xc), some (.int xd), none, none], [.int 6, .int 0, .int xb], mz_up w 64 1 ((w 64 1) + 1))) rfl ?_
          refine mz_doPQ (R := mz_r128) (as := [.int xb, .int 0, .int 6]) (rest := []) (r1 := some (.int 1)) (m1 := mz_up w 64 1 ((w 64 1) + 1)) mz_t128 mz_v128 rfl rfl rfl rfl rfl ((ct_in1 (m := mz_up w 64 1 ((w 64 1) + 1)) (v := xb) (a := 0) (b := 6) (show ¬ (xb < 0) from (sm_in_lo q5)) (show ¬ (6 < xb) from (sm_in_hi q5))).deep (by decide)) ?_
          refine mz_goP 3 (c' := (21, [some (.ref 65), some (.int (nI jxa)), some (.int xb), some (.int xc), some (.int xd), none, none], [.int xd, .int xc], mz_up w 64 1 ((w 64 1) + 1))) rfl ?_
          refine mz_doPQ (R := mz_r131) (as := [.int xc, .int xd]) (rest := []) (r1 := some (.int (sm_bI (sm_plc xc xd)))) (m1 := mz_up w 64 1 ((w 64 1) + 1)) mz_t131 mz_v131 rfl rfl rfl rfl rfl ((ct_plc (m := mz_up w 64 1 ((w 64 1) + 1)) xc xd).deep (by decide)) ?_
          refine mz_goP 1 (c' := (if (sm_bI (sm_plc xc xd)) = 0 then 27 else 33, [some (.ref 65), some (.int (nI jxa)), some (.int xb), some (.int xc), some (.int xd), none, none], [], mz_up w 64 1 ((w 64 1) + 1))) rfl ?_
          refine mz_ifTP q6 ?_
          refine mz_goP 2 (c' := (29, [some (.ref 65), some (.int (nI jxa)), some (.int xb), some (.int xc), some (.int xd), none, none], [.int 1, .ref 65], mz_up w 64 1 ((w 64 1) + 1))) rfl ?_
          refine mz_doPQ (R := mz_r127) (as := [.ref 65, .int 1]) (rest := []) (r1 := some (.int (-1000001))) (m1 := mz_up (mz_up w 64 1 ((w 64 1) + 1)) 68 1 ((w 68 1) + 1)) mz_t127 mz_v127_65 rfl rfl rfl rfl rfl ((ct_err1 (m := mz_up w 64 1 ((w 64 1) + 1))).deep (by decide)) ?_
          refine mz_retP (r := (some (.int ((-1000001))), mz_up (mz_up w 64 1 ((w 64 1) + 1)) 68 1 ((w 68 1) + 1))) rfl ⟨(-1000001), rfl, ?_, rfl⟩
          show sm_I (n + 1) (mz_up (mz_up w 64 1 ((w 64 1) + 1)) 68 1 ((w 68 1) + 1))
          exact sm_I_scr hn hI2 (fun i hi => by
            have hne : ∀ r, sm_scr r = true → i ≠ r := fun r hr e => by
              rw [e, hr] at hi
              cases hi
            simp only [mz_up_ne (hne 64 rfl), mz_up_ne (hne 68 rfl)]) rfl rfl
        · refine mz_doPQ (R := mz_r116) (as := [.int xc, .int xd]) (rest := []) (r1 := some (.int 1)) (m1 := w) mz_t116 mz_v116 rfl rfl rfl rfl rfl ⟨?_, rfl⟩ ?_
          · refine mz_go 3 (c' := (5, [some (.int xc), some (.int xd)], [.int 100, .int (-100), .int xc], w)) rfl ?_
            refine mz_doQ (R := mz_r121) (as := [.int xc, .int (-100), .int 100]) (rest := []) (r1 := some (.int 1)) (m1 := w) mz_t121 mz_v121 rfl rfl rfl rfl rfl ((cs_in1 (m := w) (v := xc) (a := (-100)) (b := 100) (show ¬ (xc < (-100)) from (sm_plc_of q6).1.1) (show ¬ (100 < xc) from (sm_plc_of q6).1.2)).deep (by decide)) ?_
            refine mz_go 4 (c' := (16, [some (.int xc), some (.int xd)], [.int 100, .int (-100), .int xd], w)) rfl ?_
            refine mz_doQ (R := mz_r121) (as := [.int xd, .int (-100), .int 100]) (rest := []) (r1 := some (.int 1)) (m1 := w) mz_t121 mz_v121 rfl rfl rfl rfl rfl ((cs_in1 (m := w) (v := xd) (a := (-100)) (b := 100) (show ¬ (xd < (-100)) from (sm_plc_of q6).2.1) (show ¬ (100 < xd) from (sm_plc_of q6).2.2)).deep (by decide)) ?_
            refine mz_go 3 (c' := (27, [some (.int xc), some (.int xd)], [.int 1], w)) rfl ?_
            exact mz_ret rfl
          refine mz_goP 4 (c' := (46, [some (.ref 0), some (.int (nI jxa)), some (.int xb), some (.int xc), some (.int xd), some (.ref 2), none], [.int (nI jxa), .ref 3], w)) rfl ?_
          refine mz_arrP (c' := (47, [some (.ref 0), some (.int (nI jxa)), some (.int xb), some (.int xc), some (.int xd), some (.ref 2), none], [.int (w 3 ((nI jxa).toNatClampNeg))], w)) rfl (show mz_in (nI jxa) 6 = true from sm_inN rfl (show jxa < 6 by omega) (by decide)) ?_
          rw [show (nI jxa : Int32).toNatClampNeg = jxa from sm_clN rfl (show jxa < 2 ^ 31 by omega)]
          refine mz_goP 5 (c' := (56, [some (.ref 0), some (.int (nI jxa)), some (.int xb), some (.int xc), some (.int xd), some (.ref 2), some (.int (w 3 jxa))], [.int xb, .int (nI jxa), .ref 3], w)) rfl ?_
          refine mz_arrP (c' := (57, [some (.ref 0), some (.int (nI jxa)), some (.int xb), some (.int xc), some (.int xd), some (.ref 2), some (.int (w 3 jxa))], [], mz_up w 3 ((nI jxa).toNatClampNeg) xb)) rfl (show mz_in (nI jxa) 6 = true from sm_inN rfl (show jxa < 6 by omega) (by decide)) ?_
          rw [show (nI jxa : Int32).toNatClampNeg = jxa from sm_clN rfl (show jxa < 2 ^ 31 by omega)]
          refine mz_goP 4 (c' := (64, [some (.ref 0), some (.int (nI jxa)), some (.int xb), some (.int xc), some (.int xd), some (.ref 2), some (.int (w 3 jxa))], [.int xc, .int (nI jxa), .ref 4], mz_up w 3 jxa xb)) rfl ?_
          refine mz_arrP (c' := (65, [some (.ref 0), some (.int (nI jxa)), some (.int xb), some (.int xc), some (.int xd), some (.ref 2), some (.int (w 3 jxa))], [], mz_up (mz_up w 3 jxa xb) 4 ((nI jxa).toNatClampNeg) xc)) rfl (show mz_in (nI jxa) 6 = true from sm_inN rfl (show jxa < 6 by omega) (by decide)) ?_
          rw [show (nI jxa : Int32).toNatClampNeg = jxa from sm_clN rfl (show jxa < 2 ^ 31 by omega)]
          refine mz_goP 4 (c' := (73, [some (.ref 0), some (.int (nI jxa)), some (.int xb), some (.int xc), some (.int xd), some (.ref 2), some (.int (w 3 jxa))], [.int xd, .int (nI jxa), .ref 5], mz_up (mz_up w 3 jxa xb) 4 jxa xc)) rfl ?_
          refine mz_arrP (c' := (74, [some (.ref 0), some (.int (nI jxa)), some (.int xb), some (.int xc), some (.int xd), some (.ref 2), some (.int (w 3 jxa))], [], mz_up (mz_up (mz_up w 3 jxa xb) 4 jxa xc) 5 ((nI jxa).toNatClampNeg) xd)) rfl (show mz_in (nI jxa) 6 = true from sm_inN rfl (show jxa < 6 by omega) (by decide)) ?_
          rw [show (nI jxa : Int32).toNatClampNeg = jxa from sm_clN rfl (show jxa < 2 ^ 31 by omega)]
          refine mz_goP 1 (c' := (76, [some (.ref 0), some (.int (nI jxa)), some (.int xb), some (.int xc), some (.int xd), some (.ref 2), some (.int (w 3 jxa))], [.int (w 3 jxa)], mz_up (mz_up (mz_up w 3 jxa xb) 4 jxa xc) 5 jxa xd)) rfl ?_
          refine mz_retP (r := (some (.int (w 3 jxa)), mz_up (mz_up (mz_up w 3 jxa xb) 4 jxa xc) 5 jxa xd)) rfl ⟨w 3 jxa, rfl, ?_⟩
          refine mz_goP 2 (c' := (2, [some (.ref 65), some (.int (nI jxa)), some (.int xb), some (.int xc), some (.int xd), none, none], [.int (nI jxa), .ref 65], mz_up (mz_up (mz_up w 3 jxa xb) 4 jxa xc) 5 jxa xd)) rfl ?_
          refine mz_doPQ (R := mz_r132) (as := [.ref 65, .int (nI jxa)]) (rest := []) (r1 := some (.int 1)) (m1 := mz_up (mz_up (mz_up w 3 jxa xb) 4 jxa xc) 5 jxa xd) mz_t132 mz_v132_65 rfl rfl rfl rfl rfl ⟨?_, rfl⟩ ?_
          · refine mz_go 6 (c' := (8, [some (.ref 65), some (.int (nI jxa))], [.int (w 66 0), .int 0, .int (nI jxa)], mz_up (mz_up (mz_up w 3 jxa xb) 4 jxa xc) 5 jxa xd)) rfl ?_
            rw [h660]
            refine mz_go 2 (c' := (10, [some (.ref 65), some (.int (nI jxa))], [.int ((nI N) - 1), .int 0, .int (nI jxa)], mz_up (mz_up (mz_up w 3 jxa xb) 4 jxa xc) 5 jxa xd)) rfl ?_
            refine mz_doQ (R := mz_r128) (as := [.int (nI jxa), .int 0, .int ((nI N) - 1)]) (rest := []) (r1 := some (.int 1)) (m1 := mz_up (mz_up (mz_up w 3 jxa xb) 4 jxa xc) 5 jxa xd) mz_t128 mz_v128 rfl rfl rfl rfl rfl ((ct_in1 (m := mz_up (mz_up (mz_up w 3 jxa xb) 4 jxa xc) 5 jxa xd) (v := nI jxa) (a := 0) (b := (nI N) - 1) q1 (show ¬ (((nI N) - 1) < (nI jxa)) from (sm_nltN (sm_subN (a := N) (b := 1) rfl rfl (by omega)) rfl (show jxa ≤ (N - 1) by omega) (show (N - 1) < 2 ^ 31 by omega)))).deep (by decide)) ?_
            exact mz_ret rfl
          refine mz_goP 4 (c' := (12, [some (.ref 65), some (.int (nI jxa)), some (.int xb), some (.int xc), some (.int xd), none, none], [.int 6, .int 0, .int xb], mz_up (mz_up (mz_up w 3 jxa xb) 4 jxa xc) 5 jxa xd)) rfl ?_
          refine mz_doPQ (R := mz_r128) (as := [.int xb, .int 0, .int 6]) (rest := []) (r1 := some (.int 1)) (m1 := mz_up (mz_up (mz_up w 3 jxa xb) 4 jxa xc) 5 jxa xd) mz_t128 mz_v128 rfl rfl rfl rfl rfl ((ct_in1 (m := mz_up (mz_up (mz_up w 3 jxa xb) 4 jxa xc) 5 jxa xd) (v := xb) (a := 0) (b := 6) (show ¬ (xb < 0) from (sm_in_lo q5)) (show ¬ (6 < xb) from (sm_in_hi q5))).deep (by decide)) ?_
          refine mz_goP 3 (c' := (21, [some (.ref 65), some (.int (nI jxa)), some (.int xb), some (.int xc), some (.int xd), none, none], [.int xd, .int xc], mz_up (mz_up (mz_up w 3 jxa xb) 4 jxa xc) 5 jxa xd)) rfl ?_
          refine mz_doPQ (R := mz_r131) (as := [.int xc, .int xd]) (rest := []) (r1 := some (.int 1)) (m1 := mz_up (mz_up (mz_up w 3 jxa xb) 4 jxa xc) 5 jxa xd) mz_t131 mz_v131 rfl rfl rfl rfl rfl ⟨?_, rfl⟩ ?_
          · refine mz_go 3 (c' := (5, [some (.int xc), some (.int xd)], [.int 100, .int (-100), .int xc], mz_up (mz_up (mz_up w 3 jxa xb) 4 jxa xc) 5 jxa xd)) rfl ?_
            refine mz_doQ (R := mz_r128) (as := [.int xc, .int (-100), .int 100]) (rest := []) (r1 := some (.int 1)) (m1 := mz_up (mz_up (mz_up w 3 jxa xb) 4 jxa xc) 5 jxa xd) mz_t128 mz_v128 rfl rfl rfl rfl rfl ((ct_in1 (m := mz_up (mz_up (mz_up w 3 jxa xb) 4 jxa xc) 5 jxa xd) (v := xc) (a := (-100)) (b := 100) (show ¬ (xc < (-100)) from (sm_plc_of q6).1.1) (show ¬ (100 < xc) from (sm_plc_of q6).1.2)).deep (by decide)) ?_
            refine mz_go 4 (c' := (16, [some (.int xc), some (.int xd)], [.int 100, .int (-100), .int xd], mz_up (mz_up (mz_up w 3 jxa xb) 4 jxa xc) 5 jxa xd)) rfl ?_
            refine mz_doQ (R := mz_r128) (as := [.int xd, .int (-100), .int 100]) (rest := []) (r1 := some (.int 1)) (m1 := mz_up (mz_up (mz_up w 3 jxa xb) 4 jxa xc) 5 jxa xd) mz_t128 mz_v128 rfl rfl rfl rfl rfl ((ct_in1 (m := mz_up (mz_up (mz_up w 3 jxa xb) 4 jxa xc) 5 jxa xd) (v := xd) (a := (-100)) (b := 100) (show ¬ (xd < (-100)) from (sm_plc_of q6).2.1) (show ¬ (100 < xd) from (sm_plc_of q6).2.2)).deep (by decide)) ?_
            refine mz_go 3 (c' := (27, [some (.int xc), some (.int xd)], [.int 1], mz_up (mz_up (mz_up w 3 jxa xb) 4 jxa xc) 5 jxa xd)) rfl ?_
            exact mz_ret rfl
          refine mz_goP 12 (c' := (49, [some (.ref 65), some (.int (nI jxa)), some (.int xb), some (.int xc), some (.int xd), some (.int (30 + (4 * (nI jxa)))), none], [.int ((30 + (4 * (nI jxa))) + 0), .ref 66], mz_up (mz_up (mz_up w 3 jxa xb) 4 jxa xc) 5 jxa xd)) rfl ?_
          refine mz_arrP (c' := (50, [some (.ref 65), some (.int (nI jxa)), some (.int xb), some (.int xc), some (.int xd), some (.int (30 + (4 * (nI jxa)))), none], [.int (w 66 (((30 + (4 * (nI jxa))) + 0).toNatClampNeg))], mz_up (mz_up (mz_up w 3 jxa xb) 4 jxa xc) 5 jxa xd)) rfl (show mz_in ((30 + (4 * (nI jxa))) + 0) 650 = true from sm_inN (sm_addN (sm_addN rfl (sm_mulN rfl rfl)) rfl) (show ((30 + (4 * jxa)) + 0) < 650 by omega) (by decide)) ?_
          rw [show ((30 + (4 * (nI jxa))) + 0 : Int32).toNatClampNeg = ((30 + (4 * jxa)) + 0) from sm_clN (sm_addN (sm_addN rfl (sm_mulN rfl rfl)) rfl) (show ((30 + (4 * jxa)) + 0) < 2 ^ 31 by omega)]
          rw [show w 66 ((30 + (4 * jxa)) + 0) = w 3 jxa from (hr2.2.1 jxa (by omega)).1]
          refine mz_goP 7 (c' := (61, [some (.ref 65), some (.int (nI jxa)), some (.int xb), some (.int xc), some (.int xd), some (.int (30 + (4 * (nI jxa)))), some (.int (w 3 jxa))], [.int xb, .int ((30 + (4 * (nI jxa))) + 0), .ref 66], mz_up (mz_up (mz_up w 3 jxa xb) 4 jxa xc) 5 jxa xd)) rfl ?_
          refine mz_arrP (c' := (62, [some (.ref 65), some (.int (nI jxa)), some (.int xb), some (.int xc), some (.int xd), some (.int (30 + (4 * (nI jxa)))), some (.int (w 3 jxa))], [], mz_up (mz_up (mz_up (mz_up w 3 jxa xb) 4 jxa xc) 5 jxa xd) 66 (((30 + (4 * (nI jxa))) + 0).toNatClampNeg) xb)) rfl (show mz_in ((30 + (4 * (nI jxa))) + 0) 650 = true from sm_inN (sm_addN (sm_addN rfl (sm_mulN rfl rfl)) rfl) (show ((30 + (4 * jxa)) + 0) < 650 by omega) (by decide)) ?_
          rw [show ((30 + (4 * (nI jxa))) + 0 : Int32).toNatClampNeg = ((30 + (4 * jxa)) + 0) from sm_clN (sm_addN (sm_addN rfl (sm_mulN rfl rfl)) rfl) (show ((30 + (4 * jxa)) + 0) < 2 ^ 31 by omega)]
          refine mz_goP 6 (c' := (71, [some (.ref 65), some (.int (nI jxa)), some (.int xb), some (.int xc), some (.int xd), some (.int (30 + (4 * (nI jxa)))), some (.int (w 3 jxa))], [.int xc, .int ((30 + (4 * (nI jxa))) + 1), .ref 66], mz_up (mz_up (mz_up (mz_up w 3 jxa xb) 4 jxa xc) 5 jxa xd) 66 ((30 + (4 * jxa)) + 0) xb)) rfl ?_
          refine mz_arrP (c' := (72, [some (.ref 65), some (.int (nI jxa)), some (.int xb), some (.int xc), some (.int xd), some (.int (30 + (4 * (nI jxa)))), some (.int (w 3 jxa))], [], mz_up (mz_up (mz_up (mz_up (mz_up w 3 jxa xb) 4 jxa xc) 5 jxa xd) 66 ((30 + (4 * jxa)) + 0) xb) 66 (((30 + (4 * (nI jxa))) + 1).toNatClampNeg) xc)) rfl (show mz_in ((30 + (4 * (nI jxa))) + 1) 650 = true from sm_inN (sm_addN (sm_addN rfl (sm_mulN rfl rfl)) rfl) (show ((30 + (4 * jxa)) + 1) < 650 by omega) (by decide)) ?_
          rw [show ((30 + (4 * (nI jxa))) + 1 : Int32).toNatClampNeg = ((30 + (4 * jxa)) + 1) from sm_clN (sm_addN (sm_addN rfl (sm_mulN rfl rfl)) rfl) (show ((30 + (4 * jxa)) + 1) < 2 ^ 31 by omega)]
          refine mz_goP 6 (c' := (82, [some (.ref 65), some (.int (nI jxa)), some (.int xb), some (.int xc), some (.int xd), some (.int (30 + (4 * (nI jxa)))), some (.int (w 3 jxa))], [.int xd, .int ((30 + (4 * (nI jxa))) + 2), .ref 66], mz_up (mz_up (mz_up (mz_up (mz_up w 3 jxa xb) 4 jxa xc) 5 jxa xd) 66 ((30 + (4 * jxa)) + 0) xb) 66 ((30 + (4 * jxa)) + 1) xc)) rfl ?_
          refine mz_arrP (c' := (83, [some (.ref 65), some (.int (nI jxa)), some (.int xb), some (.int xc), some (.int xd), some (.int (30 + (4 * (nI jxa)))), some (.int (w 3 jxa))], [], mz_up (mz_up (mz_up (mz_up (mz_up (mz_up w 3 jxa xb) 4 jxa xc) 5 jxa xd) 66 ((30 + (4 * jxa)) + 0) xb) 66 ((30 + (4 * jxa)) + 1) xc) 66 (((30 + (4 * (nI jxa))) + 2).toNatClampNeg) xd)) rfl (show mz_in ((30 + (4 * (nI jxa))) + 2) 650 = true from sm_inN (sm_addN (sm_addN rfl (sm_mulN rfl rfl)) rfl) (show ((30 + (4 * jxa)) + 2) < 650 by omega) (by decide)) ?_
          rw [show ((30 + (4 * (nI jxa))) + 2 : Int32).toNatClampNeg = ((30 + (4 * jxa)) + 2) from sm_clN (sm_addN (sm_addN rfl (sm_mulN rfl rfl)) rfl) (show ((30 + (4 * jxa)) + 2) < 2 ^ 31 by omega)]
          refine mz_goP 1 (c' := (85, [some (.ref 65), some (.int (nI jxa)), some (.int xb), some (.int xc), some (.int xd), some (.int (30 + (4 * (nI jxa)))), some (.int (w 3 jxa))], [.int (w 3 jxa)], mz_up (mz_up (mz_up (mz_up (mz_up (mz_up w 3 jxa xb) 4 jxa xc) 5 jxa xd) 66 ((30 + (4 * jxa)) + 0) xb) 66 ((30 + (4 * jxa)) + 1) xc) 66 ((30 + (4 * jxa)) + 2) xd)) rfl ?_
          refine mz_retP (r := (some (.int (w 3 jxa)), mz_up (mz_up (mz_up (mz_up (mz_up (mz_up w 3 jxa xb) 4 jxa xc) 5 jxa xd) 66 ((30 + (4 * jxa)) + 0) xb) 66 ((30 + (4 * jxa)) + 1) xc) 66 ((30 + (4 * jxa)) + 2) xd)) rfl ⟨w 3 jxa, rfl, ?_, rfl⟩
          show sm_I (n + 1) (mz_up (mz_up (mz_up (mz_up (mz_up (mz_up w 3 jxa xb) 4 jxa xc) 5 jxa xd) 66 ((30 + (4 * jxa)) + 0) xb) 66 ((30 + (4 * jxa)) + 1) xc) 66 ((30 + (4 * jxa)) + 2) xd)
          obtain ⟨-, ⟨d1, d2, d3, ⟨d4, d4b, d4c⟩, d5, d6, d7, d8⟩, da, db, dc⟩ := hI2
          have hs : ∀ i, i ≠ ((30 + (4 * jxa)) + 0) → i ≠ ((30 + (4 * jxa)) + 1) → i ≠ ((30 + (4 * jxa)) + 2) → (mz_up (mz_up (mz_up (mz_up (mz_up (mz_up w 3 jxa xb) 4 jxa xc) 5 jxa xd) 66 ((30 + (4 * jxa)) + 0) xb) 66 ((30 + (4 * jxa)) + 1) xc) 66 ((30 + (4 * jxa)) + 2) xd) 66 i = w 66 i := fun i p0 p1 p2 => by rw [mz_up_eq, if_neg (by omega), mz_up_eq, if_neg (by omega), mz_up_eq, if_neg (by omega), mz_up_ne (show (66 : Nat) ≠ 5 by decide), mz_up_ne (show (66 : Nat) ≠ 4 by decide), mz_up_ne (show (66 : Nat) ≠ 3 by decide)]
          exact ⟨hn, ⟨⟨d1.1.elim fun N1 h1 => ⟨N1, h1.1, h1.2.1, (hs 0 (by omega) (by omega) (by omega)).trans h1.2.2⟩, fun i h => sm_shifted (j := jxa) hs ⟨by rw [mz_up_eq, if_neg (by omega), mz_up_eq, if_neg (by omega), mz_up_eq, if_pos rfl], by rw [mz_up_eq, if_neg (by omega), mz_up_eq, if_pos rfl], by rw [mz_up_eq, if_pos rfl]⟩ (fun i => by rw [mz_up_ne (show (3 : Nat) ≠ 66 by decide), mz_up_ne (show (3 : Nat) ≠ 66 by decide), mz_up_ne (show (3 : Nat) ≠ 66 by decide), mz_up_ne (show (3 : Nat) ≠ 5 by decide), mz_up_ne (show (3 : Nat) ≠ 4 by decide), mz_up_eq]) (fun i => by rw [mz_up_ne (show (4 : Nat) ≠ 66 by decide), mz_up_ne (show (4 : Nat) ≠ 66 by decide), mz_up_ne (show (4 : Nat) ≠ 66 by decide), mz_up_ne (show (4 : Nat) ≠ 5 by decide), mz_up_eq, mz_up_ne (show (4 : Nat) ≠ 3 by decide)]) (fun i => by rw [mz_up_ne (show (5 : Nat) ≠ 66 by decide), mz_up_ne (show (5 : Nat) ≠ 66 by decide), mz_up_ne (show (5 : Nat) ≠ 66 by decide), mz_up_eq, mz_up_ne (show (5 : Nat) ≠ 4 by decide), mz_up_ne (show (5 : Nat) ≠ 3 by decide)]) (d1.2 i h) (sm_N_of (n := 6) (by decide) (sm_in_lo q5) (sm_in_hi q5)) (sm_B_of (sm_plc_of q6).1.1 (sm_plc_of q6).1.2) (sm_B_of (sm_plc_of q6).2.1 (sm_plc_of q6).2.2)⟩, sm_k2 (fun i h1 h2 => hs i (by omega) (by omega) (by omega)) d2, sm_k3 (hs 1 (by omega) (by omega) (by omega)) (fun i h1 h2 => hs i (by omega) (by omega) (by omega)) d3, ⟨sm_k4 (fun i h1 h2 => hs i (by omega) (by omega) (by omega)) d4, sm_k4 (fun i h1 h2 => hs i (by omega) (by omega) (by omega)) d4b, sm_k4 (fun i h1 h2 => hs i (by omega) (by omega) (by omega)) d4c⟩, sm_k5 (fun i h1 h2 => hs i (by omega) (by omega) (by omega)) d5, sm_k6 (fun i h1 h2 => hs i (by omega) (by omega) (by omega)) d6, sm_k7 (fun i h1 h2 => hs i (by omega) (by omega) (by omega)) d7, sm_k8 (hs 2 (by omega) (by omega) (by omega)) (hs 3 (by omega) (by omega) (by omega)) (fun i h1 h2 => hs i (by omega) (by omega) (by omega)) d8⟩, da, db, sm_cc_of (fun i h1 h2 => by simp only [mz_up_ne (show i ≠ 3 by omega), mz_up_ne (show i ≠ 4 by omega), mz_up_ne (show i ≠ 5 by omega), mz_up_ne (show i ≠ 66 by omega)]) dc⟩
set_option maxHeartbeats 4000000 in
set_option maxRecDepth 100000 in
theorem sc_tell {n : Nat} (hn : n < 64) {w : mz_M} (hI : sm_I n w) (xa : Int32) : ∃ v1 v2 m1 m2, mz_Me 100 mz_r105 [.ref 0, .int xa] w (some (.int v1)) m1 ∧ mz_Me 100 mz_r226 [.ref 65, .int xa] m1 (some (.int v2)) m2 ∧ sm_I (n + 1) m2 ∧ v1 = v2 := by
  have hI2 := hI
  obtain ⟨hn0, ⟨-, ⟨hr80, hr5, hrr⟩, ⟨⟨TT, hTT, h81, h661⟩, htp⟩, ⟨⟨T0, hT0, hU0, hV0, -⟩, ⟨T1, hT1, hU1, hV1, -⟩, ⟨T2, hT2, hU2, hV2, -⟩⟩, ⟨hbx, hby, hbl⟩, ⟨⟨WW, HH, hWW, hHH, hWH, h202, h203, h6660, h6661⟩, h6662, h6663, h6664, hpc⟩, ⟨hth, h66160, hthr⟩, ⟨⟨AA, hAA, h111, h662⟩, h663, hwt⟩⟩, ⟨hsh, hsn⟩, ⟨hcb1, hcb2⟩, ⟨JJ, hJJ, h07, h652, hkept⟩⟩ := hI
  obtain ⟨N, hw, hr2, h660, -, -, h6615⟩ := sm_world hI2
  have hw2 := hw
  obtain ⟨hN, h4, hpb, -, -⟩ := hw2
  have hT60a := sm_T60 hV0
  have hT60b := sm_T60 hV1
  have hT60c := sm_T60 hV2
  obtain ⟨B1, hB1, e571⟩ := sm_Nof (by decide) hcb1
  obtain ⟨B2, hB2, e6519⟩ := sm_Nof (by decide) hcb2
  refine mz_two (fun _ => rfl) (fun _ => rfl) ?_
  refine mz_goP 3 (c' := (7, [some (.ref 0), some (.int xa)], [.int (w 1 11)], w)) rfl ?_
  rw [h111]
  refine mz_goP 2 (c' := (if (nI AA) < 24 then 18 else 12, [some (.ref 0), some (.int xa)], [], w)) rfl ?_
  by_cases q1 : AA < 24
  · refine mz_ifTP (show ((nI AA) < 24) from (sm_ltN rfl rfl (show AA < 24 by omega) (show 24 < 2 ^ 31 by omega))) ?_
    refine mz_goP 6 (c' := (32, [some (.ref 0), some (.int xa)], [.int (w 1 11), .ref 24], w)) rfl ?_
    rw [h111]
    refine mz_goP 1 (c' := (33, [some (.ref 0), some (.int xa)], [.int xa, .int (nI AA), .ref 24], w)) rfl ?_
    refine mz_arrP (c' := (34, [some (.ref 0), some (.int xa)], [], mz_up w 24 ((nI AA).toNatClampNeg) xa)) rfl (show mz_in (nI AA) 24 = true from sm_inN rfl (show AA < 24 by omega) (by decide)) ?_
    rw [show (nI AA : Int32).toNatClampNeg = AA from sm_clN rfl (show AA < 2 ^ 31 by omega)]
    refine mz_goP 4 (c' := (42, [some (.ref 0), some (.int xa)], [.int (w 1 11), .ref 1], mz_up w 24 AA xa)) rfl ?_
    rw [h111]
    refine mz_goP 6 (c' := (54, [some (.ref 0), some (.int xa)], [.int ((nI AA) + 1)], mz_up (mz_up w 24 AA xa) 1 11 ((nI AA) + 1))) rfl ?_
    refine mz_retP (r := (some (.int ((nI AA) + 1)), mz_up (mz_up w 24 AA xa) 1 11 ((nI AA) + 1))) rfl ⟨(nI AA) + 1, rfl, ?_⟩
    refine mz_goP 4 (c' := (6, [some (.ref 65), some (.int xa)], [.int (w 66 2)], mz_up (mz_up w 24 AA xa) 1 11 ((nI AA) + 1))) rfl ?_
    rw [h662]
    refine mz_goP 2 (c' := (if (nI AA) = 24 then 11 else 17, [some (.ref 65), some (.int xa)], [], mz_up (mz_up w 24 AA xa) 1 11 ((nI AA) + 1))) rfl ?_
    refine mz_ifFP (show ¬ ((nI AA) = 24) from (sm_neN rfl rfl (show AA ≠ 24 by omega) (show AA < 2 ^ 31 by omega) (show 24 < 2 ^ 31 by omega))) ?_
    refine mz_goP 7 (c' := (30, [some (.ref 65), some (.int xa)], [.int (w 66 2), .int 620, .ref 66], mz_up (mz_up w 24 AA xa) 1 11 ((nI AA) + 1))) rfl ?_
    rw [h662]
    refine mz_goP 2 (c' := (32, [some (.ref 65), some (.int xa)], [.int xa, .int (620 + (nI AA)), .ref 66], mz_up (mz_up w 24 AA xa) 1 11 ((nI AA) + 1))) rfl ?_
    refine mz_arrP (c' := (33, [some (.ref 65), some (.int xa)], [], mz_up (mz_up (mz_up w 24 AA xa) 1 11 ((nI AA) + 1)) 66 ((620 + (nI AA)).toNatClampNeg) xa)) rfl (show mz_in (620 + (nI AA)) 650 = true from sm_inN (sm_addN rfl rfl) (show (620 + AA) < 650 by omega) (by decide)) ?_
    rw [show (620 + (nI AA) : Int32).toNatClampNeg = (620 + AA) from sm_clN (sm_addN rfl rfl) (show (620 + AA) < 2 ^ 31 by omega)]
    refine mz_goP 5 (c' := (40, [some (.ref 65), some (.int xa)], [.int ((mz_up (mz_up (mz_up w 24 AA xa) 1 11 ((nI AA) + 1)) 66 (620 + AA) xa) 66 2), .int 2, .ref 66], mz_up (mz_up (mz_up w 24 AA xa) 1 11 ((nI AA) + 1)) 66 (620 + AA) xa)) rfl ?_
    rw [show (mz_up (mz_up (mz_up w 24 AA xa) 1 11 ((nI AA) + 1)) 66 (620 + AA) xa) 66 2 = w 66 2 from by rw [mz_up_eq, if_neg (show ¬ 2 = (620 + AA) by omega), mz_up_ne (show (66 : Nat) ≠ 1 by decide), mz_up_ne (show (66 : Nat) ≠ 24 by decide)]]
    rw [h662]
    refine mz_goP 7 (c' := (49, [some (.ref 65), some (.int xa)], [.int ((nI AA) + 1)], mz_up (mz_up (mz_up (mz_up w 24 AA xa) 1 11 ((nI AA) + 1)) 66 (620 + AA) xa) 66 2 ((nI AA) + 1))) rfl ?_
    refine mz_retP (r := (some (.int ((nI AA) + 1)), mz_up (mz_up (mz_up (mz_up w 24 AA xa) 1 11 ((nI AA) + 1)) 66 (620 + AA) xa) 66 2 ((nI AA) + 1))) rfl ⟨(nI AA) + 1, rfl, ?_, rfl⟩
    show sm_I (n + 1) (mz_up (mz_up (mz_up (mz_up w 24 AA xa) 1 11 ((nI AA) + 1)) 66 (620 + AA) xa) 66 2 ((nI AA) + 1))
    obtain ⟨-, ⟨d1, d2, d3, ⟨d4, d4b, d4c⟩, d5, d6, d7, d8⟩, da, db, dc⟩ := hI2
    have hs : ∀ i, i ≠ (620 + AA) → i ≠ 2 → (mz_up (mz_up (mz_up (mz_up w 24 AA xa) 1 11 ((nI AA) + 1)) 66 (620 + AA) xa) 66 2 ((nI AA) + 1)) 66 i = w 66 i := fun i p0 p1 => by rw [mz_up_eq, if_neg (by omega), mz_up_eq, if_neg (by omega), mz_up_ne (show (66 : Nat) ≠ 1 by decide), mz_up_ne (show (66 : Nat) ≠ 24 by decide)]
    exact ⟨hn, ⟨sm_k1 (hs 0 (by omega) (by omega)) (fun i h1 h2 => hs i (by omega) (by omega)) d1, sm_k2 (fun i h1 h2 => hs i (by omega) (by omega)) d2, sm_k3 (hs 1 (by omega) (by omega)) (fun i h1 h2 => hs i (by omega) (by omega)) d3, ⟨sm_k4 (fun i h1 h2 => hs i (by omega) (by omega)) d4, sm_k4 (fun i h1 h2 => hs i (by omega) (by omega)) d4b, sm_k4 (fun i h1 h2 => hs i (by omega) (by omega)) d4c⟩, sm_k5 (fun i h1 h2 => hs i (by omega) (by omega)) d5, sm_k6 (fun i h1 h2 => hs i (by omega) (by omega)) d6, sm_k7 (fun i h1 h2 => hs i (by omega) (by omega)) d7, ⟨⟨AA + 1, by omega, (nI_succ AA).symm, (nI_succ AA).symm⟩, (hs 3 (by omega) (by omega)).trans d8.2.1, fun i h => sm_told hs (d8.2.2 i h) (by rw [mz_up_eq, if_neg (by omega), mz_up_eq, if_pos rfl]) (fun i => by rw [mz_up_ne (show (24 : Nat) ≠ 66 by decide), mz_up_ne (show (24 : Nat) ≠ 66 by decide), mz_up_ne (show (24 : Nat) ≠ 1 by decide), mz_up_eq])⟩⟩, da, db, sm_cc_of (fun i h1 h2 => by simp only [mz_up_ne (show i ≠ 1 by omega), mz_up_ne (show i ≠ 24 by omega), mz_up_ne (show i ≠ 66 by omega)]) dc⟩
  · refine mz_ifFP (show ¬ ((nI AA) < 24) from (sm_nltN rfl rfl (show 24 ≤ AA by omega) (show AA < 2 ^ 31 by omega))) ?_
    refine mz_goP 2 (c' := (14, [some (.ref 0), some (.int xa)], [.int 4, .ref 0], w)) rfl ?_
    refine mz_doPQ (R := mz_r109) (as := [.ref 0, .int 4]) (rest := []) (r1 := some (.int (-1000004))) (m1 := mz_up w 64 4 ((w 64 4) + 1)) mz_t109 mz_v109_0 rfl rfl rfl rfl rfl ((cs_err4 (m := w)).deep (by decide)) ?_
    refine mz_retP (r := (some (.int ((-1000004))), mz_up w 64 4 ((w 64 4) + 1))) rfl ⟨(-1000004), rfl, ?_⟩
    refine mz_goP 4 (c' := (6, [some (.ref 65), some (.int xa)], [.int (w 66 2)], mz_up w 64 4 ((w 64 4) + 1))) rfl ?_
    rw [h662]
    refine mz_goP 2 (c' := (if (nI AA) = 24 then 11 else 17, [some (.ref 65), some (.int xa)], [], mz_up w 64 4 ((w 64 4) + 1))) rfl ?_
    refine mz_ifTP (show ((nI AA) = 24) from (sm_eqN rfl rfl (show AA = 24 by omega))) ?_
    refine mz_goP 2 (c' := (13, [some (.ref 65), some (.int xa)], [.int 4, .ref 65], mz_up w 64 4 ((w 64 4) + 1))) rfl ?_
    refine mz_doPQ (R := mz_r127) (as := [.ref 65, .int 4]) (rest := []) (r1 := some (.int (-1000004))) (m1 := mz_up (mz_up w 64 4 ((w 64 4) + 1)) 68 4 ((w 68 4) + 1)) mz_t127 mz_v127_65 rfl rfl rfl rfl rfl ((ct_err4 (m := mz_up w 64 4 ((w 64 4) + 1))).deep (by decide)) ?_
    refine mz_retP (r := (some (.int ((-1000004))), mz_up (mz_up w 64 4 ((w 64 4) + 1)) 68 4 ((w 68 4) + 1))) rfl ⟨(-1000004), rfl, ?_, rfl⟩
    show sm_I (n + 1) (mz_up (mz_up w 64 4 ((w 64 4) + 1)) 68 4 ((w 68 4) + 1))
    exact sm_I_scr hn hI2 (fun i hi => by
      have hne : ∀ r, sm_scr r = true → i ≠ r := fun r hr e => by
        rw [e, hr] at hi
        cases hi
      simp only [mz_up_ne (hne 64 rfl), mz_up_ne (hne 68 rfl)]) rfl rfl
