set_option maxHeartbeats 4000000 in
set_option maxRecDepth 100000 in
theorem sc_tick {n : Nat} (hn : n < 64) {w : mz_M} (hI : sm_I n w) (xa : Int32) : ∃ v1 v2 m1 m2, mz_Me 100 mz_r79 [.ref 0, .int xa] w (some (.int v1)) m1 ∧ mz_Me 100 mz_r177 [.ref 65, .int xa] m1 (some (.int v2)) m2 ∧ sm_I (n + 1) m2 ∧ v1 = v2 := by
  have hI2 := hI
  obtain ⟨hn0, ⟨-, ⟨hr80, hr5, hrr⟩, ⟨⟨TT, hTT, h81, h661⟩, htp⟩, ⟨⟨T0, hT0, hU0, hV0, -⟩, ⟨T1, hT1, hU1, hV1, -⟩, ⟨T2, hT2, hU2, hV2, -⟩⟩, ⟨hbx, hby, hbl⟩, ⟨⟨WW, HH, hWW, hHH, hWH, h202, h203, h6660, h6661⟩, h6662, h6663, h6664, hpc⟩, ⟨hth, h66160, hthr⟩, ⟨⟨AA, hAA, h111, h662⟩, h663, hwt⟩⟩, ⟨hsh, hsn⟩, ⟨hcb1, hcb2⟩, ⟨JJ, hJJ, h07, h652, hkept⟩⟩ := hI
  obtain ⟨N, hw, hr2, h660, -, -, h6615⟩ := sm_world hI2
  have hw2 := hw
  obtain ⟨hN, h4, hpb, -, -⟩ := hw2
  have hT60a := sm_T60 hV0
  have hT60b := sm_T60 hV1
  have hT60c := sm_T60 hV2
  obtain ⟨B1, hB1, e571⟩ := sm_Nof (by decide) hcb1
  obtain ⟨B2, hB2, e6519⟩ := sm_Nof (by decide) hcb2
  refine mz_two (fun _ => rfl) (fun _ => rfl) ?_
  by_cases q1 : (sm_bI (sm_in xa 1 200)) = 0
  · refine mz_goP 3 (c' := (5, [some (.ref 0), some (.int xa), none], [.int 200, .int 1, .int xa], w)) rfl ?_
    refine mz_doPQ (R := mz_r121) (as := [.int xa, .int 1, .int 200]) (rest := []) (r1 := some (.int (sm_bI (sm_in xa 1 200)))) (m1 := w) mz_t121 mz_v121 rfl rfl rfl rfl rfl ((cs_in (m := w) xa 1 200).deep (by decide)) ?_
    refine mz_goP 1 (c' := (if (sm_bI (sm_in xa 1 200)) = 0 then 11 else 17, [some (.ref 0), some (.int xa), none], [], w)) rfl ?_
    refine mz_ifTP q1 ?_
    refine mz_goP 2 (c' := (13, [some (.ref 0), some (.int xa), none], [.int 1, .ref 0], w)) rfl ?_
    refine mz_doPQ (R := mz_r109) (as := [.ref 0, .int 1]) (rest := []) (r1 := some (.int (-1000001))) (m1 := mz_up w 64 1 ((w 64 1) + 1)) mz_t109 mz_v109_0 rfl rfl rfl rfl rfl ((cs_err1 (m := w)).deep (by decide)) ?_
    refine mz_retP (r := (some (.int ((-1000001))), mz_up w 64 1 ((w 64 1) + 1))) rfl ⟨(-1000001), rfl, ?_⟩
    refine mz_goP 3 (c' := (5, [some (.ref 65), some (.int xa), none], [.int 200, .int 1, .int xa], mz_up w 64 1 ((w 64 1) + 1))) rfl ?_
    refine mz_doPQ (R := mz_r128) (as := [.int xa, .int 1, .int 200]) (rest := []) (r1 := some (.int (sm_bI (sm_in xa 1 200)))) (m1 := mz_up w 64 1 ((w 64 1) + 1)) mz_t128 mz_v128 rfl rfl rfl rfl rfl ((ct_in (m := mz_up w 64 1 ((w 64 1) + 1)) xa 1 200).deep (by decide)) ?_
    refine mz_goP 1 (c' := (if (sm_bI (sm_in xa 1 200)) = 0 then 11 else 17, [some (.ref 65), some (.int xa), none], [], mz_up w 64 1 ((w 64 1) + 1))) rfl ?_
    refine mz_ifTP q1 ?_
    refine mz_goP 2 (c' := (13, [some (.ref 65), some (.int xa), none], [.int 1, .ref 65], mz_up w 64 1 ((w 64 1) + 1))) rfl ?_
    refine mz_doPQ (R := mz_r127) (as := [.ref 65, .int 1]) (rest := []) (r1 := some (.int (-1000001))) (m1 := mz_up (mz_up w 64 1 ((w 64 1) + 1)) 68 1 ((w 68 1) + 1)) mz_t127 mz_v127_65 rfl rfl rfl rfl rfl ((ct_err1 (m := mz_up w 64 1 ((w 64 1) + 1))).deep (by decide)) ?_
    refine mz_retP (r := (some (.int ((-1000001))), mz_up (mz_up w 64 1 ((w 64 1) + 1)) 68 1 ((w 68 1) + 1))) rfl ⟨(-1000001), rfl, ?_, rfl⟩
    show sm_I (n + 1) (mz_up (mz_up w 64 1 ((w 64 1) + 1)) 68 1 ((w 68 1) + 1))
    exact sm_I_scr hn hI2 (fun i hi => by
      have hne : ∀ r, sm_scr r = true → i ≠ r := fun r hr e => by
        rw [e, hr] at hi
        cases hi
      simp only [mz_up_ne (hne 64 rfl), mz_up_ne (hne 68 rfl)]) rfl rfl
  · by_cases q2 : ((w 19 4) + xa) ≤ 9999
    · obtain ⟨jxa, hjxa, rfl⟩ := nI_of (by have hl : (1 : Int) ≤ (xa).toInt := Int32.le_iff_toInt_le.mp (Int32.not_lt.mp (sm_in_lo q1)); have hu : (xa).toInt ≤ (200 : Int) := Int32.le_iff_toInt_le.mp (Int32.not_lt.mp (sm_in_hi q1)); exact Int32.not_lt.mpr (Int32.le_iff_toInt_le.mpr (show (0 : Int) ≤ (xa).toInt by omega)))
      have zxa0 : ¬ jxa < 1 := fun z => (sm_in_lo q1) ((nI_ltI hjxa (by decide)).mpr z)
      have zxa1 : ¬ 200 < jxa := fun z => (sm_in_hi q1) ((nI_ltI (by decide) hjxa).mpr z)
      refine mz_goP 3 (c' := (5, [some (.ref 0), some (.int (nI jxa)), none], [.int 200, .int 1, .int (nI jxa)], w)) rfl ?_
      refine mz_doPQ (R := mz_r121) (as := [.int (nI jxa), .int 1, .int 200]) (rest := []) (r1 := some (.int 1)) (m1 := w) mz_t121 mz_v121 rfl rfl rfl rfl rfl ((cs_in1 (m := w) (v := nI jxa) (a := 1) (b := 200) (show ¬ ((nI jxa) < 1) from (sm_in_lo q1)) (show ¬ (200 < (nI jxa)) from (sm_in_hi q1))).deep (by decide)) ?_
      refine mz_goP 9 (c' := (if ((w 19 4) + (nI jxa)) ≤ 9999 then 41 else 35, [some (.ref 0), some (.int (nI jxa)), none], [], w)) rfl ?_
      refine mz_ifTP q2 ?_
      refine mz_goP 2 (c' := (43, [some (.ref 0), some (.int (nI jxa)), some (.int 0)], [], w)) rfl ?_
      obtain ⟨rT, fT, gT, lT, bT, ET⟩ := cs_tksl hw hr5 (K := jxa) (D := 59) (by omega) jxa 0 (by omega) (w 19) (w 51) (w 52) hbx hby
      rw [show mz_set (mz_set (mz_set w 19 (w 19)) 51 (w 51)) 52 (w 52) = w from by rw [sm_id, sm_id, sm_id]] at ET
      refine mz_hkP ET ?_
      refine mz_goP 4 (c' := (87, [some (.ref 0), some (.int (nI jxa)), some (.int (nI jxa))], [.int (rT 4)], mz_set (mz_set (mz_set w 19 rT) 51 fT) 52 gT)) rfl ?_
      rw [lT.2.2.2.2]
      refine mz_retP (r := (some (.int (sm_tks w (w 7 5) jxa (w 19) 4)), mz_set (mz_set (mz_set w 19 rT) 51 fT) 52 gT)) rfl ⟨sm_tks w (w 7 5) jxa (w 19) 4, rfl, ?_⟩
      refine mz_goP 3 (c' := (5, [some (.ref 65), some (.int (nI jxa)), none], [.int 200, .int 1, .int (nI jxa)], mz_set (mz_set (mz_set w 19 rT) 51 fT) 52 gT)) rfl ?_
      refine mz_doPQ (R := mz_r128) (as := [.int (nI jxa), .int 1, .int 200]) (rest := []) (r1 := some (.int 1)) (m1 := mz_set (mz_set (mz_set w 19 rT) 51 fT) 52 gT) mz_t128 mz_v128 rfl rfl rfl rfl rfl ((ct_in1 (m := mz_set (mz_set (mz_set w 19 rT) 51 fT) 52 gT) (v := nI jxa) (a := 1) (b := 200) (show ¬ ((nI jxa) < 1) from (sm_in_lo q1)) (show ¬ (200 < (nI jxa)) from (sm_in_hi q1))).deep (by decide)) ?_
      refine mz_goP 5 (c' := (24, [some (.ref 65), some (.int (nI jxa)), none], [.int (w 66 24)], mz_set (mz_set (mz_set w 19 rT) 51 fT) 52 gT)) rfl ?_
      rw [show w 66 24 = w 19 4 from hbl.2.2.2.2]
      refine mz_goP 4 (c' := (if ((w 19 4) + (nI jxa)) ≤ 9999 then 38 else 32, [some (.ref 65), some (.int (nI jxa)), none], [], mz_set (mz_set (mz_set w 19 rT) 51 fT) 52 gT)) rfl ?_
      refine mz_ifTP q2 ?_
      refine mz_goP 1 (c' := (39, [some (.ref 65), some (.int (nI jxa)), none], [.ref 65], mz_set (mz_set (mz_set w 19 rT) 51 fT) 52 gT)) rfl ?_
      refine mz_doPQ (R := mz_r145) (as := [.ref 65]) (rest := []) (r1 := none) (m1 := mz_up (mz_up (mz_up (mz_up (mz_up (mz_set (mz_set (mz_set w 19 rT) 51 fT) 52 gT) 65 4 (w 19 0)) 65 5 (w 19 1)) 65 6 (w 19 2)) 65 7 (w 19 3)) 65 8 (w 19 4)) mz_t145 mz_v145_65 rfl rfl rfl rfl rfl ⟨?_, rfl⟩ ?_
      · refine mz_go 5 (c' := (8, [some (.ref 65)], [.int (w 66 20), .ref 65], mz_set (mz_set (mz_set w 19 rT) 51 fT) 52 gT)) rfl ?_
        rw [show w 66 20 = w 19 0 from hbl.1]
        refine mz_go 6 (c' := (19, [some (.ref 65)], [.int (w 66 21), .ref 65], mz_up (mz_set (mz_set (mz_set w 19 rT) 51 fT) 52 gT) 65 4 (w 19 0))) rfl ?_
        rw [show w 66 21 = w 19 1 from hbl.2.1]
        refine mz_go 6 (c' := (30, [some (.ref 65)], [.int (w 66 22), .ref 65], mz_up (mz_up (mz_set (mz_set (mz_set w 19 rT) 51 fT) 52 gT) 65 4 (w 19 0)) 65 5 (w 19 1))) rfl ?_
        rw [show w 66 22 = w 19 2 from hbl.2.2.1]
        refine mz_go 6 (c' := (41, [some (.ref 65)], [.int (w 66 23), .ref 65], mz_up (mz_up (mz_up (mz_set (mz_set (mz_set w 19 rT) 51 fT) 52 gT) 65 4 (w 19 0)) 65 5 (w 19 1)) 65 6 (w 19 2))) rfl ?_
        rw [show w 66 23 = w 19 3 from hbl.2.2.2.1]
        refine mz_go 6 (c' := (52, [some (.ref 65)], [.int (w 66 24), .ref 65], mz_up (mz_up (mz_up (mz_up (mz_set (mz_set (mz_set w 19 rT) 51 fT) 52 gT) 65 4 (w 19 0)) 65 5 (w 19 1)) 65 6 (w 19 2)) 65 7 (w 19 3))) rfl ?_
        rw [show w 66 24 = w 19 4 from hbl.2.2.2.2]
        refine mz_go 1 (c' := (55, [some (.ref 65)], [], mz_up (mz_up (mz_up (mz_up (mz_up (mz_set (mz_set (mz_set w 19 rT) 51 fT) 52 gT) 65 4 (w 19 0)) 65 5 (w 19 1)) 65 6 (w 19 2)) 65 7 (w 19 3)) 65 8 (w 19 4))) rfl ?_
        exact mz_ret rfl
      refine mz_goP 2 (c' := (44, [some (.ref 65), some (.int (nI jxa)), some (.int 0)], [], mz_up (mz_up (mz_up (mz_up (mz_up (mz_set (mz_set (mz_set w 19 rT) 51 fT) 52 gT) 65 4 (w 19 0)) 65 5 (w 19 1)) 65 6 (w 19 2)) 65 7 (w 19 3)) 65 8 (w 19 4))) rfl ?_
      obtain ⟨rU, aU, bU, lU, kU, EU⟩ := ct_tksl (w := w) (w1 := mz_up (mz_up (mz_up (mz_up (mz_up (mz_set (mz_set (mz_set w 19 rT) 51 fT) 52 gT) 65 4 (w 19 0)) 65 5 (w 19 1)) 65 6 (w 19 2)) 65 7 (w 19 3)) 65 8 (w 19 4)) hw hr2 h6615 hr5 (K := jxa) (D := 59) (by omega) jxa 0 (by omega) ((mz_up (mz_up (mz_up (mz_up (mz_up (mz_set (mz_set (mz_set w 19 rT) 51 fT) 52 gT) 65 4 (w 19 0)) 65 5 (w 19 1)) 65 6 (w 19 2)) 65 7 (w 19 3)) 65 8 (w 19 4)) 65) ((mz_up (mz_up (mz_up (mz_up (mz_up (mz_set (mz_set (mz_set w 19 rT) 51 fT) 52 gT) 65 4 (w 19 0)) 65 5 (w 19 1)) 65 6 (w 19 2)) 65 7 (w 19 3)) 65 8 (w 19 4)) 70) ((mz_up (mz_up (mz_up (mz_up (mz_up (mz_set (mz_set (mz_set w 19 rT) 51 fT) 52 gT) 65 4 (w 19 0)) 65 5 (w 19 1)) 65 6 (w 19 2)) 65 7 (w 19 3)) 65 8 (w 19 4)) 71) (w 19) ⟨rfl, rfl, rfl, rfl, rfl⟩ hbx hby (fun _ _ => rfl)
      rw [sm_id, sm_id, sm_id] at EU
      refine mz_hkP EU ?_
      refine mz_goP 1 (c' := (64, [some (.ref 65), some (.int (nI jxa)), some (.int (nI jxa))], [.ref 65], mz_set (mz_set (mz_set (mz_up (mz_up (mz_up (mz_up (mz_up (mz_set (mz_set (mz_set w 19 rT) 51 fT) 52 gT) 65 4 (w 19 0)) 65 5 (w 19 1)) 65 6 (w 19 2)) 65 7 (w 19 3)) 65 8 (w 19 4)) 65 rU) 70 aU) 71 bU)) rfl ?_
      refine mz_doPQ (R := mz_r146) (as := [.ref 65]) (rest := []) (r1 := none) (m1 := mz_up (mz_up (mz_up (mz_up (mz_up (mz_set (mz_set (mz_set (mz_up (mz_up (mz_up (mz_up (mz_up (mz_set (mz_set (mz_set w 19 rT) 51 fT) 52 gT) 65 4 (w 19 0)) 65 5 (w 19 1)) 65 6 (w 19 2)) 65 7 (w 19 3)) 65 8 (w 19 4)) 65 rU) 70 aU) 71 bU) 66 20 (sm_tks w (w 7 5) jxa (w 19) 0)) 66 21 (sm_tks w (w 7 5) jxa (w 19) 1)) 66 22 (sm_tks w (w 7 5) jxa (w 19) 2)) 66 23 (sm_tks w (w 7 5) jxa (w 19) 3)) 66 24 (sm_tks w (w 7 5) jxa (w 19) 4)) mz_t146 mz_v146_65 rfl rfl rfl rfl rfl ⟨?_, rfl⟩ ?_
      · refine mz_go 5 (c' := (10, [some (.ref 65)], [.int (rU 4), .int 20, .ref 66], mz_set (mz_set (mz_set (mz_up (mz_up (mz_up (mz_up (mz_up (mz_set (mz_set (mz_set w 19 rT) 51 fT) 52 gT) 65 4 (w 19 0)) 65 5 (w 19 1)) 65 6 (w 19 2)) 65 7 (w 19 3)) 65 8 (w 19 4)) 65 rU) 70 aU) 71 bU)) rfl ?_
        rw [show rU 4 = sm_tks w (w 7 5) jxa (w 19) 0 from lU.1]
        refine mz_go 6 (c' := (21, [some (.ref 65)], [.int (rU 5), .int 21, .ref 66], mz_up (mz_set (mz_set (mz_set (mz_up (mz_up (mz_up (mz_up (mz_up (mz_set (mz_set (mz_set w 19 rT) 51 fT) 52 gT) 65 4 (w 19 0)) 65 5 (w 19 1)) 65 6 (w 19 2)) 65 7 (w 19 3)) 65 8 (w 19 4)) 65 rU) 70 aU) 71 bU) 66 20 (sm_tks w (w 7 5) jxa (w 19) 0))) rfl ?_
        rw [show rU 5 = sm_tks w (w 7 5) jxa (w 19) 1 from lU.2.1]
        refine mz_go 6 (c' := (32, [some (.ref 65)], [.int (rU 6), .int 22, .ref 66], mz_up (mz_up (mz_set (mz_set (mz_set (mz_up (mz_up (mz_up (mz_up (mz_up (mz_set (mz_set (mz_set w 19 rT) 51 fT) 52 gT) 65 4 (w 19 0)) 65 5 (w 19 1)) 65 6 (w 19 2)) 65 7 (w 19 3)) 65 8 (w 19 4)) 65 rU) 70 aU) 71 bU) 66 20 (sm_tks w (w 7 5) jxa (w 19) 0)) 66 21 (sm_tks w (w 7 5) jxa (w 19) 1))) rfl ?_
        rw [show rU 6 = sm_tks w (w 7 5) jxa (w 19) 2 from lU.2.2.1]
        refine mz_go 6 (c' := (43, [some (.ref 65)], [.int (rU 7), .int 23, .ref 66], mz_up (mz_up (mz_up (mz_set (mz_set (mz_set (mz_up (mz_up (mz_up (mz_up (mz_up (mz_set (mz_set (mz_set w 19 rT) 51 fT) 52 gT) 65 4 (w 19 0)) 65 5 (w 19 1)) 65 6 (w 19 2)) 65 7 (w 19 3)) 65 8 (w 19 4)) 65 rU) 70 aU) 71 bU) 66 20 (sm_tks w (w 7 5) jxa (w 19) 0)) 66 21 (sm_tks w (w 7 5) jxa (w 19) 1)) 66 22 (sm_tks w (w 7 5) jxa (w 19) 2))) rfl ?_
        rw [show rU 7 = sm_tks w (w 7 5) jxa (w 19) 3 from lU.2.2.2.1]
        refine mz_go 6 (c' := (54, [some (.ref 65)], [.int (rU 8), .int 24, .ref 66], mz_up (mz_up (mz_up (mz_up (mz_set (mz_set (mz_set (mz_up (mz_up (mz_up (mz_up (mz_up (mz_set (mz_set (mz_set w 19 rT) 51 fT) 52 gT) 65 4 (w 19 0)) 65 5 (w 19 1)) 65 6 (w 19 2)) 65 7 (w 19 3)) 65 8 (w 19 4)) 65 rU) 70 aU) 71 bU) 66 20 (sm_tks w (w 7 5) jxa (w 19) 0)) 66 21 (sm_tks w (w 7 5) jxa (w 19) 1)) 66 22 (sm_tks w (w 7 5) jxa (w 19) 2)) 66 23 (sm_tks w (w 7 5) jxa (w 19) 3))) rfl ?_
        rw [show rU 8 = sm_tks w (w 7 5) jxa (w 19) 4 from lU.2.2.2.2]
        refine mz_go 1 (c' := (55, [some (.ref 65)], [], mz_up (mz_up (mz_up (mz_up (mz_up (mz_set (mz_set (mz_set (mz_up (mz_up (mz_up (mz_up (mz_up (mz_set (mz_set (mz_set w 19 rT) 51 fT) 52 gT) 65 4 (w 19 0)) 65 5 (w 19 1)) 65 6 (w 19 2)) 65 7 (w 19 3)) 65 8 (w 19 4)) 65 rU) 70 aU) 71 bU) 66 20 (sm_tks w (w 7 5) jxa (w 19) 0)) 66 21 (sm_tks w (w 7 5) jxa (w 19) 1)) 66 22 (sm_tks w (w 7 5) jxa (w 19) 2)) 66 23 (sm_tks w (w 7 5) jxa (w 19) 3)) 66 24 (sm_tks w (w 7 5) jxa (w 19) 4))) rfl ?_
        exact mz_ret rfl
      refine mz_goP 2 (c' := (71, [some (.ref 65), some (.int (nI jxa)), some (.int (nI jxa))], [.int (rU 8)], mz_up (mz_up (mz_up (mz_up (mz_up (mz_set (mz_set (mz_set (mz_up (mz_up (mz_up (mz_up (mz_up (mz_set (mz_set (mz_set w 19 rT) 51 fT) 52 gT) 65 4 (w 19 0)) 65 5 (w 19 1)) 65 6 (w 19 2)) 65 7 (w 19 3)) 65 8 (w 19 4)) 65 rU) 70 aU) 71 bU) 66 20 (sm_tks w (w 7 5) jxa (w 19) 0)) 66 21 (sm_tks w (w 7 5) jxa (w 19) 1)) 66 22 (sm_tks w (w 7 5) jxa (w 19) 2)) 66 23 (sm_tks w (w 7 5) jxa (w 19) 3)) 66 24 (sm_tks w (w 7 5) jxa (w 19) 4))) rfl ?_
      rw [show rU 8 = sm_tks w (w 7 5) jxa (w 19) 4 from lU.2.2.2.2]
      refine mz_retP (r := (some (.int (sm_tks w (w 7 5) jxa (w 19) 4)), mz_up (mz_up (mz_up (mz_up (mz_up (mz_set (mz_set (mz_set (mz_up (mz_up (mz_up (mz_up (mz_up (mz_set (mz_set (mz_set w 19 rT) 51 fT) 52 gT) 65 4 (w 19 0)) 65 5 (w 19 1)) 65 6 (w 19 2)) 65 7 (w 19 3)) 65 8 (w 19 4)) 65 rU) 70 aU) 71 bU) 66 20 (sm_tks w (w 7 5) jxa (w 19) 0)) 66 21 (sm_tks w (w 7 5) jxa (w 19) 1)) 66 22 (sm_tks w (w 7 5) jxa (w 19) 2)) 66 23 (sm_tks w (w 7 5) jxa (w 19) 3)) 66 24 (sm_tks w (w 7 5) jxa (w 19) 4))) rfl ⟨sm_tks w (w 7 5) jxa (w 19) 4, rfl, ?_, rfl⟩
      show sm_I (n + 1) (mz_up (mz_up (mz_up (mz_up (mz_up (mz_set (mz_set (mz_set (mz_up (mz_up (mz_up (mz_up (mz_up (mz_set (mz_set (mz_set w 19 rT) 51 fT) 52 gT) 65 4 (w 19 0)) 65 5 (w 19 1)) 65 6 (w 19 2)) 65 7 (w 19 3)) 65 8 (w 19 4)) 65 rU) 70 aU) 71 bU) 66 20 (sm_tks w (w 7 5) jxa (w 19) 0)) 66 21 (sm_tks w (w 7 5) jxa (w 19) 1)) 66 22 (sm_tks w (w 7 5) jxa (w 19) 2)) 66 23 (sm_tks w (w 7 5) jxa (w 19) 3)) 66 24 (sm_tks w (w 7 5) jxa (w 19) 4))
      obtain ⟨-, ⟨d1, d2, d3, ⟨d4, d4b, d4c⟩, d5, d6, d7, d8⟩, da, db, dc⟩ := hI2
      have hs : ∀ i, i ≠ 20 → i ≠ 21 → i ≠ 22 → i ≠ 23 → i ≠ 24 → (mz_up (mz_up (mz_up (mz_up (mz_up (mz_set (mz_set (mz_set (mz_up (mz_up (mz_up (mz_up (mz_up (mz_set (mz_set (mz_set w 19 rT) 51 fT) 52 gT) 65 4 (w 19 0)) 65 5 (w 19 1)) 65 6 (w 19 2)) 65 7 (w 19 3)) 65 8 (w 19 4)) 65 rU) 70 aU) 71 bU) 66 20 (sm_tks w (w 7 5) jxa (w 19) 0)) 66 21 (sm_tks w (w 7 5) jxa (w 19) 1)) 66 22 (sm_tks w (w 7 5) jxa (w 19) 2)) 66 23 (sm_tks w (w 7 5) jxa (w 19) 3)) 66 24 (sm_tks w (w 7 5) jxa (w 19) 4)) 66 i = w 66 i := fun i p0 p1 p2 p3 p4 => by rw [mz_up_eq, if_neg (by omega), mz_up_eq, if_neg (by omega), mz_up_eq, if_neg (by omega), mz_up_eq, if_neg (by omega), mz_up_eq, if_neg (by omega), mz_set_ne (show (66 : Nat) ≠ 71 by decide), mz_set_ne (show (66 : Nat) ≠ 70 by decide), mz_set_ne (show (66 : Nat) ≠ 65 by decide), mz_up_ne (show (66 : Nat) ≠ 65 by decide), mz_up_ne (show (66 : Nat) ≠ 65 by decide), mz_up_ne (show (66 : Nat) ≠ 65 by decide), mz_up_ne (show (66 : Nat) ≠ 65 by decide), mz_up_ne (show (66 : Nat) ≠ 65 by decide), mz_set_ne (show (66 : Nat) ≠ 52 by decide), mz_set_ne (show (66 : Nat) ≠ 51 by decide), mz_set_ne (show (66 : Nat) ≠ 19 by decide)]
      exact ⟨hn, ⟨sm_k1 (hs 0 (by omega) (by omega) (by omega) (by omega) (by omega)) (fun i h1 h2 => hs i (by omega) (by omega) (by omega) (by omega) (by omega)) d1, sm_k2 (fun i h1 h2 => hs i (by omega) (by omega) (by omega) (by omega) (by omega)) d2, sm_k3 (hs 1 (by omega) (by omega) (by omega) (by omega) (by omega)) (fun i h1 h2 => hs i (by omega) (by omega) (by omega) (by omega) (by omega)) d3, ⟨sm_k4 (fun i h1 h2 => hs i (by omega) (by omega) (by omega) (by omega) (by omega)) d4, sm_k4 (fun i h1 h2 => hs i (by omega) (by omega) (by omega) (by omega) (by omega)) d4b, sm_k4 (fun i h1 h2 => hs i (by omega) (by omega) (by omega) (by omega) (by omega)) d4c⟩, ⟨bT.1, bT.2, ⟨lT.1.symm, lT.2.1.symm, lT.2.2.1.symm, lT.2.2.2.1.symm, lT.2.2.2.2.symm⟩⟩, sm_k6 (fun i h1 h2 => hs i (by omega) (by omega) (by omega) (by omega) (by omega)) d6, sm_k7 (fun i h1 h2 => hs i (by omega) (by omega) (by omega) (by omega) (by omega)) d7, sm_k8 (hs 2 (by omega) (by omega) (by omega) (by omega) (by omega)) (hs 3 (by omega) (by omega) (by omega) (by omega) (by omega)) (fun i h1 h2 => hs i (by omega) (by omega) (by omega) (by omega) (by omega)) d8⟩, da, (by rw [show (mz_up (mz_up (mz_up (mz_up (mz_up (mz_set (mz_set (mz_set (mz_up (mz_up (mz_up (mz_up (mz_up (mz_set (mz_set (mz_set w 19 rT) 51 fT) 52 gT) 65 4 (w 19 0)) 65 5 (w 19 1)) 65 6 (w 19 2)) 65 7 (w 19 3)) 65 8 (w 19 4)) 65 rU) 70 aU) 71 bU) 66 20 (sm_tks w (w 7 5) jxa (w 19) 0)) 66 21 (sm_tks w (w 7 5) jxa (w 19) 1)) 66 22 (sm_tks w (w 7 5) jxa (w 19) 2)) 66 23 (sm_tks w (w 7 5) jxa (w 19) 3)) 66 24 (sm_tks w (w 7 5) jxa (w 19) 4)) 65 19 = w 65 19 from ((kU 19 (by omega)).trans rfl)]; exact db), (by rw [show (mz_up (mz_up (mz_up (mz_up (mz_up (mz_set (mz_set (mz_set (mz_up (mz_up (mz_up (mz_up (mz_up (mz_set (mz_set (mz_set w 19 rT) 51 fT) 52 gT) 65 4 (w 19 0)) 65 5 (w 19 1)) 65 6 (w 19 2)) 65 7 (w 19 3)) 65 8 (w 19 4)) 65 rU) 70 aU) 71 bU) 66 20 (sm_tks w (w 7 5) jxa (w 19) 0)) 66 21 (sm_tks w (w 7 5) jxa (w 19) 1)) 66 22 (sm_tks w (w 7 5) jxa (w 19) 2)) 66 23 (sm_tks w (w 7 5) jxa (w 19) 3)) 66 24 (sm_tks w (w 7 5) jxa (w 19) 4)) 65 2 = w 65 2 from ((kU 2 (by omega)).trans rfl)]; exact sm_cc_of (fun i h1 h2 => by simp only [mz_set_ne (show i ≠ 19 by omega), mz_set_ne (show i ≠ 51 by omega), mz_set_ne (show i ≠ 52 by omega), mz_set_ne (show i ≠ 65 by omega), mz_set_ne (show i ≠ 70 by omega), mz_set_ne (show i ≠ 71 by omega), mz_up_ne (show i ≠ 65 by omega), mz_up_ne (show i ≠ 66 by omega)]) dc)⟩
    · refine mz_goP 3 (c' := (5, [some (.ref 0), some (.int xa), none], [.int 200, .int 1, .int xa], w)) rfl ?_
      refine mz_doPQ (R := mz_r121) (as := [.int xa, .int 1, .int 200]) (rest := []) (r1 := some (.int 1)) (m1 := w) mz_t121 mz_v121 rfl rfl rfl rfl rfl ((cs_in1 (m := w) (v := xa) (a := 1) (b := 200) (show ¬ (xa < 1) from (sm_in_lo q1)) (show ¬ (200 < xa) from (sm_in_hi q1))).deep (by decide)) ?_
      refine mz_goP 9 (c' := (if ((w 19 4) + xa) ≤ 9999 then 41 else 35, [some (.ref 0), some (.int xa), none], [], w)) rfl ?_
      refine mz_ifFP q2 ?_
      refine mz_goP 2 (c' := (37, [some (.ref 0), some (.int xa), none], [.int 3, .ref 0], w)) rfl ?_
      refine mz_doPQ (R := mz_r109) (as := [.ref 0, .int 3]) (rest := []) (r1 := some (.int (-1000003))) (m1 := mz_up w 64 3 ((w 64 3) + 1)) mz_t109 mz_v109_0 rfl rfl rfl rfl rfl ((cs_err3 (m := w)).deep (by decide)) ?_
      refine mz_retP (r := (some (.int ((-1000003))), mz_up w 64 3 ((w 64 3) + 1))) rfl ⟨(-1000003), rfl, ?_⟩
      refine mz_goP 3 (c' := (5, [some (.ref 65), some (.int xa), none], [.int 200, .int 1, .int xa], mz_up w 64 3 ((w 64 3) + 1))) rfl ?_
      refine mz_doPQ (R := mz_r128) (as := [.int xa, .int 1, .int 200]) (rest := []) (r1 := some (.int 1)) (m1 := mz_up w 64 3 ((w 64 3) + 1)) mz_t128 mz_v128 rfl rfl rfl rfl rfl ((ct_in1 (m := mz_up w 64 3 ((w 64 3) + 1)) (v := xa) (a := 1) (b := 200) (show ¬ (xa < 1) from (sm_in_lo q1)) (show ¬ (200 < xa) from (sm_in_hi q1))).deep (by decide)) ?_
      refine mz_goP 5 (c' := (24, [some (.ref 65), some (.int xa), none], [.int (w 66 24)], mz_up w 64 3 ((w 64 3) + 1))) rfl ?_
      rw [show w 66 24 = w 19 4 from hbl.2.2.2.2]
      refine mz_goP 4 (c' := (if ((w 19 4) + xa) ≤ 9999 then 38 else 32, [some (.ref 65), some (.int xa), none], [], mz_up w 64 3 ((w 64 3) + 1))) rfl ?_
      refine mz_ifFP q2 ?_
      refine mz_goP 2 (c' := (34, [some (.ref 65), some (.int xa), none], [.int 3, .ref 65], mz_up w 64 3 ((w 64 3) + 1))) rfl ?_
      refine mz_doPQ (R := mz_r127) (as := [.ref 65, .int 3]) (rest := []) (r1 := some (.int (-1000003))) (m1 := mz_up (mz_up w 64 3 ((w 64 3) + 1)) 68 3 ((w 68 3) + 1)) mz_t127 mz_v127_65 rfl rfl rfl rfl rfl ((ct_err3 (m := mz_up w 64 3 ((w 64 3) + 1))).deep (by decide)) ?_
      refine mz_retP (r := (some (.int ((-1000003))), mz_up (mz_up w 64 3 ((w 64 3) + 1)) 68 3 ((w 68 3) + 1))) rfl ⟨(-1000003), rfl, ?_, rfl⟩
      show sm_I (n + 1) (mz_up (mz_up w 64 3 ((w 64 3) + 1)) 68 3 ((w 68 3) + 1))
      exact sm_I_scr hn hI2 (fun i hi => by
        have hne : ∀ r, sm_scr r = true → i ≠ r := fun r hr e => by
          rw [e, hr] at hi
          cases hi
        simp only [mz_up_ne (hne 64 rfl), mz_up_ne (hne 68 rfl)]) rfl rfl
set_option maxHeartbeats 4000000 in
set_option maxRecDepth 100000 in
theorem sc_magnet {n : Nat} (hn : n < 64) {w : mz_M} (hI : sm_I n w) (xa : Int32) (xb : Int32) (xc : Int32) (xd : Int32) : ∃ v1 v2 m1 m2, mz_Me 100 mz_r67 [.ref 0, .int xa, .int xb, .int xc, .int xd] w (some (.int v1)) m1 ∧ mz_Me 100 mz_r137 [.ref 65, .int xa, .int xb, .int xc, .int xd] m1 (some (.int v2)) m2 ∧ sm_I (n + 1) m2 ∧ v1 = v2 := by
  have hI2 := hI
  obtain ⟨hn0, ⟨-, ⟨hr80, hr5, hrr⟩, ⟨⟨TT, hTT, h81, h661⟩, htp⟩, ⟨⟨T0, hT0, hU0, hV0, -⟩, ⟨T1, hT1, hU1, hV1, -⟩, ⟨T2, hT2, hU2, hV2, -⟩⟩, ⟨hbx, hby, hbl⟩, ⟨⟨WW, HH, hWW, hHH, hWH, h202, h203, h6660, h6661⟩, h6662, h6663, h6664, hpc⟩, ⟨hth, h66160, hthr⟩, ⟨⟨AA, hAA, h111, h662⟩, h663, hwt⟩⟩, ⟨hsh, hsn⟩, ⟨hcb1, hcb2⟩, ⟨JJ, hJJ, h07, h652, hkept⟩⟩ := hI
  obtain ⟨N, hw, hr2, h660, -, -, h6615⟩ := sm_world hI2
  have hw2 := hw
  obtain ⟨hN, h4, hpb, -, -⟩ := hw2
  have hT60a := sm_T60 hV0
  have hT60b := sm_T60 hV1
  have hT60c := sm_T60 hV2
  obtain ⟨B1, hB1, e571⟩ := sm_Nof (by decide) hcb1
  obtain ⟨B2, hB2, e6519⟩ := sm_Nof (by decide) hcb2
  refine mz_two (fun _ => rfl) (fun _ => rfl) ?_
  refine mz_goP 4 (c' := (5, [some (.ref 0), some (.int xa), some (.int xb), some (.int xc), some (.int xd)], [.int xd, .int xc, .int xb, .int xa], w)) rfl ?_
  by_cases q1 : (sm_bI (sm_in xa 0 6)) = 0
  · refine mz_doPQ (R := mz_r113) (as := [.int xa, .int xb, .int xc, .int xd]) (rest := []) (r1 := some (.int 0)) (m1 := w) mz_t113 mz_v113 rfl rfl rfl rfl rfl ⟨?_, rfl⟩ ?_
    · refine mz_go 1 (c' := (1, [some (.int xa), some (.int xb), some (.int xc), some (.int xd)], [.int xa], w)) rfl ?_
      refine mz_doQ (R := mz_r114) (as := [.int xa]) (rest := []) (r1 := some (.int (sm_bI (sm_in xa 0 6)))) (m1 := w) mz_t114 mz_v114 rfl rfl rfl rfl rfl ⟨?_, sm_fitB _⟩ ?_
      · refine mz_go 3 (c' := (4, [some (.int xa)], [.int 6, .int 0, .int xa], w)) rfl ?_
        refine mz_doQ (R := mz_r121) (as := [.int xa, .int 0, .int 6]) (rest := []) (r1 := some (.int (sm_bI (sm_in xa 0 6)))) (m1 := w) mz_t121 mz_v121 rfl rfl rfl rfl rfl ((cs_in (m := w) xa 0 6).deep (by decide)) ?_
        exact mz_ret rfl
      refine mz_go 1 (c' := (if (sm_bI (sm_in xa 0 6)) = 0 then 29 else 7, [some (.int xa), some (.int xb), some (.int xc), some (.int xd)], [], w)) rfl ?_
      refine mz_ifT q1 ?_
      refine mz_go 1 (c' := (30, [some (.int xa), some (.int xb), some (.int xc), some (.int xd)], [.int 0], w)) rfl ?_
      exact mz_ret rfl
    refine mz_goP 3 (c' := (13, [some (.ref 0), some (.int xa), some (.int xb), some (.int xc), some (.int xd)], [.int 1, .ref 0], w)) rfl ?_
    refine mz_doPQ (R := mz_r109) (as := [.ref 0, .int 1]) (rest := []) (r1 := some (.int (-1000001))) (m1 := mz_up w 64 1 ((w 64 1) + 1)) mz_t109 mz_v109_0 rfl rfl rfl rfl rfl ((cs_err1 (m := w)).deep (by decide)) ?_
    refine mz_retP (r := (some (.int ((-1000001))), mz_up w 64 1 ((w 64 1) + 1))) rfl ⟨(-1000001), rfl, ?_⟩
    refine mz_goP 4 (c' := (5, [some (.ref 65), some (.int xa), some (.int xb), some (.int xc), some (.int xd)], [.int xd, .int xc, .int xb, .int xa], mz_up w 64 1 ((w 64 1) + 1))) rfl ?_
    refine mz_doPQ (R := mz_r135) (as := [.int xa, .int xb, .int xc, .int xd]) (rest := []) (r1 := some (.int 0)) (m1 := mz_up w 64 1 ((w 64 1) + 1)) mz_t135 mz_v135 rfl rfl rfl rfl rfl ⟨?_, rfl⟩ ?_
    · refine mz_go 3 (c' := (4, [some (.int xa), some (.int xb), some (.int xc), some (.int xd)], [.int 6, .int 0, .int xa], mz_up w 64 1 ((w 64 1) + 1))) rfl ?_
      refine mz_doQ (R := mz_r128) (as := [.int xa, .int 0, .int 6]) (rest := []) (r1 := some (.int (sm_bI (sm_in xa 0 6)))) (m1 := mz_up w 64 1 ((w 64 1) + 1)) mz_t128 mz_v128 rfl rfl rfl rfl rfl ((ct_in (m := mz_up w 64 1 ((w 64 1) + 1)) xa 0 6).deep (by decide)) ?_
      refine mz_go 1 (c' := (if (sm_bI (sm_in xa 0 6)) = 0 then 32 else 10, [some (.int xa), some (.int xb), some (.int xc), some (.int xd)], [], mz_up w 64 1 ((w 64 1) + 1))) rfl ?_
      refine mz_ifT q1 ?_
      refine mz_go 1 (c' := (33, [some (.int xa), some (.int xb), some (.int xc), some (.int xd)], [.int 0], mz_up w 64 1 ((w 64 1) + 1))) rfl ?_
      exact mz_ret rfl
    refine mz_goP 3 (c' := (13, [some (.ref 65), some (.int xa), some (.int xb), some (.int xc), some (.int xd)], [.int 1, .ref 65], mz_up w 64 1 ((w 64 1) + 1))) rfl ?_
    refine mz_doPQ (R := mz_r127) (as := [.ref 65, .int 1]) (rest := []) (r1 := some (.int (-1000001))) (m1 := mz_up (mz_up w 64 1 ((w 64 1) + 1)) 68 1 ((w 68 1) + 1)) mz_t127 mz_v127_65 rfl rfl rfl rfl rfl ((ct_err1 (m := mz_up w 64 1 ((w 64 1) + 1))).deep (by decide)) ?_
    refine mz_retP (r := (some (.int ((-1000001))), mz_up (mz_up w 64 1 ((w 64 1) + 1)) 68 1 ((w 68 1) + 1))) rfl ⟨(-1000001), rfl, ?_, rfl⟩
    show sm_I (n + 1) (mz_up (mz_up w 64 1 ((w 64 1) + 1)) 68 1 ((w 68 1) + 1))
    exact sm_I_scr hn hI2 (fun i hi => by
      have hne : ∀ r, sm_scr r = true → i ≠ r := fun r hr e => by
        rw [e, hr] at hi
        cases hi
      simp only [mz_up_ne (hne 64 rfl), mz_up_ne (hne 68 rfl)]) rfl rfl
  · by_cases q2 : (sm_bI (sm_plc xb xc)) = 0
    · refine mz_doPQ (R := mz_r113) (as := [.int xa, .int xb, .int xc, .int xd]) (rest := []) (r1 := some (.int 0)) (m1 := w) mz_t113 mz_v113 rfl rfl rfl rfl rfl ⟨?_, rfl⟩ ?_
      · refine mz_go 1 (c' := (1, [some (.int xa), some (.int xb), some (.int xc), some (.int xd)], [.int xa], w)) rfl ?_
        refine mz_doQ (R := mz_r114) (as := [.int xa]) (rest := []) (r1 := some (.int 1)) (m1 := w) mz_t114 mz_v114 rfl rfl rfl rfl rfl ⟨?_, rfl⟩ ?_
        · refine mz_go 3 (c' := (4, [some (.int xa)], [.int 6, .int 0, .int xa], w)) rfl ?_
          refine mz_doQ (R := mz_r121) (as := [.int xa, .int 0, .int 6]) (rest := []) (r1 := some (.int 1)) (m1 := w) mz_t121 mz_v121 rfl rfl rfl rfl rfl ((cs_in1 (m := w) (v := xa) (a := 0) (b := 6) (show ¬ (xa < 0) from (sm_in_lo q1)) (show ¬ (6 < xa) from (sm_in_hi q1))).deep (by decide)) ?_
          exact mz_ret rfl
        refine mz_go 3 (c' := (9, [some (.int xa), some (.int xb), some (.int xc), some (.int xd)], [.int xc, .int xb], w)) rfl ?_
        refine mz_doQ (R := mz_r116) (as := [.int xb, .int xc]) (rest := []) (r1 := some (.int (sm_bI (sm_plc xb xc)))) (m1 := w) mz_t116 mz_v116 rfl rfl rfl rfl rfl ((cs_plc (m := w) xb xc).deep (by decide)) ?_
        refine mz_go 1 (c' := (if (sm_bI (sm_plc xb xc)) = 0 then 29 else 15, [some (.int xa), some (.int xb), some (.int xc), some (.int xd)], [], w)) rfl ?_
        refine mz_ifT q2 ?_
        refine mz_go 1 (c' := (30, [some (.int xa), some (.int xb), some (.int xc), some (.int xd)], [.int 0], w)) rfl ?_
        exact mz_ret rfl
      refine mz_goP 3 (c' := (13, [some (.ref 0), some (.int xa), some (.int xb), some (.int xc), some (.int xd)], [.int 1, .ref 0], w)) rfl ?_
      refine mz_doPQ (R := mz_r109) (as := [.ref 0, .int 1]) (rest := []) (r1 := some (.int (-1000001))) (m1 := mz_up w 64 1 ((w 64 1) + 1)) mz_t109 mz_v109_0 rfl rfl rfl rfl rfl ((cs_err1 (m := w)).deep (by decide)) ?_
      refine mz_retP (r := (some (.int ((-1000001))), mz_up w 64 1 ((w 64 1) + 1))) rfl ⟨(-1000001), rfl, ?_⟩
      refine mz_goP 4 (c' := (5, [some (.ref 65), some (.int xa), some (.int xb), some (.int xc), some (.int xd)], [.int xd, .int xc, .int xb, .int xa], mz_up w 64 1 ((w 64 1) + 1))) rfl ?_
      refine mz_doPQ (R := mz_r135) (as := [.int xa, .int xb, .int xc, .int xd]) (rest := []) (r1 := some (.int 0)) (m1 := mz_up w 64 1 ((w 64 1) + 1)) mz_t135 mz_v135 rfl rfl rfl rfl rfl ⟨?_, rfl⟩ ?_
      · refine mz_go 3 (c' := (4, [some (.int xa), some (.int xb), some (.int xc), some (.int xd)], [.int 6, .int 0, .int xa], mz_up w 64 1 ((w 64 1) + 1))) rfl ?_
        refine mz_doQ (R := mz_r128) (as := [.int xa, .int 0, .int 6]) (rest := []) (r1 := some (.int 1)) (m1 := mz_up w 64 1 ((w 64 1) + 1)) mz_t128 mz_v128 rfl rfl rfl rfl rfl ((ct_in1 (m := mz_up w 64 1 ((w 64 1) + 1)) (v := xa) (a := 0) (b := 6) (show ¬ (xa < 0) from (sm_in_lo q1)) (show ¬ (6 < xa) from (sm_in_hi q1))).deep (by decide)) ?_
        refine mz_go 3 (c' := (12, [some (.int xa), some (.int xb), some (.int xc), some (.int xd)], [.int xc, .int xb], mz_up w 64 1 ((w 64 1) + 1))) rfl ?_
        refine mz_doQ (R := mz_r131) (as := [.int xb, .int xc]) (rest := []) (r1 := some (.int (sm_bI (sm_plc xb xc)))) (m1 := mz_up w 64 1 ((w 64 1) + 1)) mz_t131 mz_v131 rfl rfl rfl rfl rfl ((ct_plc (m := mz_up w 64 1 ((w 64 1) + 1)) xb xc).deep (by decide)) ?_
        refine mz_go 1 (c' := (if (sm_bI (sm_plc xb xc)) = 0 then 32 else 18, [some (.int xa), some (.int xb), some (.int xc), some (.int xd)], [], mz_up w 64 1 ((w 64 1) + 1))) rfl ?_
        refine mz_ifT q2 ?_
        refine mz_go 1 (c' := (33, [some (.int xa), some (.int xb), some (.int xc), some (.int xd)], [.int 0], mz_up w 64 1 ((w 64 1) + 1))) rfl ?_
        exact mz_ret rfl
      refine mz_goP 3 (c' := (13, [some (.ref 65), some (.int xa), some (.int xb), some (.int xc), some (.int xd)], [.int 1, .ref 65], mz_up w 64 1 ((w 64 1) + 1))) rfl ?_
      refine mz_doPQ (R := mz_r127) (as := [.ref 65, .int 1]) (rest := []) (r1 := some (.int (-1000001))) (m1 := mz_up (mz_up w 64 1 ((w 64 1) + 1)) 68 1 ((w 68 1) + 1)) mz_t127 mz_v127_65 rfl rfl rfl rfl rfl ((ct_err1 (m := mz_up w 64 1 ((w 64 1) + 1))).deep (by decide)) ?_
      refine mz_retP (r := (some (.int ((-1000001))), mz_up (mz_up w 64 1 ((w 64 1) + 1)) 68 1 ((w 68 1) + 1))) rfl ⟨(-1000001), rfl, ?_, rfl⟩
      show sm_I (n + 1) (mz_up (mz_up w 64 1 ((w 64 1) + 1)) 68 1 ((w 68 1) + 1))
      exact sm_I_scr hn hI2 (fun i hi => by
        have hne : ∀ r, sm_scr r = true → i ≠ r := fun r hr e => by
          rw [e, hr] at hi
          cases hi
        simp only [mz_up_ne (hne 64 rfl), mz_up_ne (hne 68 rfl)]) rfl rfl
    · by_cases q3 : (sm_bI (sm_in xd 0 99)) = 0
      · refine mz_doPQ (R := mz_r113) (as := [.int xa, .int xb, .int xc, .int xd]) (rest := []) (r1 := some (.int 0)) (m1 := w) mz_t113 mz_v113 rfl rfl rfl rfl rfl ⟨?_, rfl⟩ ?_
        · refine mz_go 1 (c' := (1, [some (.int xa), some (.int xb), some (.int xc), some (.int xd)], [.int xa], w)) rfl ?_
          refine mz_doQ (R := mz_r114) (as := [.int xa]) (rest := []) (r1 := some (.int 1)) (m1 := w) mz_t114 mz_v114 rfl rfl rfl rfl rfl ⟨?_, rfl⟩ ?_
          · refine mz_go 3 (c' := (4, [some (.int xa)], [.int 6, .int 0, .int xa], w)) rfl ?_
            refine mz_doQ (R := mz_r121) (as := [.int xa, .int 0, .int 6]) (rest := []) (r1 := some (.int 1)) (m1 := w) mz_t121 mz_v121 rfl rfl rfl rfl rfl ((cs_in1 (m := w) (v := xa) (a := 0) (b := 6) (show ¬ (xa < 0) from (sm_in_lo q1)) (show ¬ (6 < xa) from (sm_in_hi q1))).deep (by decide)) ?_
            exact mz_ret rfl
          refine mz_go 3 (c' := (9, [some (.int xa), some (.int xb), some (.int xc), some (.int xd)], [.int xc, .int xb], w)) rfl ?_
          refine mz_doQ (R := mz_r116) (as := [.int xb, .int xc]) (rest := []) (r1 := some (.int 1)) (m1 := w) mz_t116 mz_v116 rfl rfl rfl rfl rfl ⟨?_, rfl⟩ ?_
          · refine mz_go 3 (c' := (5, [some (.int xb), some (.int xc)], [.int 100, .int (-100), .int xb], w)) rfl ?_
            refine mz_doQ (R := mz_r121) (as := [.int xb, .int (-100), .int 100]) (rest := []) (r1 := some (.int 1)) (m1 := w) mz_t121 mz_v121 rfl rfl rfl rfl rfl ((cs_in1 (m := w) (v := xb) (a := (-100)) (b := 100) (show ¬ (xb < (-100)) from (sm_plc_of q2).1.1) (show ¬ (100 < xb) from (sm_plc_of q2).1.2)).deep (by decide)) ?_
            refine mz_go 4 (c' := (16, [some (.int xb), some (.int xc)], [.int 100, .int (-100), .int xc], w)) rfl ?_
            refine mz_doQ (R := mz_r121) (as := [.int xc, .int (-100), .int 100]) (rest := []) (r1 := some (.int 1)) (m1 := w) mz_t121 mz_v121 rfl rfl rfl rfl rfl ((cs_in1 (m := w) (v := xc) (a := (-100)) (b := 100) (show ¬ (xc < (-100)) from (sm_plc_of q2).2.1) (show ¬ (100 < xc) from (sm_plc_of q2).2.2)).deep (by decide)) ?_
            refine mz_go 3 (c' := (27, [some (.int xb), some (.int xc)], [.int 1], w)) rfl ?_
            exact mz_ret rfl
          refine mz_go 4 (c' := (19, [some (.int xa), some (.int xb), some (.int xc), some (.int xd)], [.int 99, .int 0, .int xd], w)) rfl ?_
          refine mz_doQ (R := mz_r121) (as := [.int xd, .int 0, .int 99]) (rest := []) (r1 := some (.int (sm_bI (sm_in xd 0 99)))) (m1 := w) mz_t121 mz_v121 rfl rfl rfl rfl rfl ((cs_in (m := w) xd 0 99).deep (by decide)) ?_
          refine mz_go 1 (c' := (if (sm_bI (sm_in xd 0 99)) = 0 then 29 else 25, [some (.int xa), some (.int xb), some (.int xc), some (.int xd)], [], w)) rfl ?_
          refine mz_ifT q3 ?_
          refine mz_go 1 (c' := (30, [some (.int xa), some (.int xb), some (.int xc), some (.int xd)], [.int 0], w)) rfl ?_
          exact mz_ret rfl
        refine mz_goP 3 (c' := (13, [some (.ref 0), some (.int xa), some (.int xb), some (.int xc), some (.int xd)], [.int 1, .ref 0], w)) rfl ?_
        refine mz_doPQ (R := mz_r109) (as := [.ref 0, .int 1]) (rest := []) (r1 := some (.int (-1000001))) (m1 := mz_up w 64 1 ((w 64 1) + 1)) mz_t109 mz_v109_0 rfl rfl rfl rfl rfl ((cs_err1 (m := w)).deep (by decide)) ?_
        refine mz_retP (r := (some (.int ((-1000001))), mz_up w 64 1 ((w 64 1) + 1))) rfl ⟨(-1000001), rfl, ?_⟩
        refine mz_goP 4 (c' := (5, [some (.ref 65), some (.int xa), some (.int xb), some (.int xc), some (.int xd)], [.int xd, .int xc, .int xb, .int xa], mz_up w 64 1 ((w 64 1) + 1))) rfl ?_
        refine mz_doPQ (R := mz_r135) (as := [.int xa, .int xb, .int xc, .int xd]) (rest := []) (r1 := some (.int 0)) (m1 := mz_up w 64 1 ((w 64 1) + 1)) mz_t135 mz_v135 rfl rfl rfl rfl rfl ⟨?_, rfl⟩ ?_
        · refine mz_go 3 (c' := (4, [some (.int xa), some (.int xb), some (.int xc), some (.int xd)], [.int 6, .int 0, .int xa], mz_up w 64 1 ((w 64 1) + 1))) rfl ?_
          refine mz_doQ (R := mz_r128) (as := [.int xa, .int 0, .int 6]) (rest := []) (r1 := some (.int 1)) (m1 := mz_up w 64 1 ((w 64 1) + 1)) mz_t128 mz_v128 rfl rfl rfl rfl rfl ((ct_in1 (m := mz_up w 64 1 ((w 64 1) + 1)) (v := xa) (a := 0) (b := 6) (show ¬ (xa < 0) from (sm_in_lo q1)) (show ¬ (6 < xa) from (sm_in_hi q1))).deep (by decide)) ?_
          refine mz_go 3 (c' := (12, [some (.int xa), some (.int xb), some (.int xc), some (.int xd)], [.int xc, .int xb], mz_up w 64 1 ((w 64 1) + 1))) rfl ?_
          refine mz_doQ (R := mz_r131) (as := [.int xb, .int xc]) (rest := []) (r1 := some (.int 1)) (m1 := mz_up w 64 1 ((w 64 1) + 1)) mz_t131 mz_v131 rfl rfl rfl rfl rfl ⟨?_, rfl⟩ ?_
          · refine mz_go 3 (c' := (5, [some (.int xb), some (.int xc)], [.int 100, .int (-100), .int xb], mz_up w 64 1 ((w 64 1) + 1))) rfl ?_
            refine mz_doQ (R := mz_r128) (as := [.int xb, .int (-100), .int 100]) (rest := []) (r1 := some (.int 1)) (m1 := mz_up w 64 1 ((w 64 1) + 1)) mz_t128 mz_v128 rfl rfl rfl rfl rfl ((ct_in1 (m := mz_up w 64 1 ((w 64 1) + 1)) (v := xb) (a := (-100)) (b := 100) (show ¬ (xb < (-100)) from (sm_plc_of q2).1.1) (show ¬ (100 < xb) from (sm_plc_of q2).1.2)).deep (by decide)) ?_
            refine mz_go 4 (c' := (16, [some (.int xb), some (.int xc)], [.int 100, .int (-100), .int xc], mz_up w 64 1 ((w 64 1) + 1))) rfl ?_
            refine mz_doQ (R := mz_r128) (as := [.int xc, .int (-100), .int 100]) (rest := []) (r1 := some (.int 1)) (m1 := mz_up w 64 1 ((w 64 1) + 1)) mz_t128 mz_v128 rfl rfl rfl rfl rfl ((ct_in1 (m := mz_up w 64 1 ((w 64 1) + 1)) (v := xc) (a := (-100)) (b := 100) (show ¬ (xc < (-100)) from (sm_plc_of q2).2.1) (show ¬ (100 < xc) from (sm_plc_of q2).2.2)).deep (by decide)) ?_
            refine mz_go 3 (c' := (27, [some (.int xb), some (.int xc)], [.int 1], mz_up w 64 1 ((w 64 1) + 1))) rfl ?_
            exact mz_ret rfl
          refine mz_go 4 (c' := (22, [some (.int xa), some (.int xb), some (.int xc), some (.int xd)], [.int 99, .int 0, .int xd], mz_up w 64 1 ((w 64 1) + 1))) rfl ?_
          refine mz_doQ (R := mz_r128) (as := [.int xd, .int 0, .int 99]) (rest := []) (r1 := some (.int (sm_bI (sm_in xd 0 99)))) (m1 := mz_up w 64 1 ((w 64 1) + 1)) mz_t128 mz_v128 rfl rfl rfl rfl rfl ((ct_in (m := mz_up w 64 1 ((w 64 1) + 1)) xd 0 99).deep (by decide)) ?_
          refine mz_go 1 (c' := (if (sm_bI (sm_in xd 0 99)) = 0 then 32 else 28, [some (.int xa), some (.int xb), some (.int xc), some (.int xd)], [], mz_up w 64 1 ((w 64 1) + 1))) rfl ?_
          refine mz_ifT q3 ?_
          refine mz_go 1 (c' := (33, [some (.int xa), some (.int xb), some (.int xc), some (.int xd)], [.int 0], mz_up w 64 1 ((w 64 1) + 1))) rfl ?_
          exact mz_ret rfl
        refine mz_goP 3 (c' := (13, [some (.ref 65), some (.int xa), some (.int xb), some (.int xc), some (.int xd)], [.int 1, .ref 65], mz_up w 64 1 ((w 64 1) + 1))) rfl ?_
        refine mz_doPQ (R := mz_r127) (as := [.ref 65, .int 1]) (rest := []) (r1 := some (.int (-1000001))) (m1 := mz_up (mz_up w 64 1 ((w 64 1) + 1)) 68 1 ((w 68 1) + 1)) mz_t127 mz_v127_65 rfl rfl rfl rfl rfl ((ct_err1 (m := mz_up w 64 1 ((w 64 1) + 1))).deep (by decide)) ?_
        refine mz_retP (r := (some (.int ((-1000001))), mz_up (mz_up w 64 1 ((w 64 1) + 1)) 68 1 ((w 68 1) + 1))) rfl ⟨(-1000001), rfl, ?_, rfl⟩
        show sm_I (n + 1) (mz_up (mz_up w 64 1 ((w 64 1) + 1)) 68 1 ((w 68 1) + 1))
        exact sm_I_scr hn hI2 (fun i hi => by
          have hne : ∀ r, sm_scr r = true → i ≠ r := fun r hr e => by
            rw [e, hr] at hi
            cases hi
          simp only [mz_up_ne (hne 64 rfl), mz_up_ne (hne 68 rfl)]) rfl rfl
      · refine mz_doPQ (R := mz_r113) (as := [.int xa, .int xb, .int xc, .int xd]) (rest := []) (r1 := some (.int 1)) (m1 := w) mz_t113 mz_v113 rfl rfl rfl rfl rfl ⟨?_, rfl⟩ ?_
        · refine mz_go 1 (c' := (1, [some (.int xa), some (.int xb), some (.int xc), some (.int xd)], [.int xa], w)) rfl ?_
          refine mz_doQ (R := mz_r114) (as := [.int xa]) (rest := []) (r1 := some (.int 1)) (m1 := w) mz_t114 mz_v114 rfl rfl rfl rfl rfl ⟨?_, rfl⟩ ?_
          · refine mz_go 3 (c' := (4, [some (.int xa)], [.int 6, .int 0, .int xa], w)) rfl ?_
            refine mz_doQ (R := mz_r121) (as := [.int xa, .int 0, .int 6]) (rest := []) (r1 := some (.int 1)) (m1 := w) mz_t121 mz_v121 rfl rfl rfl rfl rfl ((cs_in1 (m := w) (v := xa) (a := 0) (b := 6) (show ¬ (xa < 0) from (sm_in_lo q1)) (show ¬ (6 < xa) from (sm_in_hi q1))).deep (by decide)) ?_
            exact mz_ret rfl
          refine mz_go 3 (c' := (9, [some (.int xa), some (.int xb), some (.int xc), some (.int xd)], [.int xc, .int xb], w)) rfl ?_
          refine mz_doQ (R := mz_r116) (as := [.int xb, .int xc]) (rest := []) (r1 := some (.int 1)) (m1 := w) mz_t116 mz_v116 rfl rfl rfl rfl rfl ⟨?_, rfl⟩ ?_
          · refine mz_go 3 (c' := (5, [some (.int xb), some (.int xc)], [.int 100, .int (-100), .int xb], w)) rfl ?_
            refine mz_doQ (R := mz_r121) (as := [.int xb, .int (-100), .int 100]) (rest := []) (r1 := some (.int 1)) (m1 := w) mz_t121 mz_v121 rfl rfl rfl rfl rfl ((cs_in1 (m := w) (v := xb) (a := (-100)) (b := 100) (show ¬ (xb < (-100)) from (sm_plc_of q2).1.1) (show ¬ (100 < xb) from (sm_plc_of q2).1.2)).deep (by decide)) ?_
            refine mz_go 4 (c' := (16, [some (.int xb), some (.int xc)], [.int 100, .int (-100), .int xc], w)) rfl ?_
            refine mz_doQ (R := mz_r121) (as := [.int xc, .int (-100), .int 100]) (rest := []) (r1 := some (.int 1)) (m1 := w) mz_t121 mz_v121 rfl rfl rfl rfl rfl ((cs_in1 (m := w) (v := xc) (a := (-100)) (b := 100) (show ¬ (xc < (-100)) from (sm_plc_of q2).2.1) (show ¬ (100 < xc) from (sm_plc_of q2).2.2)).deep (by decide)) ?_
            refine mz_go 3 (c' := (27, [some (.int xb), some (.int xc)], [.int 1], w)) rfl ?_
            exact mz_ret rfl
          refine mz_go 4 (c' := (19, [some (.int xa), some (.int xb), some (.int xc), some (.int xd)], [.int 99, .int 0, .int xd], w)) rfl ?_
          refine mz_doQ (R := mz_r121) (as := [.int xd, .int 0, .int 99]) (rest := []) (r1 := some (.int 1)) (m1 := w) mz_t121 mz_v121 rfl rfl rfl rfl rfl ((cs_in1 (m := w) (v := xd) (a := 0) (b := 99) (show ¬ (xd < 0) from (sm_in_lo q3)) (show ¬ (99 < xd) from (sm_in_hi q3))).deep (by decide)) ?_
          refine mz_go 3 (c' := (30, [some (.int xa), some (.int xb), some (.int xc), some (.int xd)], [.int 1], w)) rfl ?_
          exact mz_ret rfl
        refine mz_goP 4 (c' := (24, [some (.ref 0), some (.int xa), some (.int xb), some (.int xc), some (.int xd)], [.ref 2], w)) rfl ?_
        by_cases q4 : N < 6
        · refine mz_doPQ (R := mz_r22) (as := [.ref 2]) (rest := []) (r1 := some (.int 0)) (m1 := w) mz_t22 mz_v22_2 rfl rfl rfl rfl rfl ⟨?_, rfl⟩ ?_
          · refine mz_go 2 (c' := (4, [some (.ref 2)], [.int (w 2 4)], w)) rfl ?_
            rw [h4]
            refine mz_go 2 (c' := (if (nI N) < 6 then 13 else 9, [some (.ref 2)], [], w)) rfl ?_
            refine mz_ifT (show ((nI N) < 6) from (sm_ltN rfl rfl (show N < 6 by omega) (show 6 < 2 ^ 31 by omega))) ?_
            refine mz_go 1 (c' := (14, [some (.ref 2)], [.int 0], w)) rfl ?_
            exact mz_ret rfl
          refine mz_goP 8 (c' := (48, [some (.ref 0), some (.int xa), some (.int xb), some (.int xc), some (.int xd)], [.int xd, .int xc, .int xb, .int xa, .ref 2], w)) rfl ?_
          refine mz_doPQ (R := mz_r23) (as := [.ref 2, .int xa, .int xb, .int xc, .int xd]) (rest := []) (r1 := some (.int (nI N))) (m1 := mz_up (mz_up (mz_up (mz_up (mz_up w 3 N xa) 4 N xb) 5 N xc) 6 N xd) 2 4 ((nI N) + 1)) mz_t23 mz_v23_2 rfl rfl rfl rfl rfl ⟨?_, rfl⟩ ?_
          · refine mz_go 2 (c' := (4, [some (.ref 2), some (.int xa), some (.int xb), some (.int xc), some (.int xd), none], [.int (w 2 4)], w)) rfl ?_
            rw [h4]
            refine mz_go 1 (c' := (if (nI N) < 0 then 14 else 7, [some (.ref 2), some (.int xa), some (.int xb), some (.int xc), some (.int xd), none], [], w)) rfl ?_
            refine mz_ifF (show ¬ ((nI N) < 0) from (sm_nltN rfl rfl (show 0 ≤ N by omega) (show N < 2 ^ 31 by omega))) ?_
            refine mz_go 1 (c' := (8, [some (.ref 2), some (.int xa), some (.int xb), some (.int xc), some (.int xd), none], [.ref 2], w)) rfl ?_
            refine mz_doQ (R := mz_r22) (as := [.ref 2]) (rest := []) (r1 := some (.int 0)) (m1 := w) mz_t22 mz_v22_2 rfl rfl rfl rfl rfl ⟨?_, rfl⟩ ?_
            · refine mz_go 2 (c' := (4, [some (.ref 2)], [.int (w 2 4)], w)) rfl ?_
              rw [h4]
              refine mz_go 2 (c' := (if (nI N) < 6 then 13 else 9, [some (.ref 2)], [], w)) rfl ?_
              refine mz_ifT (show ((nI N) < 6) from (sm_ltN rfl rfl (show N < 6 by omega) (show 6 < 2 ^ 31 by omega))) ?_
              refine mz_go 1 (c' := (14, [some (.ref 2)], [.int 0], w)) rfl ?_
              exact mz_ret rfl
            refine mz_go 3 (c' := (20, [some (.ref 2), some (.int xa), some (.int xb), some (.int xc), some (.int xd), none], [.int (w 2 4)], w)) rfl ?_
            rw [h4]
            refine mz_go 5 (c' := (29, [some (.ref 2), some (.int xa), some (.int xb), some (.int xc), some (.int xd), some (.int (nI N))], [.int xa, .int (nI N), .ref 3], w)) rfl ?_
            refine mz_arr (c' := (30, [some (.ref 2), some (.int xa), some (.int xb), some (.int xc), some (.int xd), some (.int (nI N))], [], mz_up w 3 ((nI N).toNatClampNeg) xa)) rfl (show mz_in (nI N) 6 = true from sm_inN rfl (show N < 6 by omega) (by decide)) ?_
            rw [show (nI N : Int32).toNatClampNeg = N from sm_clN rfl (show N < 2 ^ 31 by omega)]
            refine mz_go 4 (c' := (37, [some (.ref 2), some (.int xa), some (.int xb), some (.int xc), some (.int xd), some (.int (nI N))], [.int xb, .int (nI N), .ref 4], mz_up w 3 N xa)) rfl ?_
            refine mz_arr (c' := (38, [some (.ref 2), some (.int xa), some (.int xb), some (.int xc), some (.int xd), some (.int (nI N))], [], mz_up (mz_up w 3 N xa) 4 ((nI N).toNatClampNeg) xb)) rfl (show mz_in (nI N) 6 = true from sm_inN rfl (show N < 6 by omega) (by decide)) ?_
            rw [show (nI N : Int32).toNatClampNeg = N from sm_clN rfl (show N < 2 ^ 31 by omega)]
            refine mz_go 4 (c' := (45, [some (.ref 2), some (.int xa), some (.int xb), some (.int xc), some (.int xd), some (.int (nI N))], [.int xc, .int (nI N), .ref 5], mz_up (mz_up w 3 N xa) 4 N xb)) rfl ?_
            refine mz_arr (c' := (46, [some (.ref 2), some (.int xa), some (.int xb), some (.int xc), some (.int xd), some (.int (nI N))], [], mz_up (mz_up (mz_up w 3 N xa) 4 N xb) 5 ((nI N).toNatClampNeg) xc)) rfl (show mz_in (nI N) 6 = true from sm_inN rfl (show N < 6 by omega) (by decide)) ?_
            rw [show (nI N : Int32).toNatClampNeg = N from sm_clN rfl (show N < 2 ^ 31 by omega)]
            refine mz_go 4 (c' := (54, [some (.ref 2), some (.int xa), some (.int xb), some (.int xc), some (.int xd), some (.int (nI N))], [.int xd, .int (nI N), .ref 6], mz_up (mz_up (mz_up w 3 N xa) 4 N xb) 5 N xc)) rfl ?_
            refine mz_arr (c' := (55, [some (.ref 2), some (.int xa), some (.int xb), some (.int xc), some (.int xd), some (.int (nI N))], [], mz_up (mz_up (mz_up (mz_up w 3 N xa) 4 N xb) 5 N xc) 6 ((nI N).toNatClampNeg) xd)) rfl (show mz_in (nI N) 6 = true from sm_inN rfl (show N < 6 by omega) (by decide)) ?_
            rw [show (nI N : Int32).toNatClampNeg = N from sm_clN rfl (show N < 2 ^ 31 by omega)]
            refine mz_go 3 (c' := (60, [some (.ref 2), some (.int xa), some (.int xb), some (.int xc), some (.int xd), some (.int (nI N))], [.int (w 2 4), .ref 2], mz_up (mz_up (mz_up (mz_up w 3 N xa) 4 N xb) 5 N xc) 6 N xd)) rfl ?_
            rw [h4]
            refine mz_go 4 (c' := (67, [some (.ref 2), some (.int xa), some (.int xb), some (.int xc), some (.int xd), some (.int (nI N))], [.int (nI N)], mz_up (mz_up (mz_up (mz_up (mz_up w 3 N xa) 4 N xb) 5 N xc) 6 N xd) 2 4 ((nI N) + 1))) rfl ?_
            exact mz_ret rfl
          refine mz_retP (r := (some (.int (nI N)), mz_up (mz_up (mz_up (mz_up (mz_up w 3 N xa) 4 N xb) 5 N xc) 6 N xd) 2 4 ((nI N) + 1))) rfl ⟨nI N, rfl, ?_⟩
          refine mz_goP 4 (c' := (5, [some (.ref 65), some (.int xa), some (.int xb), some (.int xc), some (.int xd)], [.int xd, .int xc, .int xb, .int xa], mz_up (mz_up (mz_up (mz_up (mz_up w 3 N xa) 4 N xb) 5 N xc) 6 N xd) 2 4 ((nI N) + 1))) rfl ?_
          refine mz_doPQ (R := mz_r135) (as := [.int xa, .int xb, .int xc, .int xd]) (rest := []) (r1 := some (.int 1)) (m1 := mz_up (mz_up (mz_up (mz_up (mz_up w 3 N xa) 4 N xb) 5 N xc) 6 N xd) 2 4 ((nI N) + 1)) mz_t135 mz_v135 rfl rfl rfl rfl rfl ⟨?_, rfl⟩ ?_
          · refine mz_go 3 (c' := (4, [some (.int xa), some (.int xb), some (.int xc), some (.int xd)], [.int 6, .int 0, .int xa], mz_up (mz_up (mz_up (mz_up (mz_up w 3 N xa) 4 N xb) 5 N xc) 6 N xd) 2 4 ((nI N) + 1))) rfl ?_
            refine mz_doQ (R := mz_r128) (as := [.int xa, .int 0, .int 6]) (rest := []) (r1 := some (.int 1)) (m1 := mz_up (mz_up (mz_up (mz_up (mz_up w 3 N xa) 4 N xb) 5 N xc) 6 N xd) 2 4 ((nI N) + 1)) mz_t128 mz_v128 rfl rfl rfl rfl rfl ((ct_in1 (m := mz_up (mz_up (mz_up (mz_up (mz_up w 3 N xa) 4 N xb) 5 N xc) 6 N xd) 2 4 ((nI N) + 1)) (v := xa) (a := 0) (b := 6) (show ¬ (xa < 0) from (sm_in_lo q1)) (show ¬ (6 < xa) from (sm_in_hi q1))).deep (by decide)) ?_
            refine mz_go 3 (c' := (12, [some (.int xa), some (.int xb), some (.int xc), some (.int xd)], [.int xc, .int xb], mz_up (mz_up (mz_up (mz_up (mz_up w 3 N xa) 4 N xb) 5 N xc) 6 N xd) 2 4 ((nI N) + 1))) rfl ?_
            refine mz_doQ (R := mz_r131) (as := [.int xb, .int xc]) (rest := []) (r1 := some (.int 1)) (m1 := mz_up (mz_up (mz_up (mz_up (mz_up w 3 N xa) 4 N xb) 5 N xc) 6 N xd) 2 4 ((nI N) + 1)) mz_t131 mz_v131 rfl rfl rfl rfl rfl ⟨?_, rfl⟩ ?_
            · refine mz_go 3 (c' := (5, [some (.int xb), some (.int xc)], [.int 100, .int (-100), .int xb], mz_up (mz_up (mz_up (mz_up (mz_up w 3 N xa) 4 N xb) 5 N xc) 6 N xd) 2 4 ((nI N) + 1))) rfl ?_
              refine mz_doQ (R := mz_r128) (as := [.int xb, .int (-100), .int 100]) (rest := []) (r1 := some (.int 1)) (m1 := mz_up (mz_up (mz_up (mz_up (mz_up w 3 N xa) 4 N xb) 5 N xc) 6 N xd) 2 4 ((nI N) + 1)) mz_t128 mz_v128 rfl rfl rfl rfl rfl ((ct_in1 (m := mz_up (mz_up (mz_up (mz_up (mz_up w 3 N xa) 4 N xb) 5 N xc) 6 N xd) 2 4 ((nI N) + 1)) (v := xb) (a := (-100)) (b := 100) (show ¬ (xb < (-100)) from (sm_plc_of q2).1.1) (show ¬ (100 < xb) from (sm_plc_of q2).1.2)).deep (by decide)) ?_
              refine mz_go 4 (c' := (16, [some (.int xb), some (.int xc)], [.int 100, .int (-100), .int xc], mz_up (mz_up (mz_up (mz_up (mz_up w 3 N xa) 4 N xb) 5 N xc) 6 N xd) 2 4 ((nI N) + 1))) rfl ?_
              refine mz_doQ (R := mz_r128) (as := [.int xc, .int (-100), .int 100]) (rest := []) (r1 := some (.int 1)) (m1 := mz_up (mz_up (mz_up (mz_up (mz_up w 3 N xa) 4 N xb) 5 N xc) 6 N xd) 2 4 ((nI N) + 1)) mz_t128 mz_v128 rfl rfl rfl rfl rfl ((ct_in1 (m := mz_up (mz_up (mz_up (mz_up (mz_up w 3 N xa) 4 N xb) 5 N xc) 6 N xd) 2 4 ((nI N) + 1)) (v := xc) (a := (-100)) (b := 100) (show ¬ (xc < (-100)) from (sm_plc_of q2).2.1) (show ¬ (100 < xc) from (sm_plc_of q2).2.2)).deep (by decide)) ?_
              refine mz_go 3 (c' := (27, [some (.int xb), some (.int xc)], [.int 1], mz_up (mz_up (mz_up (mz_up (mz_up w 3 N xa) 4 N xb) 5 N xc) 6 N xd) 2 4 ((nI N) + 1))) rfl ?_
              exact mz_ret rfl
            refine mz_go 4 (c' := (22, [some (.int xa), some (.int xb), some (.int xc), some (.int xd)], [.int 99, .int 0, .int xd], mz_up (mz_up (mz_up (mz_up (mz_up w 3 N xa) 4 N xb) 5 N xc) 6 N xd) 2 4 ((nI N) + 1))) rfl ?_
            refine mz_doQ (R := mz_r128) (as := [.int xd, .int 0, .int 99]) (rest := []) (r1 := some (.int 1)) (m1 := mz_up (mz_up (mz_up (mz_up (mz_up w 3 N xa) 4 N xb) 5 N xc) 6 N xd) 2 4 ((nI N) + 1)) mz_t128 mz_v128 rfl rfl rfl rfl rfl ((ct_in1 (m := mz_up (mz_up (mz_up (mz_up (mz_up w 3 N xa) 4 N xb) 5 N xc) 6 N xd) 2 4 ((nI N) + 1)) (v := xd) (a := 0) (b := 99) (show ¬ (xd < 0) from (sm_in_lo q3)) (show ¬ (99 < xd) from (sm_in_hi q3))).deep (by decide)) ?_
            refine mz_go 3 (c' := (33, [some (.int xa), some (.int xb), some (.int xc), some (.int xd)], [.int 1], mz_up (mz_up (mz_up (mz_up (mz_up w 3 N xa) 4 N xb) 5 N xc) 6 N xd) 2 4 ((nI N) + 1))) rfl ?_
            exact mz_ret rfl
          refine mz_goP 5 (c' := (23, [some (.ref 65), some (.int xa), some (.int xb), some (.int xc), some (.int xd)], [.int (w 66 0)], mz_up (mz_up (mz_up (mz_up (mz_up w 3 N xa) 4 N xb) 5 N xc) 6 N xd) 2 4 ((nI N) + 1))) rfl ?_
          rw [h660]
          refine mz_goP 2 (c' := (if (nI N) = 6 then 28 else 36, [some (.ref 65), some (.int xa), some (.int xb), some (.int xc), some (.int xd)], [], mz_up (mz_up (mz_up (mz_up (mz_up w 3 N xa) 4 N xb) 5 N xc) 6 N xd) 2 4 ((nI N) + 1))) rfl ?_
          refine mz_ifFP (show ¬ ((nI N) = 6) from (sm_neN rfl rfl (show N ≠ 6 by omega) (show N < 2 ^ 31 by omega) (show 6 < 2 ^ 31 by omega))) ?_
          refine mz_goP 5 (c' := (42, [some (.ref 65), some (.int xa), some (.int xb), some (.int xc), some (.int xd)], [.int xd, .int xc, .int xb, .int xa, .ref 65], mz_up (mz_up (mz_up (mz_up (mz_up w 3 N xa) 4 N xb) 5 N xc) 6 N xd) 2 4 ((nI N) + 1))) rfl ?_
          refine mz_doPQ (R := mz_r136) (as := [.ref 65, .int xa, .int xb, .int xc, .int xd]) (rest := []) (r1 := some (.int (nI N))) (m1 := mz_up (mz_up (mz_up (mz_up (mz_up (mz_up (mz_up (mz_up (mz_up (mz_up w 3 N xa) 4 N xb) 5 N xc) 6 N xd) 2 4 ((nI N) + 1)) 66 ((30 + (4 * N)) + 0) xa) 66 ((30 + (4 * N)) + 1) xb) 66 ((30 + (4 * N)) + 2) xc) 66 ((30 + (4 * N)) + 3) xd) 66 0 ((nI N) + 1)) mz_t136 mz_v136_65 rfl rfl rfl rfl rfl ⟨?_, rfl⟩ ?_
          · refine mz_go 6 (c' := (9, [some (.ref 65), some (.int xa), some (.int xb), some (.int xc), some (.int xd), none], [.int (w 66 0), .int 4, .int 30], mz_up (mz_up (mz_up (mz_up (mz_up w 3 N xa) 4 N xb) 5 N xc) 6 N xd) 2 4 ((nI N) + 1))) rfl ?_
            rw [h660]
            refine mz_go 9 (c' := (22, [some (.ref 65), some (.int xa), some (.int xb), some (.int xc), some (.int xd), some (.int (30 + (4 * (nI N))))], [.int xa, .int ((30 + (4 * (nI N))) + 0), .ref 66], mz_up (mz_up (mz_up (mz_up (mz_up w 3 N xa) 4 N xb) 5 N xc) 6 N xd) 2 4 ((nI N) + 1))) rfl ?_
            refine mz_arr (c' := (23, [some (.ref 65), some (.int xa), some (.int xb), some (.int xc), some (.int xd), some (.int (30 + (4 * (nI N))))], [], mz_up (mz_up (mz_up (mz_up (mz_up (mz_up w 3 N xa) 4 N xb) 5 N xc) 6 N xd) 2 4 ((nI N) + 1)) 66 (((30 + (4 * (nI N))) + 0).toNatClampNeg) xa)) rfl (show mz_in ((30 + (4 * (nI N))) + 0) 650 = true from sm_inN (sm_addN (sm_addN rfl (sm_mulN rfl rfl)) rfl) (show ((30 + (4 * N)) + 0) < 650 by omega) (by decide)) ?_
            rw [show ((30 + (4 * (nI N))) + 0 : Int32).toNatClampNeg = ((30 + (4 * N)) + 0) from sm_clN (sm_addN (sm_addN rfl (sm_mulN rfl rfl)) rfl) (show ((30 + (4 * N)) + 0) < 2 ^ 31 by omega)]
            refine mz_go 6 (c' := (32, [some (.ref 65), some (.int xa), some (.int xb), some (.int xc), some (.int xd), some (.int (30 + (4 * (nI N))))], [.int xb, .int ((30 + (4 * (nI N))) + 1), .ref 66], mz_up (mz_up (mz_up (mz_up (mz_up (mz_up w 3 N xa) 4 N xb) 5 N xc) 6 N xd) 2 4 ((nI N) + 1)) 66 ((30 + (4 * N)) + 0) xa)) rfl ?_
            refine mz_arr (c' := (33, [some (.ref 65), some (.int xa), some (.int xb), some (.int xc), some (.int xd), some (.int (30 + (4 * (nI N))))], [], mz_up (mz_up (mz_up (mz_up (mz_up (mz_up (mz_up w 3 N xa) 4 N xb) 5 N xc) 6 N xd) 2 4 ((nI N) + 1)) 66 ((30 + (4 * N)) + 0) xa) 66 (((30 + (4 * (nI N))) + 1).toNatClampNeg) xb)) rfl (show mz_in ((30 + (4 * (nI N))) + 1) 650 = true from sm_inN (sm_addN (sm_addN rfl (sm_mulN rfl rfl)) rfl) (show ((30 + (4 * N)) + 1) < 650 by omega) (by decide)) ?_
            rw [show ((30 + (4 * (nI N))) + 1 : Int32).toNatClampNeg = ((30 + (4 * N)) + 1) from sm_clN (sm_addN (sm_addN rfl (sm_mulN rfl rfl)) rfl) (show ((30 + (4 * N)) + 1) < 2 ^ 31 by omega)]
            refine mz_go 6 (c' := (42, [some (.ref 65), some (.int xa), some (.int xb), some (.int xc), some (.int xd), some (.int (30 + (4 * (nI N))))], [.int xc, .int ((30 + (4 * (nI N))) + 2), .ref 66], mz_up (mz_up (mz_up (mz_up (mz_up (mz_up (mz_up w 3 N xa) 4 N xb) 5 N xc) 6 N xd) 2 4 ((nI N) + 1)) 66 ((30 + (4 * N)) + 0) xa) 66 ((30 + (4 * N)) + 1) xb)) rfl ?_
            refine mz_arr (c' := (43, [some (.ref 65), some (.int xa), some (.int xb), some (.int xc), some (.int xd), some (.int (30 + (4 * (nI N))))], [], mz_up (mz_up (mz_up (mz_up (mz_up (mz_up (mz_up (mz_up w 3 N xa) 4 N xb) 5 N xc) 6 N xd) 2 4 ((nI N) + 1)) 66 ((30 + (4 * N)) + 0) xa) 66 ((30 + (4 * N)) + 1) xb) 66 (((30 + (4 * (nI N))) + 2).toNatClampNeg) xc)) rfl (show mz_in ((30 + (4 * (nI N))) + 2) 650 = true from sm_inN (sm_addN (sm_addN rfl (sm_mulN rfl rfl)) rfl) (show ((30 + (4 * N)) + 2) < 650 by omega) (by decide)) ?_
            rw [show ((30 + (4 * (nI N))) + 2 : Int32).toNatClampNeg = ((30 + (4 * N)) + 2) from sm_clN (sm_addN (sm_addN rfl (sm_mulN rfl rfl)) rfl) (show ((30 + (4 * N)) + 2) < 2 ^ 31 by omega)]
            refine mz_go 6 (c' := (53, [some (.ref 65), some (.int xa), some (.int xb), some (.int xc), some (.int xd), some (.int (30 + (4 * (nI N))))], [.int xd, .int ((30 + (4 * (nI N))) + 3), .ref 66], mz_up (mz_up (mz_up (mz_up (mz_up (mz_up (mz_up (mz_up w 3 N xa) 4 N xb) 5 N xc) 6 N xd) 2 4 ((nI N) + 1)) 66 ((30 + (4 * N)) + 0) xa) 66 ((30 + (4 * N)) + 1) xb) 66 ((30 + (4 * N)) + 2) xc)) rfl ?_
            refine mz_arr (c' := (54, [some (.ref 65), some (.int xa), some (.int xb), some (.int xc), some (.int xd), some (.int (30 + (4 * (nI N))))], [], mz_up (mz_up (mz_up (mz_up (mz_up (mz_up (mz_up (mz_up (mz_up w 3 N xa) 4 N xb) 5 N xc) 6 N xd) 2 4 ((nI N) + 1)) 66 ((30 + (4 * N)) + 0) xa) 66 ((30 + (4 * N)) + 1) xb) 66 ((30 + (4 * N)) + 2) xc) 66 (((30 + (4 * (nI N))) + 3).toNatClampNeg) xd)) rfl (show mz_in ((30 + (4 * (nI N))) + 3) 650 = true from sm_inN (sm_addN (sm_addN rfl (sm_mulN rfl rfl)) rfl) (show ((30 + (4 * N)) + 3) < 650 by omega) (by decide)) ?_
            rw [show ((30 + (4 * (nI N))) + 3 : Int32).toNatClampNeg = ((30 + (4 * N)) + 3) from sm_clN (sm_addN (sm_addN rfl (sm_mulN rfl rfl)) rfl) (show ((30 + (4 * N)) + 3) < 2 ^ 31 by omega)]
            refine mz_go 5 (c' := (61, [some (.ref 65), some (.int xa), some (.int xb), some (.int xc), some (.int xd), some (.int (30 + (4 * (nI N))))], [.int ((mz_up (mz_up (mz_up (mz_up (mz_up (mz_up (mz_up (mz_up (mz_up w 3 N xa) 4 N xb) 5 N xc) 6 N xd) 2 4 ((nI N) + 1)) 66 ((30 + (4 * N)) + 0) xa) 66 ((30 + (4 * N)) + 1) xb) 66 ((30 + (4 * N)) + 2) xc) 66 ((30 + (4 * N)) + 3) xd) 66 0), .int 0, .ref 66], mz_up (mz_up (mz_up (mz_up (mz_up (mz_up (mz_up (mz_up (mz_up w 3 N xa) 4 N xb) 5 N xc) 6 N xd) 2 4 ((nI N) + 1)) 66 ((30 + (4 * N)) + 0) xa) 66 ((30 + (4 * N)) + 1) xb) 66 ((30 + (4 * N)) + 2) xc) 66 ((30 + (4 * N)) + 3) xd)) rfl ?_
            rw [show (mz_up (mz_up (mz_up (mz_up (mz_up (mz_up (mz_up (mz_up (mz_up w 3 N xa) 4 N xb) 5 N xc) 6 N xd) 2 4 ((nI N) + 1)) 66 ((30 + (4 * N)) + 0) xa) 66 ((30 + (4 * N)) + 1) xb) 66 ((30 + (4 * N)) + 2) xc) 66 ((30 + (4 * N)) + 3) xd) 66 0 = w 66 0 from by rw [mz_up_eq, if_neg (show ¬ 0 = ((30 + (4 * N)) + 3) by omega), mz_up_eq, if_neg (show ¬ 0 = ((30 + (4 * N)) + 2) by omega), mz_up_eq, if_neg (show ¬ 0 = ((30 + (4 * N)) + 1) by omega), mz_up_eq, if_neg (show ¬ 0 = ((30 + (4 * N)) + 0) by omega), mz_up_ne (show (66 : Nat) ≠ 2 by decide), mz_up_ne (show (66 : Nat) ≠ 6 by decide), mz_up_ne (show (66 : Nat) ≠ 5 by decide), mz_up_ne (show (66 : Nat) ≠ 4 by decide), mz_up_ne (show (66 : Nat) ≠ 3 by decide)]]
            rw [h660]
            refine mz_go 9 (c' := (72, [some (.ref 65), some (.int xa), some (.int xb), some (.int xc), some (.int xd), some (.int (30 + (4 * (nI N))))], [.int (((nI N) + 1) - 1)], mz_up (mz_up (mz_up (mz_up (mz_up (mz_up (mz_up (mz_up (mz_up (mz_up w 3 N xa) 4 N xb) 5 N xc) 6 N xd) 2 4 ((nI N) + 1)) 66 ((30 + (4 * N)) + 0) xa) 66 ((30 + (4 * N)) + 1) xb) 66 ((30 + (4 * N)) + 2) xc) 66 ((30 + (4 * N)) + 3) xd) 66 0 ((nI N) + 1))) rfl ?_
            rw [Int32.add_sub_cancel (nI N) 1]
            exact mz_ret rfl
          refine mz_retP (r := (some (.int (nI N)), mz_up (mz_up (mz_up (mz_up (mz_up (mz_up (mz_up (mz_up (mz_up (mz_up w 3 N xa) 4 N xb) 5 N xc) 6 N xd) 2 4 ((nI N) + 1)) 66 ((30 + (4 * N)) + 0) xa) 66 ((30 + (4 * N)) + 1) xb) 66 ((30 + (4 * N)) + 2) xc) 66 ((30 + (4 * N)) + 3) xd) 66 0 ((nI N) + 1))) rfl ⟨nI N, rfl, ?_, rfl⟩
          show sm_I (n + 1) (mz_up (mz_up (mz_up (mz_up (mz_up (mz_up (mz_up (mz_up (mz_up (mz_up w 3 N xa) 4 N xb) 5 N xc) 6 N xd) 2 4 ((nI N) + 1)) 66 ((30 + (4 * N)) + 0) xa) 66 ((30 + (4 * N)) + 1) xb) 66 ((30 + (4 * N)) + 2) xc) 66 ((30 + (4 * N)) + 3) xd) 66 0 ((nI N) + 1))
          obtain ⟨-, ⟨d1, d2, d3, ⟨d4, d4b, d4c⟩, d5, d6, d7, d8⟩, da, db, dc⟩ := hI2
          have hs : ∀ i, i ≠ ((30 + (4 * N)) + 0) → i ≠ ((30 + (4 * N)) + 1) → i ≠ ((30 + (4 * N)) + 2) → i ≠ ((30 + (4 * N)) + 3) → i ≠ 0 → (mz_up (mz_up (mz_up (mz_up (mz_up (mz_up (mz_up (mz_up (mz_up (mz_up w 3 N xa) 4 N xb) 5 N xc) 6 N xd) 2 4 ((nI N) + 1)) 66 ((30 + (4 * N)) + 0) xa) 66 ((30 + (4 * N)) + 1) xb) 66 ((30 + (4 * N)) + 2) xc) 66 ((30 + (4 * N)) + 3) xd) 66 0 ((nI N) + 1)) 66 i = w 66 i := fun i p0 p1 p2 p3 p4 => by rw [mz_up_eq, if_neg (by omega), mz_up_eq, if_neg (by omega), mz_up_eq, if_neg (by omega), mz_up_eq, if_neg (by omega), mz_up_eq, if_neg (by omega), mz_up_ne (show (66 : Nat) ≠ 2 by decide), mz_up_ne (show (66 : Nat) ≠ 6 by decide), mz_up_ne (show (66 : Nat) ≠ 5 by decide), mz_up_ne (show (66 : Nat) ≠ 4 by decide), mz_up_ne (show (66 : Nat) ≠ 3 by decide)]
          exact ⟨hn, ⟨⟨⟨N + 1, by omega, (nI_succ N).symm, (nI_succ N).symm⟩, fun i h => sm_added (j := N) hs ⟨by rw [mz_up_eq, if_neg (by omega), mz_up_eq, if_neg (by omega), mz_up_eq, if_neg (by omega), mz_up_eq, if_neg (by omega), mz_up_eq, if_pos rfl], by rw [mz_up_eq, if_neg (by omega), mz_up_eq, if_neg (by omega), mz_up_eq, if_neg (by omega), mz_up_eq, if_pos rfl], by rw [mz_up_eq, if_neg (by omega), mz_up_eq, if_neg (by omega), mz_up_eq, if_pos rfl], by rw [mz_up_eq, if_neg (by omega), mz_up_eq, if_pos rfl]⟩ (fun i => by rw [mz_up_ne (show (3 : Nat) ≠ 66 by decide), mz_up_ne (show (3 : Nat) ≠ 66 by decide), mz_up_ne (show (3 : Nat) ≠ 66 by decide), mz_up_ne (show (3 : Nat) ≠ 66 by decide), mz_up_ne (show (3 : Nat) ≠ 66 by decide), mz_up_ne (show (3 : Nat) ≠ 2 by decide), mz_up_ne (show (3 : Nat) ≠ 6 by decide), mz_up_ne (show (3 : Nat) ≠ 5 by decide), mz_up_ne (show (3 : Nat) ≠ 4 by decide), mz_up_eq]) (fun i => by rw [mz_up_ne (show (4 : Nat) ≠ 66 by decide), mz_up_ne (show (4 : Nat) ≠ 66 by decide), mz_up_ne (show (4 : Nat) ≠ 66 by decide), mz_up_ne (show (4 : Nat) ≠ 66 by decide), mz_up_ne (show (4 : Nat) ≠ 66 by decide), mz_up_ne (show (4 : Nat) ≠ 2 by decide), mz_up_ne (show (4 : Nat) ≠ 6 by decide), mz_up_ne (show (4 : Nat) ≠ 5 by decide), mz_up_eq, mz_up_ne (show (4 : Nat) ≠ 3 by decide)]) (fun i => by rw [mz_up_ne (show (5 : Nat) ≠ 66 by decide), mz_up_ne (show (5 : Nat) ≠ 66 by decide), mz_up_ne (show (5 : Nat) ≠ 66 by decide), mz_up_ne (show (5 : Nat) ≠ 66 by decide), mz_up_ne (show (5 : Nat) ≠ 66 by decide), mz_up_ne (show (5 : Nat) ≠ 2 by decide), mz_up_ne (show (5 : Nat) ≠ 6 by decide), mz_up_eq, mz_up_ne (show (5 : Nat) ≠ 4 by decide), mz_up_ne (show (5 : Nat) ≠ 3 by decide)]) (fun i => by rw [mz_up_ne (show (6 : Nat) ≠ 66 by decide), mz_up_ne (show (6 : Nat) ≠ 66 by decide), mz_up_ne (show (6 : Nat) ≠ 66 by decide), mz_up_ne (show (6 : Nat) ≠ 66 by decide), mz_up_ne (show (6 : Nat) ≠ 66 by decide), mz_up_ne (show (6 : Nat) ≠ 2 by decide), mz_up_eq, mz_up_ne (show (6 : Nat) ≠ 5 by decide), mz_up_ne (show (6 : Nat) ≠ 4 by decide), mz_up_ne (show (6 : Nat) ≠ 3 by decide)]) (d1.2 i h) (sm_N_of (n := 6) (by decide) (sm_in_lo q1) (sm_in_hi q1)) (sm_B_of (sm_plc_of q2).1.1 (sm_plc_of q2).1.2) (sm_B_of (sm_plc_of q2).2.1 (sm_plc_of q2).2.2) (sm_N_of (n := 99) (by decide) (sm_in_lo q3) (sm_in_hi q3))⟩, sm_k2 (fun i h1 h2 => hs i (by omega) (by omega) (by omega) (by omega) (by omega)) d2, sm_k3 (hs 1 (by omega) (by omega) (by omega) (by omega) (by omega)) (fun i h1 h2 => hs i (by omega) (by omega) (by omega) (by omega) (by omega)) d3, ⟨sm_k4 (fun i h1 h2 => hs i (by omega) (by omega) (by omega) (by omega) (by omega)) d4, sm_k4 (fun i h1 h2 => hs i (by omega) (by omega) (by omega) (by omega) (by omega)) d4b, sm_k4 (fun i h1 h2 => hs i (by omega) (by omega) (by omega) (by omega) (by omega)) d4c⟩, sm_k5 (fun i h1 h2 => hs i (by omega) (by omega) (by omega) (by omega) (by omega)) d5, sm_k6 (fun i h1 h2 => hs i (by omega) (by omega) (by omega) (by omega) (by omega)) d6, sm_k7 (fun i h1 h2 => hs i (by omega) (by omega) (by omega) (by omega) (by omega)) d7, sm_k8 (hs 2 (by omega) (by omega) (by omega) (by omega) (by omega)) (hs 3 (by omega) (by omega) (by omega) (by omega) (by omega)) (fun i h1 h2 => hs i (by omega) (by omega) (by omega) (by omega) (by omega)) d8⟩, da, db, sm_cc_of (fun i h1 h2 => by simp only [mz_up_ne (show i ≠ 2 by omega), mz_up_ne (show i ≠ 3 by omega), mz_up_ne (show i ≠ 4 by omega), mz_up_ne (show i ≠ 5 by omega), mz_up_ne (show i ≠ 6 by omega), mz_up_ne (show i ≠ 66 by omega)]) dc⟩
        · refine mz_doPQ (R := mz_r22) (as := [.ref 2]) (rest := []) (r1 := some (.int 1)) (m1 := w) mz_t22 mz_v22_2 rfl rfl rfl rfl rfl ⟨?_, rfl⟩ ?_
          · refine mz_go 2 (c' := (4, [some (.ref 2)], [.int (w 2 4)], w)) rfl ?_
            rw [h4]
            refine mz_go 2 (c' := (if (nI N) < 6 then 13 else 9, [some (.ref 2)], [], w)) rfl ?_
            refine mz_ifF (show ¬ ((nI N) < 6) from (sm_nltN rfl rfl (show 6 ≤ N by omega) (show N < 2 ^ 31 by omega))) ?_
            refine mz_go 2 (c' := (14, [some (.ref 2)], [.int 1], w)) rfl ?_
            exact mz_ret rfl
          refine mz_goP 3 (c' := (32, [some (.ref 0), some (.int xa), some (.int xb), some (.int xc), some (.int xd)], [.int 4, .ref 0], w)) rfl ?_
          refine mz_doPQ (R := mz_r109) (as := [.ref 0, .int 4]) (rest := []) (r1 := some (.int (-1000004))) (m1 := mz_up w 64 4 ((w 64 4) + 1)) mz_t109 mz_v109_0 rfl rfl rfl rfl rfl ((cs_err4 (m := w)).deep (by decide)) ?_
          refine mz_retP (r := (some (.int ((-1000004))), mz_up w 64 4 ((w 64 4) + 1))) rfl ⟨(-1000004), rfl, ?_⟩
          refine mz_goP 4 (c' := (5, [some (.ref 65), some (.int xa), some (.int xb), some (.int xc), some (.int xd)], [.int xd, .int xc, .int xb, .int xa], mz_up w 64 4 ((w 64 4) + 1))) rfl ?_
          refine mz_doPQ (R := mz_r135) (as := [.int xa, .int xb, .int xc, .int xd]) (rest := []) (r1 := some (.int 1)) (m1 := mz_up w 64 4 ((w 64 4) + 1)) mz_t135 mz_v135 rfl rfl rfl rfl rfl ⟨?_, rfl⟩ ?_
          · refine mz_go 3 (c' := (4, [some (.int xa), some (.int xb), some (.int xc), some (.int xd)], [.int 6, .int 0, .int xa], mz_up w 64 4 ((w 64 4) + 1))) rfl ?_
            refine mz_doQ (R := mz_r128) (as := [.int xa, .int 0, .int 6]) (rest := []) (r1 := some (.int 1)) (m1 := mz_up w 64 4 ((w 64 4) + 1)) mz_t128 mz_v128 rfl rfl rfl rfl rfl ((ct_in1 (m := mz_up w 64 4 ((w 64 4) + 1)) (v := xa) (a := 0) (b := 6) (show ¬ (xa < 0) from (sm_in_lo q1)) (show ¬ (6 < xa) from (sm_in_hi q1))).deep (by decide)) ?_
            refine mz_go 3 (c' := (12, [some (.int xa), some (.int xb), some (.int xc), some (.int xd)], [.int xc, .int xb], mz_up w 64 4 ((w 64 4) + 1))) rfl ?_
            refine mz_doQ (R := mz_r131) (as := [.int xb, .int xc]) (rest := []) (r1 := some (.int 1)) (m1 := mz_up w 64 4 ((w 64 4) + 1)) mz_t131 mz_v131 rfl rfl rfl rfl rfl ⟨?_, rfl⟩ ?_
            · refine mz_go 3 (c' := (5, [some (.int xb), some (.int xc)], [.int 100, .int (-100), .int xb], mz_up w 64 4 ((w 64 4) + 1))) rfl ?_
              refine mz_doQ (R := mz_r128) (as := [.int xb, .int (-100), .int 100]) (rest := []) (r1 := some (.int 1)) (m1 := mz_up w 64 4 ((w 64 4) + 1)) mz_t128 mz_v128 rfl rfl rfl rfl rfl ((ct_in1 (m := mz_up w 64 4 ((w 64 4) + 1)) (v := xb) (a := (-100)) (b := 100) (show ¬ (xb < (-100)) from (sm_plc_of q2).1.1) (show ¬ (100 < xb) from (sm_plc_of q2).1.2)).deep (by decide)) ?_
              refine mz_go 4 (c' := (16, [some (.int xb), some (.int xc)], [.int 100, .int (-100), .int xc], mz_up w 64 4 ((w 64 4) + 1))) rfl ?_
              refine mz_doQ (R := mz_r128) (as := [.int xc, .int (-100), .int 100]) (rest := []) (r1 := some (.int 1)) (m1 := mz_up w 64 4 ((w 64 4) + 1)) mz_t128 mz_v128 rfl rfl rfl rfl rfl ((ct_in1 (m := mz_up w 64 4 ((w 64 4) + 1)) (v := xc) (a := (-100)) (b := 100) (show ¬ (xc < (-100)) from (sm_plc_of q2).2.1) (show ¬ (100 < xc) from (sm_plc_of q2).2.2)).deep (by decide)) ?_
              refine mz_go 3 (c' := (27, [some (.int xb), some (.int xc)], [.int 1], mz_up w 64 4 ((w 64 4) + 1))) rfl ?_
              exact mz_ret rfl
            refine mz_go 4 (c' := (22, [some (.int xa), some (.int xb), some (.int xc), some (.int xd)], [.int 99, .int 0, .int xd], mz_up w 64 4 ((w 64 4) + 1))) rfl ?_
            refine mz_doQ (R := mz_r128) (as := [.int xd, .int 0, .int 99]) (rest := []) (r1 := some (.int 1)) (m1 := mz_up w 64 4 ((w 64 4) + 1)) mz_t128 mz_v128 rfl rfl rfl rfl rfl ((ct_in1 (m := mz_up w 64 4 ((w 64 4) + 1)) (v := xd) (a := 0) (b := 99) (show ¬ (xd < 0) from (sm_in_lo q3)) (show ¬ (99 < xd) from (sm_in_hi q3))).deep (by decide)) ?_
            refine mz_go 3 (c' := (33, [some (.int xa), some (.int xb), some (.int xc), some (.int xd)], [.int 1], mz_up w 64 4 ((w 64 4) + 1))) rfl ?_
            exact mz_ret rfl
          refine mz_goP 5 (c' := (23, [some (.ref 65), some (.int xa), some (.int xb), some (.int xc), some (.int xd)], [.int (w 66 0)], mz_up w 64 4 ((w 64 4) + 1))) rfl ?_
          rw [h660]
          refine mz_goP 2 (c' := (if (nI N) = 6 then 28 else 36, [some (.ref 65), some (.int xa), some (.int xb), some (.int xc), some (.int xd)], [], mz_up w 64 4 ((w 64 4) + 1))) rfl ?_
          refine mz_ifTP (show ((nI N) = 6) from (sm_eqN rfl rfl (show N = 6 by omega))) ?_
          refine mz_goP 2 (c' := (30, [some (.ref 65), some (.int xa), some (.int xb), some (.int xc), some (.int xd)], [.int 4, .ref 65], mz_up w 64 4 ((w 64 4) + 1))) rfl ?_
          refine mz_doPQ (R := mz_r127) (as := [.ref 65, .int 4]) (rest := []) (r1 := some (.int (-1000004))) (m1 := mz_up (mz_up w 64 4 ((w 64 4) + 1)) 68 4 ((w 68 4) + 1)) mz_t127 mz_v127_65 rfl rfl rfl rfl rfl ((ct_err4 (m := mz_up w 64 4 ((w 64 4) + 1))).deep (by decide)) ?_
          refine mz_goP 1 (c' := (45, [some (.ref 65), some (.int xa), some (.int xb), some (.int xc), some (.int xd)], [.int (-1000004)], mz_up (mz_up w 64 4 ((w 64 4) + 1)) 68 4 ((w 68 4) + 1))) rfl ?_
          refine mz_retP (r := (some (.int ((-1000004))), mz_up (mz_up w 64 4 ((w 64 4) + 1)) 68 4 ((w 68 4) + 1))) rfl ⟨(-1000004), rfl, ?_, rfl⟩
          show sm_I (n + 1) (mz_up (mz_up w 64 4 ((w 64 4) + 1)) 68 4 ((w 68 4) + 1))
          exact sm_I_scr hn hI2 (fun i hi => by
            have hne : ∀ r, sm_scr r = true → i ≠ r := fun r hr e => by
              rw [e, hr] at hi
              cases hi
            simp only [mz_up_ne (hne 64 rfl), mz_up_ne (hne 68 rfl)]) rfl rfl
set_option maxHeartbeats 4000000 in
set_option maxRecDepth 100000 in
theorem sc_sheet {n : Nat} (hn : n < 64) {w : mz_M} (hI : sm_I n w) (xa : Int32) (xb : Int32) (xc : Int32) : ∃ v1 v2 m1 m2, mz_Me 100 mz_r99 [.ref 0, .int xa, .int xb, .int xc] w (some (.int v1)) m1 ∧ mz_Me 100 mz_r220 [.ref 65, .int xa, .int xb, .int xc] m1 (some (.int v2)) m2 ∧ sm_I (n + 1) m2 ∧ v1 = v2 := by
  have hI2 := hI
  obtain ⟨hn0, ⟨-, ⟨hr80, hr5, hrr⟩, ⟨⟨TT, hTT, h81, h661⟩, htp⟩, ⟨⟨T0, hT0, hU0, hV0, -⟩, ⟨T1, hT1, hU1, hV1, -⟩, ⟨T2, hT2, hU2, hV2, -⟩⟩, ⟨hbx, hby, hbl⟩, ⟨⟨WW, HH, hWW, hHH, hWH, h202, h203, h6660, h6661⟩, h6662, h6663, h6664, hpc⟩, ⟨hth, h66160, hthr⟩, ⟨⟨AA, hAA, h111, h662⟩, h663, hwt⟩⟩, ⟨hsh, hsn⟩, ⟨hcb1, hcb2⟩, ⟨JJ, hJJ, h07, h652, hkept⟩⟩ := hI
  obtain ⟨N, hw, hr2, h660, -, -, h6615⟩ := sm_world hI2
  have hw2 := hw
  obtain ⟨hN, h4, hpb, -, -⟩ := hw2
  have hT60a := sm_T60 hV0
  have hT60b := sm_T60 hV1
  have hT60c := sm_T60 hV2
  obtain ⟨B1, hB1, e571⟩ := sm_Nof (by decide) hcb1
  obtain ⟨B2, hB2, e6519⟩ := sm_Nof (by decide) hcb2
  refine mz_two (fun _ => rfl) (fun _ => rfl) ?_
  by_cases q1 : xa < 0
  · refine mz_goP 3 (c' := (5, [some (.ref 0), some (.int xa), some (.int xb), some (.int xc)], [.int xa, .ref 60], w)) rfl ?_
    refine mz_doPQ (R := mz_r45) (as := [.ref 60, .int xa]) (rest := []) (r1 := some (.int 0)) (m1 := w) mz_t45 mz_v45_60 rfl rfl rfl rfl rfl ⟨?_, rfl⟩ ?_
    · refine mz_go 2 (c' := (if xa < 0 then 13 else 4, [some (.ref 60), some (.int xa)], [], w)) rfl ?_
      refine mz_ifT q1 ?_
      refine mz_go 1 (c' := (14, [some (.ref 60), some (.int xa)], [.int 0], w)) rfl ?_
      exact mz_ret rfl
    refine mz_goP 3 (c' := (35, [some (.ref 0), some (.int xa), some (.int xb), some (.int xc)], [.int 1, .ref 0], w)) rfl ?_
    refine mz_doPQ (R := mz_r109) (as := [.ref 0, .int 1]) (rest := []) (r1 := some (.int (-1000001))) (m1 := mz_up w 64 1 ((w 64 1) + 1)) mz_t109 mz_v109_0 rfl rfl rfl rfl rfl ((cs_err1 (m := w)).deep (by decide)) ?_
    refine mz_retP (r := (some (.int ((-1000001))), mz_up w 64 1 ((w 64 1) + 1))) rfl ⟨(-1000001), rfl, ?_⟩
    refine mz_goP 1 (c' := (1, [some (.ref 65), some (.int xa), some (.int xb), some (.int xc), none], [.int xa], mz_up w 64 1 ((w 64 1) + 1))) rfl ?_
    refine mz_doPQ (R := mz_r219) (as := [.int xa]) (rest := []) (r1 := some (.int 0)) (m1 := mz_up w 64 1 ((w 64 1) + 1)) mz_t219 mz_v219 rfl rfl rfl rfl rfl ⟨?_, rfl⟩ ?_
    · refine mz_go 3 (c' := (3, [some (.int xa)], [.int 3, .int 0, .int xa], mz_up w 64 1 ((w 64 1) + 1))) rfl ?_
      refine mz_doQ (R := mz_r128) (as := [.int xa, .int 0, .int 3]) (rest := []) (r1 := some (.int 0)) (m1 := mz_up w 64 1 ((w 64 1) + 1)) mz_t128 mz_v128 rfl rfl rfl rfl rfl ((ct_inL (m := mz_up w 64 1 ((w 64 1) + 1)) (v := xa) (a := 0) (b := 3) q1).deep (by decide)) ?_
      exact mz_ret rfl
    refine mz_goP 3 (c' := (31, [some (.ref 65), some (.int xa), some (.int xb), some (.int xc), none], [.int 1, .ref 65], mz_up w 64 1 ((w 64 1) + 1))) rfl ?_
    refine mz_doPQ (R := mz_r127) (as := [.ref 65, .int 1]) (rest := []) (r1 := some (.int (-1000001))) (m1 := mz_up (mz_up w 64 1 ((w 64 1) + 1)) 68 1 ((w 68 1) + 1)) mz_t127 mz_v127_65 rfl rfl rfl rfl rfl ((ct_err1 (m := mz_up w 64 1 ((w 64 1) + 1))).deep (by decide)) ?_
    refine mz_retP (r := (some (.int ((-1000001))), mz_up (mz_up w 64 1 ((w 64 1) + 1)) 68 1 ((w 68 1) + 1))) rfl ⟨(-1000001), rfl, ?_, rfl⟩
    show sm_I (n + 1) (mz_up (mz_up w 64 1 ((w 64 1) + 1)) 68 1 ((w 68 1) + 1))
    exact sm_I_scr hn hI2 (fun i hi => by
      have hne : ∀ r, sm_scr r = true → i ≠ r := fun r hr e => by
        rw [e, hr] at hi
        cases hi
      simp only [mz_up_ne (hne 64 rfl), mz_up_ne (hne 68 rfl)]) rfl rfl
  · by_cases q2 : 4 ≤ xa
    · refine mz_goP 3 (c' := (5, [some (.ref 0), some (.int xa), some (.int xb), some (.int xc)], [.int xa, .ref 60], w)) rfl ?_
      refine mz_doPQ (R := mz_r45) (as := [.ref 60, .int xa]) (rest := []) (r1 := some (.int 0)) (m1 := w) mz_t45 mz_v45_60 rfl rfl rfl rfl rfl ⟨?_, rfl⟩ ?_
      · refine mz_go 2 (c' := (if xa < 0 then 13 else 4, [some (.ref 60), some (.int xa)], [], w)) rfl ?_
        refine mz_ifF q1 ?_
        refine mz_go 3 (c' := (if 4 ≤ xa then 13 else 9, [some (.ref 60), some (.int xa)], [], w)) rfl ?_
        refine mz_ifT q2 ?_
        refine mz_go 1 (c' := (14, [some (.ref 60), some (.int xa)], [.int 0], w)) rfl ?_
        exact mz_ret rfl
      refine mz_goP 3 (c' := (35, [some (.ref 0), some (.int xa), some (.int xb), some (.int xc)], [.int 1, .ref 0], w)) rfl ?_
      refine mz_doPQ (R := mz_r109) (as := [.ref 0, .int 1]) (rest := []) (r1 := some (.int (-1000001))) (m1 := mz_up w 64 1 ((w 64 1) + 1)) mz_t109 mz_v109_0 rfl rfl rfl rfl rfl ((cs_err1 (m := w)).deep (by decide)) ?_
      refine mz_retP (r := (some (.int ((-1000001))), mz_up w 64 1 ((w 64 1) + 1))) rfl ⟨(-1000001), rfl, ?_⟩
      refine mz_goP 1 (c' := (1, [some (.ref 65), some (.int xa), some (.int xb), some (.int xc), none], [.int xa], mz_up w 64 1 ((w 64 1) + 1))) rfl ?_
      refine mz_doPQ (R := mz_r219) (as := [.int xa]) (rest := []) (r1 := some (.int 0)) (m1 := mz_up w 64 1 ((w 64 1) + 1)) mz_t219 mz_v219 rfl rfl rfl rfl rfl ⟨?_, rfl⟩ ?_
      · refine mz_go 3 (c' := (3, [some (.int xa)], [.int 3, .int 0, .int xa], mz_up w 64 1 ((w 64 1) + 1))) rfl ?_
        refine mz_doQ (R := mz_r128) (as := [.int xa, .int 0, .int 3]) (rest := []) (r1 := some (.int 0)) (m1 := mz_up w 64 1 ((w 64 1) + 1)) mz_t128 mz_v128 rfl rfl rfl rfl rfl ((ct_inG (m := mz_up w 64 1 ((w 64 1) + 1)) (v := xa) (a := 0) (b := 3) q1 (by have hl : (4 : Int) ≤ (xa).toInt := Int32.le_iff_toInt_le.mp q2; exact Int32.lt_iff_toInt_lt.mpr (show (3 : Int) < (xa).toInt by omega))).deep (by decide)) ?_
        exact mz_ret rfl
      refine mz_goP 3 (c' := (31, [some (.ref 65), some (.int xa), some (.int xb), some (.int xc), none], [.int 1, .ref 65], mz_up w 64 1 ((w 64 1) + 1))) rfl ?_
      refine mz_doPQ (R := mz_r127) (as := [.ref 65, .int 1]) (rest := []) (r1 := some (.int (-1000001))) (m1 := mz_up (mz_up w 64 1 ((w 64 1) + 1)) 68 1 ((w 68 1) + 1)) mz_t127 mz_v127_65 rfl rfl rfl rfl rfl ((ct_err1 (m := mz_up w 64 1 ((w 64 1) + 1))).deep (by decide)) ?_
      refine mz_retP (r := (some (.int ((-1000001))), mz_up (mz_up w 64 1 ((w 64 1) + 1)) 68 1 ((w 68 1) + 1))) rfl ⟨(-1000001), rfl, ?_, rfl⟩
      show sm_I (n + 1) (mz_up (mz_up w 64 1 ((w 64 1) + 1)) 68 1 ((w 68 1) + 1))
      exact sm_I_scr hn hI2 (fun i hi => by
        have hne : ∀ r, sm_scr r = true → i ≠ r := fun r hr e => by
          rw [e, hr] at hi
          cases hi
        simp only [mz_up_ne (hne 64 rfl), mz_up_ne (hne 68 rfl)]) rfl rfl
    · by_cases q3 : xb = 0
      · subst q3
        obtain ⟨jxa, hjxa, rfl⟩ := nI_of q1
        have zxa0 : ¬ 4 ≤ jxa := fun z => q2 ((nI_leI (by decide) hjxa).mpr z)
        refine mz_goP 3 (c' := (5, [some (.ref 0), some (.int (nI jxa)), some (.int 0), some (.int xc)], [.int (nI jxa), .ref 60], w)) rfl ?_
        refine mz_doPQ (R := mz_r45) (as := [.ref 60, .int (nI jxa)]) (rest := []) (r1 := some (.int 1)) (m1 := w) mz_t45 mz_v45_60 rfl rfl rfl rfl rfl ⟨?_, rfl⟩ ?_
        · refine mz_go 2 (c' := (if (nI jxa) < 0 then 13 else 4, [some (.ref 60), some (.int (nI jxa))], [], w)) rfl ?_
          refine mz_ifF q1 ?_
          refine mz_go 3 (c' := (if 4 ≤ (nI jxa) then 13 else 9, [some (.ref 60), some (.int (nI jxa))], [], w)) rfl ?_
          refine mz_ifF q2 ?_
          refine mz_go 2 (c' := (14, [some (.ref 60), some (.int (nI jxa))], [.int 1], w)) rfl ?_
          exact mz_ret rfl
        refine mz_goP 15 (c' := (84, [some (.ref 0), some (.int (nI jxa)), some (.int 0), some (.int xc)], [.int 0, .int 0, .int (nI jxa), .ref 60], w)) rfl ?_
        obtain ⟨zS, hzS, EzS⟩ := cs_layl (m := mz_up (mz_up w 61 jxa 0) 62 jxa 0) (S := jxa) (D := 98) (by omega) 0 0 24 0 (by omega) ((mz_up (mz_up w 61 jxa 0) 62 jxa 0) 63)
        rw [sm_id] at EzS
        refine mz_doPQ (R := mz_r47) (as := [.ref 60, .int (nI jxa), .int 0, .int 0]) (rest := []) (r1 := none) (m1 := mz_set (mz_up (mz_up w 61 jxa 0) 62 jxa 0) 63 zS) mz_t47 mz_v47_60 rfl rfl rfl rfl rfl ⟨?_, rfl⟩ ?_
        · refine mz_go 2 (c' := (2, [some (.ref 60), some (.int (nI jxa)), some (.int 0), some (.int 0), none], [.int (nI jxa), .ref 60], w)) rfl ?_
          refine mz_doQ (R := mz_r45) (as := [.ref 60, .int (nI jxa)]) (rest := []) (r1 := some (.int 1)) (m1 := w) mz_t45 mz_v45_60 rfl rfl rfl rfl rfl ⟨?_, rfl⟩ ?_
          · refine mz_go 2 (c' := (if (nI jxa) < 0 then 13 else 4, [some (.ref 60), some (.int (nI jxa))], [], w)) rfl ?_
            refine mz_ifF q1 ?_
            refine mz_go 3 (c' := (if 4 ≤ (nI jxa) then 13 else 9, [some (.ref 60), some (.int (nI jxa))], [], w)) rfl ?_
            refine mz_ifF q2 ?_
            refine mz_go 2 (c' := (14, [some (.ref 60), some (.int (nI jxa))], [.int 1], w)) rfl ?_
            exact mz_ret rfl
          refine mz_go 4 (c' := (12, [some (.ref 60), some (.int (nI jxa)), some (.int 0), some (.int 0), none], [.int 24, .int 0, .int 0], w)) rfl ?_
          refine mz_doQ (R := mz_r121) (as := [.int 0, .int 0, .int 24]) (rest := []) (r1 := some (.int 1)) (m1 := w) mz_t121 mz_v121 rfl rfl rfl rfl rfl ((cs_in1 (m := w) (v := 0) (a := 0) (b := 24) (by decide) (by decide)).deep (by decide)) ?_
          refine mz_go 5 (c' := (24, [some (.ref 60), some (.int (nI jxa)), some (.int 0), some (.int 0), none], [.int 0, .int (nI jxa), .ref 61], w)) rfl ?_
          refine mz_arr (c' := (25, [some (.ref 60), some (.int (nI jxa)), some (.int 0), some (.int 0), none], [], mz_up w 61 ((nI jxa).toNatClampNeg) 0)) rfl (show mz_in (nI jxa) 4 = true from sm_inN rfl (show jxa < 4 by omega) (by decide)) ?_
          rw [show (nI jxa : Int32).toNatClampNeg = jxa from sm_clN rfl (show jxa < 2 ^ 31 by omega)]
          refine mz_go 4 (c' := (31, [some (.ref 60), some (.int (nI jxa)), some (.int 0), some (.int 0), none], [.int 0, .int (nI jxa), .ref 62], mz_up w 61 jxa 0)) rfl ?_
          refine mz_arr (c' := (32, [some (.ref 60), some (.int (nI jxa)), some (.int 0), some (.int 0), none], [], mz_up (mz_up w 61 jxa 0) 62 ((nI jxa).toNatClampNeg) 0)) rfl (show mz_in (nI jxa) 4 = true from sm_inN rfl (show jxa < 4 by omega) (by decide)) ?_
          rw [show (nI jxa : Int32).toNatClampNeg = jxa from sm_clN rfl (show jxa < 2 ^ 31 by omega)]
          refine mz_go 2 (c' := (35, [some (.ref 60), some (.int (nI jxa)), some (.int 0), some (.int 0), some (.int 0)], [], mz_up (mz_up w 61 jxa 0) 62 jxa 0)) rfl ?_
          refine EzS _ ?_
          exact mz_ret rfl
        refine mz_goP 1 (c' := (88, [some (.ref 0), some (.int (nI jxa)), some (.int 0), some (.int xc)], [.int 1], mz_set (mz_up (mz_up w 61 jxa 0) 62 jxa 0) 63 zS)) rfl ?_
        refine mz_retP (r := (some (.int (1)), mz_set (mz_up (mz_up w 61 jxa 0) 62 jxa 0) 63 zS)) rfl ⟨1, rfl, ?_⟩
        refine mz_goP 1 (c' := (1, [some (.ref 65), some (.int (nI jxa)), some (.int 0), some (.int xc), none], [.int (nI jxa)], mz_set (mz_up (mz_up w 61 jxa 0) 62 jxa 0) 63 zS)) rfl ?_
        refine mz_doPQ (R := mz_r219) (as := [.int (nI jxa)]) (rest := []) (r1 := some (.int 1)) (m1 := mz_set (mz_up (mz_up w 61 jxa 0) 62 jxa 0) 63 zS) mz_t219 mz_v219 rfl rfl rfl rfl rfl ⟨?_, rfl⟩ ?_
        · refine mz_go 3 (c' := (3, [some (.int (nI jxa))], [.int 3, .int 0, .int (nI jxa)], mz_set (mz_up (mz_up w 61 jxa 0) 62 jxa 0) 63 zS)) rfl ?_
          refine mz_doQ (R := mz_r128) (as := [.int (nI jxa), .int 0, .int 3]) (rest := []) (r1 := some (.int 1)) (m1 := mz_set (mz_up (mz_up w 61 jxa 0) 62 jxa 0) 63 zS) mz_t128 mz_v128 rfl rfl rfl rfl rfl ((ct_in1 (m := mz_set (mz_up (mz_up w 61 jxa 0) 62 jxa 0) 63 zS) (v := nI jxa) (a := 0) (b := 3) q1 (show ¬ (3 < (nI jxa)) from (sm_nltN rfl rfl (show jxa ≤ 3 by omega) (show 3 < 2 ^ 31 by omega)))).deep (by decide)) ?_
          exact mz_ret rfl
        refine mz_goP 11 (c' := (71, [some (.ref 65), some (.int (nI jxa)), some (.int 0), some (.int xc), none], [.int 0, .int (nI jxa), .ref 75], mz_set (mz_up (mz_up w 61 jxa 0) 62 jxa 0) 63 zS)) rfl ?_
        refine mz_arrP (c' := (72, [some (.ref 65), some (.int (nI jxa)), some (.int 0), some (.int xc), none], [], mz_up (mz_set (mz_up (mz_up w 61 jxa 0) 62 jxa 0) 63 zS) 75 ((nI jxa).toNatClampNeg) 0)) rfl (show mz_in (nI jxa) 4 = true from sm_inN rfl (show jxa < 4 by omega) (by decide)) ?_
        rw [show (nI jxa : Int32).toNatClampNeg = jxa from sm_clN rfl (show jxa < 2 ^ 31 by omega)]
        refine mz_goP 7 (c' := (86, [some (.ref 65), some (.int (nI jxa)), some (.int 0), some (.int xc), none], [.int 0, .int (nI jxa), .ref 76], mz_up (mz_set (mz_up (mz_up w 61 jxa 0) 62 jxa 0) 63 zS) 75 jxa 0)) rfl ?_
        refine mz_arrP (c' := (87, [some (.ref 65), some (.int (nI jxa)), some (.int 0), some (.int xc), none], [], mz_up (mz_up (mz_set (mz_up (mz_up w 61 jxa 0) 62 jxa 0) 63 zS) 75 jxa 0) 76 ((nI jxa).toNatClampNeg) 0)) rfl (show mz_in (nI jxa) 4 = true from sm_inN rfl (show jxa < 4 by omega) (by decide)) ?_
        rw [show (nI jxa : Int32).toNatClampNeg = jxa from sm_clN rfl (show jxa < 2 ^ 31 by omega)]
        refine mz_goP 2 (c' := (90, [some (.ref 65), some (.int (nI jxa)), some (.int 0), some (.int xc), some (.int 0)], [], mz_up (mz_up (mz_set (mz_up (mz_up w 61 jxa 0) 62 jxa 0) 63 zS) 75 jxa 0) 76 jxa 0)) rfl ?_
        obtain ⟨zR, hzR, EzR⟩ := ct_layl (m := mz_up (mz_up (mz_set (mz_up (mz_up w 61 jxa 0) 62 jxa 0) 63 zS) 75 jxa 0) 76 jxa 0) (S := jxa) (D := 99) (by omega) 0 xc 24 0 (by omega) ((mz_up (mz_up (mz_set (mz_up (mz_up w 61 jxa 0) 62 jxa 0) 63 zS) 75 jxa 0) 76 jxa 0) 77)
        rw [sm_id] at EzR
        refine mz_hkP EzR ?_
        refine mz_goP 1 (c' := (117, [some (.ref 65), some (.int (nI jxa)), some (.int 0), some (.int xc), some (.int (nI 24))], [.int 1], mz_set (mz_up (mz_up (mz_set (mz_up (mz_up w 61 jxa 0) 62 jxa 0) 63 zS) 75 jxa 0) 76 jxa 0) 77 zR)) rfl ?_
        refine mz_retP (r := (some (.int (1)), mz_set (mz_up (mz_up (mz_set (mz_up (mz_up w 61 jxa 0) 62 jxa 0) 63 zS) 75 jxa 0) 76 jxa 0) 77 zR)) rfl ⟨1, rfl, ?_, rfl⟩
        show sm_I (n + 1) (mz_set (mz_up (mz_up (mz_set (mz_up (mz_up w 61 jxa 0) 62 jxa 0) 63 zS) 75 jxa 0) 76 jxa 0) 77 zR)
        obtain ⟨-, ⟨d1, d2, d3, ⟨d4, d4b, d4c⟩, d5, d6, d7, d8⟩, da, db, dc⟩ := hI2
        exact ⟨hn, ⟨d1, d2, d3, ⟨d4, d4b, d4c⟩, d5, d6, d7, d8⟩, (sm_sheeted (S := jxa) (x := 0) (y := 0) da (by decide) (sm_Nto (n := 24) (k := 0) (by decide) (by decide)) (fun i => by rw [mz_set_ne (show (61 : Nat) ≠ 77 by decide), mz_up_ne (show (61 : Nat) ≠ 76 by decide), mz_up_ne (show (61 : Nat) ≠ 75 by decide), mz_set_ne (show (61 : Nat) ≠ 63 by decide), mz_up_ne (show (61 : Nat) ≠ 62 by decide), mz_up_eq]) (fun i => by rw [mz_set_ne (show (62 : Nat) ≠ 77 by decide), mz_up_ne (show (62 : Nat) ≠ 76 by decide), mz_up_ne (show (62 : Nat) ≠ 75 by decide), mz_set_ne (show (62 : Nat) ≠ 63 by decide), mz_up_eq, mz_up_ne (show (62 : Nat) ≠ 61 by decide)]) (fun i => by rw [mz_set_ne (show (75 : Nat) ≠ 77 by decide), mz_up_ne (show (75 : Nat) ≠ 76 by decide), mz_up_eq, mz_set_ne (show (75 : Nat) ≠ 63 by decide), mz_up_ne (show (75 : Nat) ≠ 62 by decide), mz_up_ne (show (75 : Nat) ≠ 61 by decide)]) (fun i => by rw [mz_set_ne (show (76 : Nat) ≠ 77 by decide), mz_up_eq, mz_up_ne (show (76 : Nat) ≠ 75 by decide), mz_set_ne (show (76 : Nat) ≠ 63 by decide), mz_up_ne (show (76 : Nat) ≠ 62 by decide), mz_up_ne (show (76 : Nat) ≠ 61 by decide)]) hzS hzR), db, sm_cc_of (fun i h1 h2 => by simp only [mz_set_ne (show i ≠ 63 by omega), mz_set_ne (show i ≠ 77 by omega), mz_up_ne (show i ≠ 61 by omega), mz_up_ne (show i ≠ 62 by omega), mz_up_ne (show i ≠ 75 by omega), mz_up_ne (show i ≠ 76 by omega)]) dc⟩
      · by_cases q4 : xb = 8
        · subst q4
          by_cases q5 : 0 ≤ xc
          · by_cases q6 : xc ≤ 24
            · obtain ⟨jxa, hjxa, rfl⟩ := nI_of q1
              have zxa0 : ¬ 4 ≤ jxa := fun z => q2 ((nI_leI (by decide) hjxa).mpr z)
              refine mz_goP 3 (c' := (5, [some (.ref 0), some (.int (nI jxa)), some (.int 8), some (.int xc)], [.int (nI jxa), .ref 60], w)) rfl ?_
              refine mz_doPQ (R := mz_r45) (as := [.ref 60, .int (nI jxa)]) (rest := []) (r1 := some (.int 1)) (m1 := w) mz_t45 mz_v45_60 rfl rfl rfl rfl rfl ⟨?_, rfl⟩ ?_
              · refine mz_go 2 (c' := (if (nI jxa) < 0 then 13 else 4, [some (.ref 60), some (.int (nI jxa))], [], w)) rfl ?_
                refine mz_ifF q1 ?_
                refine mz_go 3 (c' := (if 4 ≤ (nI jxa) then 13 else 9, [some (.ref 60), some (.int (nI jxa))], [], w)) rfl ?_
                refine mz_ifF q2 ?_
                refine mz_go 2 (c' := (14, [some (.ref 60), some (.int (nI jxa))], [.int 1], w)) rfl ?_
                exact mz_ret rfl
              refine mz_goP 10 (c' := (if 0 ≤ xc then 53 else 47, [some (.ref 0), some (.int (nI jxa)), some (.int 8), some (.int xc)], [], w)) rfl ?_
              refine mz_ifTP q5 ?_
              refine mz_goP 5 (c' := (if xc ≤ 24 then 69 else 63, [some (.ref 0), some (.int (nI jxa)), some (.int 8), some (.int xc)], [], w)) rfl ?_
              refine mz_ifTP q6 ?_
              refine mz_goP 7 (c' := (84, [some (.ref 0), some (.int (nI jxa)), some (.int 8), some (.int xc)], [.int xc, .int 8, .int (nI jxa), .ref 60], w)) rfl ?_
              obtain ⟨zS, hzS, EzS⟩ := cs_layl (m := mz_up (mz_up w 61 jxa 8) 62 jxa xc) (S := jxa) (D := 98) (by omega) 8 xc 24 0 (by omega) ((mz_up (mz_up w 61 jxa 8) 62 jxa xc) 63)
              rw [sm_id] at EzS
              refine mz_doPQ (R := mz_r47) (as := [.ref 60, .int (nI jxa), .int 8, .int xc]) (rest := []) (r1 := none) (m1 := mz_set (mz_up (mz_up w 61 jxa 8) 62 jxa xc) 63 zS) mz_t47 mz_v47_60 rfl rfl rfl rfl rfl ⟨?_, rfl⟩ ?_
              · refine mz_go 2 (c' := (2, [some (.ref 60), some (.int (nI jxa)), some (.int 8), some (.int xc), none], [.int (nI jxa), .ref 60], w)) rfl ?_
                refine mz_doQ (R := mz_r45) (as := [.ref 60, .int (nI jxa)]) (rest := []) (r1 := some (.int 1)) (m1 := w) mz_t45 mz_v45_60 rfl rfl rfl rfl rfl ⟨?_, rfl⟩ ?_
                · refine mz_go 2 (c' := (if (nI jxa) < 0 then 13 else 4, [some (.ref 60), some (.int (nI jxa))], [], w)) rfl ?_
                  refine mz_ifF q1 ?_
                  refine mz_go 3 (c' := (if 4 ≤ (nI jxa) then 13 else 9, [some (.ref 60), some (.int (nI jxa))], [], w)) rfl ?_
                  refine mz_ifF q2 ?_
                  refine mz_go 2 (c' := (14, [some (.ref 60), some (.int (nI jxa))], [.int 1], w)) rfl ?_
                  exact mz_ret rfl
                refine mz_go 4 (c' := (12, [some (.ref 60), some (.int (nI jxa)), some (.int 8), some (.int xc), none], [.int 24, .int 0, .int xc], w)) rfl ?_
                refine mz_doQ (R := mz_r121) (as := [.int xc, .int 0, .int 24]) (rest := []) (r1 := some (.int 1)) (m1 := w) mz_t121 mz_v121 rfl rfl rfl rfl rfl ((cs_in1 (m := w) (v := xc) (a := 0) (b := 24) (by have hl : (0 : Int) ≤ (xc).toInt := Int32.le_iff_toInt_le.mp q5; have hu : (xc).toInt ≤ (24 : Int) := Int32.le_iff_toInt_le.mp q6; exact Int32.not_lt.mpr (Int32.le_iff_toInt_le.mpr (show (0 : Int) ≤ (xc).toInt by omega))) (by have hl : (0 : Int) ≤ (xc).toInt := Int32.le_iff_toInt_le.mp q5; have hu : (xc).toInt ≤ (24 : Int) := Int32.le_iff_toInt_le.mp q6; exact Int32.not_lt.mpr (Int32.le_iff_toInt_le.mpr (show (xc).toInt ≤ (24 : Int) by omega)))).deep (by decide)) ?_
                refine mz_go 5 (c' := (24, [some (.ref 60), some (.int (nI jxa)), some (.int 8), some (.int xc), none], [.int 8, .int (nI jxa), .ref 61], w)) rfl ?_
                refine mz_arr (c' := (25, [some (.ref 60), some (.int (nI jxa)), some (.int 8), some (.int xc), none], [], mz_up w 61 ((nI jxa).toNatClampNeg) 8)) rfl (show mz_in (nI jxa) 4 = true from sm_inN rfl (show jxa < 4 by omega) (by decide)) ?_
                rw [show (nI jxa : Int32).toNatClampNeg = jxa from sm_clN rfl (show jxa < 2 ^ 31 by omega)]
                refine mz_go 4 (c' := (31, [some (.ref 60), some (.int (nI jxa)), some (.int 8), some (.int xc), none], [.int xc, .int (nI jxa), .ref 62], mz_up w 61 jxa 8)) rfl ?_
                refine mz_arr (c' := (32, [some (.ref 60), some (.int (nI jxa)), some (.int 8), some (.int xc), none], [], mz_up (mz_up w 61 jxa 8) 62 ((nI jxa).toNatClampNeg) xc)) rfl (show mz_in (nI jxa) 4 = true from sm_inN rfl (show jxa < 4 by omega) (by decide)) ?_
                rw [show (nI jxa : Int32).toNatClampNeg = jxa from sm_clN rfl (show jxa < 2 ^ 31 by omega)]
                refine mz_go 2 (c' := (35, [some (.ref 60), some (.int (nI jxa)), some (.int 8), some (.int xc), some (.int 0)], [], mz_up (mz_up w 61 jxa 8) 62 jxa xc)) rfl ?_
                refine EzS _ ?_
                exact mz_ret rfl
              refine mz_goP 1 (c' := (88, [some (.ref 0), some (.int (nI jxa)), some (.int 8), some (.int xc)], [.int 1], mz_set (mz_up (mz_up w 61 jxa 8) 62 jxa xc) 63 zS)) rfl ?_
              refine mz_retP (r := (some (.int (1)), mz_set (mz_up (mz_up w 61 jxa 8) 62 jxa xc) 63 zS)) rfl ⟨1, rfl, ?_⟩
              refine mz_goP 1 (c' := (1, [some (.ref 65), some (.int (nI jxa)), some (.int 8), some (.int xc), none], [.int (nI jxa)], mz_set (mz_up (mz_up w 61 jxa 8) 62 jxa xc) 63 zS)) rfl ?_
              refine mz_doPQ (R := mz_r219) (as := [.int (nI jxa)]) (rest := []) (r1 := some (.int 1)) (m1 := mz_set (mz_up (mz_up w 61 jxa 8) 62 jxa xc) 63 zS) mz_t219 mz_v219 rfl rfl rfl rfl rfl ⟨?_, rfl⟩ ?_
              · refine mz_go 3 (c' := (3, [some (.int (nI jxa))], [.int 3, .int 0, .int (nI jxa)], mz_set (mz_up (mz_up w 61 jxa 8) 62 jxa xc) 63 zS)) rfl ?_
                refine mz_doQ (R := mz_r128) (as := [.int (nI jxa), .int 0, .int 3]) (rest := []) (r1 := some (.int 1)) (m1 := mz_set (mz_up (mz_up w 61 jxa 8) 62 jxa xc) 63 zS) mz_t128 mz_v128 rfl rfl rfl rfl rfl ((ct_in1 (m := mz_set (mz_up (mz_up w 61 jxa 8) 62 jxa xc) 63 zS) (v := nI jxa) (a := 0) (b := 3) q1 (show ¬ (3 < (nI jxa)) from (sm_nltN rfl rfl (show jxa ≤ 3 by omega) (show 3 < 2 ^ 31 by omega)))).deep (by decide)) ?_
                exact mz_ret rfl
              refine mz_goP 10 (c' := (if 0 ≤ xc then 49 else 43, [some (.ref 65), some (.int (nI jxa)), some (.int 8), some (.int xc), none], [], mz_set (mz_up (mz_up w 61 jxa 8) 62 jxa xc) 63 zS)) rfl ?_
              refine mz_ifTP q5 ?_
              refine mz_goP 5 (c' := (if xc ≤ 24 then 65 else 59, [some (.ref 65), some (.int (nI jxa)), some (.int 8), some (.int xc), none], [], mz_set (mz_up (mz_up w 61 jxa 8) 62 jxa xc) 63 zS)) rfl ?_
              refine mz_ifTP q6 ?_
              refine mz_goP 4 (c' := (71, [some (.ref 65), some (.int (nI jxa)), some (.int 8), some (.int xc), none], [.int 8, .int (nI jxa), .ref 75], mz_set (mz_up (mz_up w 61 jxa 8) 62 jxa xc) 63 zS)) rfl ?_
              refine mz_arrP (c' := (72, [some (.ref 65), some (.int (nI jxa)), some (.int 8), some (.int xc), none], [], mz_up (mz_set (mz_up (mz_up w 61 jxa 8) 62 jxa xc) 63 zS) 75 ((nI jxa).toNatClampNeg) 8)) rfl (show mz_in (nI jxa) 4 = true from sm_inN rfl (show jxa < 4 by omega) (by decide)) ?_
              rw [show (nI jxa : Int32).toNatClampNeg = jxa from sm_clN rfl (show jxa < 2 ^ 31 by omega)]
              refine mz_goP 6 (c' := (86, [some (.ref 65), some (.int (nI jxa)), some (.int 8), some (.int xc), none], [.int xc, .int (nI jxa), .ref 76], mz_up (mz_set (mz_up (mz_up w 61 jxa 8) 62 jxa xc) 63 zS) 75 jxa 8)) rfl ?_
              refine mz_arrP (c' := (87, [some (.ref 65), some (.int (nI jxa)), some (.int 8), some (.int xc), none], [], mz_up (mz_up (mz_set (mz_up (mz_up w 61 jxa 8) 62 jxa xc) 63 zS) 75 jxa 8) 76 ((nI jxa).toNatClampNeg) xc)) rfl (show mz_in (nI jxa) 4 = true from sm_inN rfl (show jxa < 4 by omega) (by decide)) ?_
              rw [show (nI jxa : Int32).toNatClampNeg = jxa from sm_clN rfl (show jxa < 2 ^ 31 by omega)]
              refine mz_goP 2 (c' := (90, [some (.ref 65), some (.int (nI jxa)), some (.int 8), some (.int xc), some (.int 0)], [], mz_up (mz_up (mz_set (mz_up (mz_up w 61 jxa 8) 62 jxa xc) 63 zS) 75 jxa 8) 76 jxa xc)) rfl ?_
              obtain ⟨zR, hzR, EzR⟩ := ct_layl (m := mz_up (mz_up (mz_set (mz_up (mz_up w 61 jxa 8) 62 jxa xc) 63 zS) 75 jxa 8) 76 jxa xc) (S := jxa) (D := 99) (by omega) 8 xc 24 0 (by omega) ((mz_up (mz_up (mz_set (mz_up (mz_up w 61 jxa 8) 62 jxa xc) 63 zS) 75 jxa 8) 76 jxa xc) 77)
              rw [sm_id] at EzR
              refine mz_hkP EzR ?_
              refine mz_goP 1 (c' := (117, [some (.ref 65), some (.int (nI jxa)), some (.int 8), some (.int xc), some (.int (nI 24))], [.int 1], mz_set (mz_up (mz_up (mz_set (mz_up (mz_up w 61 jxa 8) 62 jxa xc) 63 zS) 75 jxa 8) 76 jxa xc) 77 zR)) rfl ?_
              refine mz_retP (r := (some (.int (1)), mz_set (mz_up (mz_up (mz_set (mz_up (mz_up w 61 jxa 8) 62 jxa xc) 63 zS) 75 jxa 8) 76 jxa xc) 77 zR)) rfl ⟨1, rfl, ?_, rfl⟩
              show sm_I (n + 1) (mz_set (mz_up (mz_up (mz_set (mz_up (mz_up w 61 jxa 8) 62 jxa xc) 63 zS) 75 jxa 8) 76 jxa xc) 77 zR)
              obtain ⟨-, ⟨d1, d2, d3, ⟨d4, d4b, d4c⟩, d5, d6, d7, d8⟩, da, db, dc⟩ := hI2
              exact ⟨hn, ⟨d1, d2, d3, ⟨d4, d4b, d4c⟩, d5, d6, d7, d8⟩, (sm_sheeted (S := jxa) (x := 8) (y := xc) da (by decide) (sm_N_of (n := 24) (by decide) (by have hl : (0 : Int) ≤ (xc).toInt := Int32.le_iff_toInt_le.mp q5; have hu : (xc).toInt ≤ (24 : Int) := Int32.le_iff_toInt_le.mp q6; exact Int32.not_lt.mpr (Int32.le_iff_toInt_le.mpr (show (0 : Int) ≤ (xc).toInt by omega))) (by have hl : (0 : Int) ≤ (xc).toInt := Int32.le_iff_toInt_le.mp q5; have hu : (xc).toInt ≤ (24 : Int) := Int32.le_iff_toInt_le.mp q6; exact Int32.not_lt.mpr (Int32.le_iff_toInt_le.mpr (show (xc).toInt ≤ (24 : Int) by omega)))) (fun i => by rw [mz_set_ne (show (61 : Nat) ≠ 77 by decide), mz_up_ne (show (61 : Nat) ≠ 76 by decide), mz_up_ne (show (61 : Nat) ≠ 75 by decide), mz_set_ne (show (61 : Nat) ≠ 63 by decide), mz_up_ne (show (61 : Nat) ≠ 62 by decide), mz_up_eq]) (fun i => by rw [mz_set_ne (show (62 : Nat) ≠ 77 by decide), mz_up_ne (show (62 : Nat) ≠ 76 by decide), mz_up_ne (show (62 : Nat) ≠ 75 by decide), mz_set_ne (show (62 : Nat) ≠ 63 by decide), mz_up_eq, mz_up_ne (show (62 : Nat) ≠ 61 by decide)]) (fun i => by rw [mz_set_ne (show (75 : Nat) ≠ 77 by decide), mz_up_ne (show (75 : Nat) ≠ 76 by decide), mz_up_eq, mz_set_ne (show (75 : Nat) ≠ 63 by decide), mz_up_ne (show (75 : Nat) ≠ 62 by decide), mz_up_ne (show (75 : Nat) ≠ 61 by decide)]) (fun i => by rw [mz_set_ne (show (76 : Nat) ≠ 77 by decide), mz_up_eq, mz_up_ne (show (76 : Nat) ≠ 75 by decide), mz_set_ne (show (76 : Nat) ≠ 63 by decide), mz_up_ne (show (76 : Nat) ≠ 62 by decide), mz_up_ne (show (76 : Nat) ≠ 61 by decide)]) hzS hzR), db, sm_cc_of (fun i h1 h2 => by simp only [mz_set_ne (show i ≠ 63 by omega), mz_set_ne (show i ≠ 77 by omega), mz_up_ne (show i ≠ 61 by omega), mz_up_ne (show i ≠ 62 by omega), mz_up_ne (show i ≠ 75 by omega), mz_up_ne (show i ≠ 76 by omega)]) dc⟩
            · refine mz_goP 3 (c' := (5, [some (.ref 0), some (.int xa), some (.int 8), some (.int xc)], [.int xa, .ref 60], w)) rfl ?_
              refine mz_doPQ (R := mz_r45) (as := [.ref 60, .int xa]) (rest := []) (r1 := some (.int 1)) (m1 := w) mz_t45 mz_v45_60 rfl rfl rfl rfl rfl ⟨?_, rfl⟩ ?_
              · refine mz_go 2 (c' := (if xa < 0 then 13 else 4, [some (.ref 60), some (.int xa)], [], w)) rfl ?_
                refine mz_ifF q1 ?_
                refine mz_go 3 (c' := (if 4 ≤ xa then 13 else 9, [some (.ref 60), some (.int xa)], [], w)) rfl ?_
                refine mz_ifF q2 ?_
                refine mz_go 2 (c' := (14, [some (.ref 60), some (.int xa)], [.int 1], w)) rfl ?_
                exact mz_ret rfl
              refine mz_goP 10 (c' := (if 0 ≤ xc then 53 else 47, [some (.ref 0), some (.int xa), some (.int 8), some (.int xc)], [], w)) rfl ?_
              refine mz_ifTP q5 ?_
              refine mz_goP 5 (c' := (if xc ≤ 24 then 69 else 63, [some (.ref 0), some (.int xa), some (.int 8), some (.int xc)], [], w)) rfl ?_
              refine mz_ifFP q6 ?_
              refine mz_goP 2 (c' := (65, [some (.ref 0), some (.int xa), some (.int 8), some (.int xc)], [.int 1, .ref 0], w)) rfl ?_
              refine mz_doPQ (R := mz_r109) (as := [.ref 0, .int 1]) (rest := []) (r1 := some (.int (-1000001))) (m1 := mz_up w 64 1 ((w 64 1) + 1)) mz_t109 mz_v109_0 rfl rfl rfl rfl rfl ((cs_err1 (m := w)).deep (by decide)) ?_
              refine mz_retP (r := (some (.int ((-1000001))), mz_up w 64 1 ((w 64 1) + 1))) rfl ⟨(-1000001), rfl, ?_⟩
              refine mz_goP 1 (c' := (1, [some (.ref 65), some (.int xa), some (.int 8), some (.int xc), none], [.int xa], mz_up w 64 1 ((w 64 1) + 1))) rfl ?_
              refine mz_doPQ (R := mz_r219) (as := [.int xa]) (rest := []) (r1 := some (.int 1)) (m1 := mz_up w 64 1 ((w 64 1) + 1)) mz_t219 mz_v219 rfl rfl rfl rfl rfl ⟨?_, rfl⟩ ?_
              · refine mz_go 3 (c' := (3, [some (.int xa)], [.int 3, .int 0, .int xa], mz_up w 64 1 ((w 64 1) + 1))) rfl ?_
                refine mz_doQ (R := mz_r128) (as := [.int xa, .int 0, .int 3]) (rest := []) (r1 := some (.int 1)) (m1 := mz_up w 64 1 ((w 64 1) + 1)) mz_t128 mz_v128 rfl rfl rfl rfl rfl ((ct_in1 (m := mz_up w 64 1 ((w 64 1) + 1)) (v := xa) (a := 0) (b := 3) q1 (by have hl : (0 : Int) ≤ (xa).toInt := Int32.le_iff_toInt_le.mp (Int32.not_lt.mp q1); have hu : (xa).toInt < (4 : Int) := Int32.lt_iff_toInt_lt.mp (Int32.not_le.mp q2); exact Int32.not_lt.mpr (Int32.le_iff_toInt_le.mpr (show (xa).toInt ≤ (3 : Int) by omega)))).deep (by decide)) ?_
                exact mz_ret rfl
              refine mz_goP 10 (c' := (if 0 ≤ xc then 49 else 43, [some (.ref 65), some (.int xa), some (.int 8), some (.int xc), none], [], mz_up w 64 1 ((w 64 1) + 1))) rfl ?_
              refine mz_ifTP q5 ?_
              refine mz_goP 5 (c' := (if xc ≤ 24 then 65 else 59, [some (.ref 65), some (.int xa), some (.int 8), some (.int xc), none], [], mz_up w 64 1 ((w 64 1) + 1))) rfl ?_
              refine mz_ifFP q6 ?_
              refine mz_goP 2 (c' := (61, [some (.ref 65), some (.int xa), some (.int 8), some (.int xc), none], [.int 1, .ref 65], mz_up w 64 1 ((w 64 1) + 1))) rfl ?_
              refine mz_doPQ (R := mz_r127) (as := [.ref 65, .int 1]) (rest := []) (r1 := some (.int (-1000001))) (m1 := mz_up (mz_up w 64 1 ((w 64 1) + 1)) 68 1 ((w 68 1) + 1)) mz_t127 mz_v127_65 rfl rfl rfl rfl rfl ((ct_err1 (m := mz_up w 64 1 ((w 64 1) + 1))).deep (by decide)) ?_
              refine mz_retP (r := (some (.int ((-1000001))), mz_up (mz_up w 64 1 ((w 64 1) + 1)) 68 1 ((w 68 1) + 1))) rfl ⟨(-1000001), rfl, ?_, rfl⟩
              show sm_I (n + 1) (mz_up (mz_up w 64 1 ((w 64 1) + 1)) 68 1 ((w 68 1) + 1))
              exact sm_I_scr hn hI2 (fun i hi => by
                have hne : ∀ r, sm_scr r = true → i ≠ r := fun r hr e => by
                  rw [e, hr] at hi
                  cases hi
                simp only [mz_up_ne (hne 64 rfl), mz_up_ne (hne 68 rfl)]) rfl rfl
          · refine mz_goP 3 (c' := (5, [some (.ref 0), some (.int xa), some (.int 8), some (.int xc)], [.int xa, .ref 60], w)) rfl ?_
            refine mz_doPQ (R := mz_r45) (as := [.ref 60, .int xa]) (rest := []) (r1 := some (.int 1)) (m1 := w) mz_t45 mz_v45_60 rfl rfl rfl rfl rfl ⟨?_, rfl⟩ ?_
            · refine mz_go 2 (c' := (if xa < 0 then 13 else 4, [some (.ref 60), some (.int xa)], [], w)) rfl ?_
              refine mz_ifF q1 ?_
              refine mz_go 3 (c' := (if 4 ≤ xa then 13 else 9, [some (.ref 60), some (.int xa)], [], w)) rfl ?_
              refine mz_ifF q2 ?_
              refine mz_go 2 (c' := (14, [some (.ref 60), some (.int xa)], [.int 1], w)) rfl ?_
              exact mz_ret rfl
            refine mz_goP 10 (c' := (if 0 ≤ xc then 53 else 47, [some (.ref 0), some (.int xa), some (.int 8), some (.int xc)], [], w)) rfl ?_
            refine mz_ifFP q5 ?_
            refine mz_goP 2 (c' := (49, [some (.ref 0), some (.int xa), some (.int 8), some (.int xc)], [.int 3, .ref 0], w)) rfl ?_
            refine mz_doPQ (R := mz_r109) (as := [.ref 0, .int 3]) (rest := []) (r1 := some (.int (-1000003))) (m1 := mz_up w 64 3 ((w 64 3) + 1)) mz_t109 mz_v109_0 rfl rfl rfl rfl rfl ((cs_err3 (m := w)).deep (by decide)) ?_
            refine mz_retP (r := (some (.int ((-1000003))), mz_up w 64 3 ((w 64 3) + 1))) rfl ⟨(-1000003), rfl, ?_⟩
            refine mz_goP 1 (c' := (1, [some (.ref 65), some (.int xa), some (.int 8), some (.int xc), none], [.int xa], mz_up w 64 3 ((w 64 3) + 1))) rfl ?_
            refine mz_doPQ (R := mz_r219) (as := [.int xa]) (rest := []) (r1 := some (.int 1)) (m1 := mz_up w 64 3 ((w 64 3) + 1)) mz_t219 mz_v219 rfl rfl rfl rfl rfl ⟨?_, rfl⟩ ?_
            · refine mz_go 3 (c' := (3, [some (.int xa)], [.int 3, .int 0, .int xa], mz_up w 64 3 ((w 64 3) + 1))) rfl ?_
              refine mz_doQ (R := mz_r128) (as := [.int xa, .int 0, .int 3]) (rest := []) (r1 := some (.int 1)) (m1 := mz_up w 64 3 ((w 64 3) + 1)) mz_t128 mz_v128 rfl rfl rfl rfl rfl ((ct_in1 (m := mz_up w 64 3 ((w 64 3) + 1)) (v := xa) (a := 0) (b := 3) q1 (by have hl : (0 : Int) ≤ (xa).toInt := Int32.le_iff_toInt_le.mp (Int32.not_lt.mp q1); have hu : (xa).toInt < (4 : Int) := Int32.lt_iff_toInt_lt.mp (Int32.not_le.mp q2); exact Int32.not_lt.mpr (Int32.le_iff_toInt_le.mpr (show (xa).toInt ≤ (3 : Int) by omega)))).deep (by decide)) ?_
              exact mz_ret rfl
            refine mz_goP 10 (c' := (if 0 ≤ xc then 49 else 43, [some (.ref 65), some (.int xa), some (.int 8), some (.int xc), none], [], mz_up w 64 3 ((w 64 3) + 1))) rfl ?_
            refine mz_ifFP q5 ?_
            refine mz_goP 2 (c' := (45, [some (.ref 65), some (.int xa), some (.int 8), some (.int xc), none], [.int 3, .ref 65], mz_up w 64 3 ((w 64 3) + 1))) rfl ?_
            refine mz_doPQ (R := mz_r127) (as := [.ref 65, .int 3]) (rest := []) (r1 := some (.int (-1000003))) (m1 := mz_up (mz_up w 64 3 ((w 64 3) + 1)) 68 3 ((w 68 3) + 1)) mz_t127 mz_v127_65 rfl rfl rfl rfl rfl ((ct_err3 (m := mz_up w 64 3 ((w 64 3) + 1))).deep (by decide)) ?_
            refine mz_retP (r := (some (.int ((-1000003))), mz_up (mz_up w 64 3 ((w 64 3) + 1)) 68 3 ((w 68 3) + 1))) rfl ⟨(-1000003), rfl, ?_, rfl⟩
            show sm_I (n + 1) (mz_up (mz_up w 64 3 ((w 64 3) + 1)) 68 3 ((w 68 3) + 1))
            exact sm_I_scr hn hI2 (fun i hi => by
              have hne : ∀ r, sm_scr r = true → i ≠ r := fun r hr e => by
                rw [e, hr] at hi
                cases hi
              simp only [mz_up_ne (hne 64 rfl), mz_up_ne (hne 68 rfl)]) rfl rfl
        · by_cases q7 : xb = 16
          · subst q7
            by_cases q8 : 0 ≤ xc
            · by_cases q9 : xc ≤ 24
              · obtain ⟨jxa, hjxa, rfl⟩ := nI_of q1
                have zxa0 : ¬ 4 ≤ jxa := fun z => q2 ((nI_leI (by decide) hjxa).mpr z)
                refine mz_goP 3 (c' := (5, [some (.ref 0), some (.int (nI jxa)), some (.int 16), some (.int xc)], [.int (nI jxa), .ref 60], w)) rfl ?_
                refine mz_doPQ (R := mz_r45) (as := [.ref 60, .int (nI jxa)]) (rest := []) (r1 := some (.int 1)) (m1 := w) mz_t45 mz_v45_60 rfl rfl rfl rfl rfl ⟨?_, rfl⟩ ?_
                · refine mz_go 2 (c' := (if (nI jxa) < 0 then 13 else 4, [some (.ref 60), some (.int (nI jxa))], [], w)) rfl ?_
                  refine mz_ifF q1 ?_
                  refine mz_go 3 (c' := (if 4 ≤ (nI jxa) then 13 else 9, [some (.ref 60), some (.int (nI jxa))], [], w)) rfl ?_
                  refine mz_ifF q2 ?_
                  refine mz_go 2 (c' := (14, [some (.ref 60), some (.int (nI jxa))], [.int 1], w)) rfl ?_
                  exact mz_ret rfl
                refine mz_goP 13 (c' := (if 0 ≤ xc then 53 else 47, [some (.ref 0), some (.int (nI jxa)), some (.int 16), some (.int xc)], [], w)) rfl ?_
                refine mz_ifTP q8 ?_
                refine mz_goP 5 (c' := (if xc ≤ 24 then 69 else 63, [some (.ref 0), some (.int (nI jxa)), some (.int 16), some (.int xc)], [], w)) rfl ?_
                refine mz_ifTP q9 ?_
                refine mz_goP 7 (c' := (84, [some (.ref 0), some (.int (nI jxa)), some (.int 16), some (.int xc)], [.int xc, .int 16, .int (nI jxa), .ref 60], w)) rfl ?_
                obtain ⟨zS, hzS, EzS⟩ := cs_layl (m := mz_up (mz_up w 61 jxa 16) 62 jxa xc) (S := jxa) (D := 98) (by omega) 16 xc 24 0 (by omega) ((mz_up (mz_up w 61 jxa 16) 62 jxa xc) 63)
                rw [sm_id] at EzS
                refine mz_doPQ (R := mz_r47) (as := [.ref 60, .int (nI jxa), .int 16, .int xc]) (rest := []) (r1 := none) (m1 := mz_set (mz_up (mz_up w 61 jxa 16) 62 jxa xc) 63 zS) mz_t47 mz_v47_60 rfl rfl rfl rfl rfl ⟨?_, rfl⟩ ?_
                · refine mz_go 2 (c' := (2, [some (.ref 60), some (.int (nI jxa)), some (.int 16), some (.int xc), none], [.int (nI jxa), .ref 60], w)) rfl ?_
                  refine mz_doQ (R := mz_r45) (as := [.ref 60, .int (nI jxa)]) (rest := []) (r1 := some (.int 1)) (m1 := w) mz_t45 mz_v45_60 rfl rfl rfl rfl rfl ⟨?_, rfl⟩ ?_
                  · refine mz_go 2 (c' := (if (nI jxa) < 0 then 13 else 4, [some (.ref 60), some (.int (nI jxa))], [], w)) rfl ?_
                    refine mz_ifF q1 ?_
                    refine mz_go 3 (c' := (if 4 ≤ (nI jxa) then 13 else 9, [some (.ref 60), some (.int (nI jxa))], [], w)) rfl ?_
                    refine mz_ifF q2 ?_
                    refine mz_go 2 (c' := (14, [some (.ref 60), some (.int (nI jxa))], [.int 1], w)) rfl ?_
                    exact mz_ret rfl
                  refine mz_go 4 (c' := (12, [some (.ref 60), some (.int (nI jxa)), some (.int 16), some (.int xc), none], [.int 24, .int 0, .int xc], w)) rfl ?_
                  refine mz_doQ (R := mz_r121) (as := [.int xc, .int 0, .int 24]) (rest := []) (r1 := some (.int 1)) (m1 := w) mz_t121 mz_v121 rfl rfl rfl rfl rfl ((cs_in1 (m := w) (v := xc) (a := 0) (b := 24) (by have hl : (0 : Int) ≤ (xc).toInt := Int32.le_iff_toInt_le.mp q8; have hu : (xc).toInt ≤ (24 : Int) := Int32.le_iff_toInt_le.mp q9; exact Int32.not_lt.mpr (Int32.le_iff_toInt_le.mpr (show (0 : Int) ≤ (xc).toInt by omega))) (by have hl : (0 : Int) ≤ (xc).toInt := Int32.le_iff_toInt_le.mp q8; have hu : (xc).toInt ≤ (24 : Int) := Int32.le_iff_toInt_le.mp q9; exact Int32.not_lt.mpr (Int32.le_iff_toInt_le.mpr (show (xc).toInt ≤ (24 : Int) by omega)))).deep (by decide)) ?_
                  refine mz_go 5 (c' := (24, [some (.ref 60), some (.int (nI jxa)), some (.int 16), some (.int xc), none], [.int 16, .int (nI jxa), .ref 61], w)) rfl ?_
                  refine mz_arr (c' := (25, [some (.ref 60), some (.int (nI jxa)), some (.int 16), some (.int xc), none], [], mz_up w 61 ((nI jxa).toNatClampNeg) 16)) rfl (show mz_in (nI jxa) 4 = true from sm_inN rfl (show jxa < 4 by omega) (by decide)) ?_
                  rw [show (nI jxa : Int32).toNatClampNeg = jxa from sm_clN rfl (show jxa < 2 ^ 31 by omega)]
                  refine mz_go 4 (c' := (31, [some (.ref 60), some (.int (nI jxa)), some (.int 16), some (.int xc), none], [.int xc, .int (nI jxa), .ref 62], mz_up w 61 jxa 16)) rfl ?_
                  refine mz_arr (c' := (32, [some (.ref 60), some (.int (nI jxa)), some (.int 16), some (.int xc), none], [], mz_up (mz_up w 61 jxa 16) 62 ((nI jxa).toNatClampNeg) xc)) rfl (show mz_in (nI jxa) 4 = true from sm_inN rfl (show jxa < 4 by omega) (by decide)) ?_
                  rw [show (nI jxa : Int32).toNatClampNeg = jxa from sm_clN rfl (show jxa < 2 ^ 31 by omega)]
                  refine mz_go 2 (c' := (35, [some (.ref 60), some (.int (nI jxa)), some (.int 16), some (.int xc), some (.int 0)], [], mz_up (mz_up w 61 jxa 16) 62 jxa xc)) rfl ?_
                  refine EzS _ ?_
                  exact mz_ret rfl
                refine mz_goP 1 (c' := (88, [some (.ref 0), some (.int (nI jxa)), some (.int 16), some (.int xc)], [.int 1], mz_set (mz_up (mz_up w 61 jxa 16) 62 jxa xc) 63 zS)) rfl ?_
                refine mz_retP (r := (some (.int (1)), mz_set (mz_up (mz_up w 61 jxa 16) 62 jxa xc) 63 zS)) rfl ⟨1, rfl, ?_⟩
                refine mz_goP 1 (c' := (1, [some (.ref 65), some (.int (nI jxa)), some (.int 16), some (.int xc), none], [.int (nI jxa)], mz_set (mz_up (mz_up w 61 jxa 16) 62 jxa xc) 63 zS)) rfl ?_
                refine mz_doPQ (R := mz_r219) (as := [.int (nI jxa)]) (rest := []) (r1 := some (.int 1)) (m1 := mz_set (mz_up (mz_up w 61 jxa 16) 62 jxa xc) 63 zS) mz_t219 mz_v219 rfl rfl rfl rfl rfl ⟨?_, rfl⟩ ?_
                · refine mz_go 3 (c' := (3, [some (.int (nI jxa))], [.int 3, .int 0, .int (nI jxa)], mz_set (mz_up (mz_up w 61 jxa 16) 62 jxa xc) 63 zS)) rfl ?_
                  refine mz_doQ (R := mz_r128) (as := [.int (nI jxa), .int 0, .int 3]) (rest := []) (r1 := some (.int 1)) (m1 := mz_set (mz_up (mz_up w 61 jxa 16) 62 jxa xc) 63 zS) mz_t128 mz_v128 rfl rfl rfl rfl rfl ((ct_in1 (m := mz_set (mz_up (mz_up w 61 jxa 16) 62 jxa xc) 63 zS) (v := nI jxa) (a := 0) (b := 3) q1 (show ¬ (3 < (nI jxa)) from (sm_nltN rfl rfl (show jxa ≤ 3 by omega) (show 3 < 2 ^ 31 by omega)))).deep (by decide)) ?_
                  exact mz_ret rfl
                refine mz_goP 13 (c' := (if 0 ≤ xc then 49 else 43, [some (.ref 65), some (.int (nI jxa)), some (.int 16), some (.int xc), none], [], mz_set (mz_up (mz_up w 61 jxa 16) 62 jxa xc) 63 zS)) rfl ?_
                refine mz_ifTP q8 ?_
                refine mz_goP 5 (c' := (if xc ≤ 24 then 65 else 59, [some (.ref 65), some (.int (nI jxa)), some (.int 16), some (.int xc), none], [], mz_set (mz_up (mz_up w 61 jxa 16) 62 jxa xc) 63 zS)) rfl ?_
                refine mz_ifTP q9 ?_
                refine mz_goP 4 (c' := (71, [some (.ref 65), some (.int (nI jxa)), some (.int 16), some (.int xc), none], [.int 16, .int (nI jxa), .ref 75], mz_set (mz_up (mz_up w 61 jxa 16) 62 jxa xc) 63 zS)) rfl ?_
                refine mz_arrP (c' := (72, [some (.ref 65), some (.int (nI jxa)), some (.int 16), some (.int xc), none], [], mz_up (mz_set (mz_up (mz_up w 61 jxa 16) 62 jxa xc) 63 zS) 75 ((nI jxa).toNatClampNeg) 16)) rfl (show mz_in (nI jxa) 4 = true from sm_inN rfl (show jxa < 4 by omega) (by decide)) ?_
                rw [show (nI jxa : Int32).toNatClampNeg = jxa from sm_clN rfl (show jxa < 2 ^ 31 by omega)]
                refine mz_goP 6 (c' := (86, [some (.ref 65), some (.int (nI jxa)), some (.int 16), some (.int xc), none], [.int xc, .int (nI jxa), .ref 76], mz_up (mz_set (mz_up (mz_up w 61 jxa 16) 62 jxa xc) 63 zS) 75 jxa 16)) rfl ?_
                refine mz_arrP (c' := (87, [some (.ref 65), some (.int (nI jxa)), some (.int 16), some (.int xc), none], [], mz_up (mz_up (mz_set (mz_up (mz_up w 61 jxa 16) 62 jxa xc) 63 zS) 75 jxa 16) 76 ((nI jxa).toNatClampNeg) xc)) rfl (show mz_in (nI jxa) 4 = true from sm_inN rfl (show jxa < 4 by omega) (by decide)) ?_
                rw [show (nI jxa : Int32).toNatClampNeg = jxa from sm_clN rfl (show jxa < 2 ^ 31 by omega)]
                refine mz_goP 2 (c' := (90, [some (.ref 65), some (.int (nI jxa)), some (.int 16), some (.int xc), some (.int 0)], [], mz_up (mz_up (mz_set (mz_up (mz_up w 61 jxa 16) 62 jxa xc) 63 zS) 75 jxa 16) 76 jxa xc)) rfl ?_
                obtain ⟨zR, hzR, EzR⟩ := ct_layl (m := mz_up (mz_up (mz_set (mz_up (mz_up w 61 jxa 16) 62 jxa xc) 63 zS) 75 jxa 16) 76 jxa xc) (S := jxa) (D := 99) (by omega) 16 xc 24 0 (by omega) ((mz_up (mz_up (mz_set (mz_up (mz_up w 61 jxa 16) 62 jxa xc) 63 zS) 75 jxa 16) 76 jxa xc) 77)
                rw [sm_id] at EzR
                refine mz_hkP EzR ?_
                refine mz_goP 1 (c' := (117, [some (.ref 65), some (.int (nI jxa)), some (.int 16), some (.int xc), some (.int (nI 24))], [.int 1], mz_set (mz_up (mz_up (mz_set (mz_up (mz_up w 61 jxa 16) 62 jxa xc) 63 zS) 75 jxa 16) 76 jxa xc) 77 zR)) rfl ?_
                refine mz_retP (r := (some (.int (1)), mz_set (mz_up (mz_up (mz_set (mz_up (mz_up w 61 jxa 16) 62 jxa xc) 63 zS) 75 jxa 16) 76 jxa xc) 77 zR)) rfl ⟨1, rfl, ?_, rfl⟩
                show sm_I (n + 1) (mz_set (mz_up (mz_up (mz_set (mz_up (mz_up w 61 jxa 16) 62 jxa xc) 63 zS) 75 jxa 16) 76 jxa xc) 77 zR)
                obtain ⟨-, ⟨d1, d2, d3, ⟨d4, d4b, d4c⟩, d5, d6, d7, d8⟩, da, db, dc⟩ := hI2
                exact ⟨hn, ⟨d1, d2, d3, ⟨d4, d4b, d4c⟩, d5, d6, d7, d8⟩, (sm_sheeted (S := jxa) (x := 16) (y := xc) da (by decide) (sm_N_of (n := 24) (by decide) (by have hl : (0 : Int) ≤ (xc).toInt := Int32.le_iff_toInt_le.mp q8; have hu : (xc).toInt ≤ (24 : Int) := Int32.le_iff_toInt_le.mp q9; exact Int32.not_lt.mpr (Int32.le_iff_toInt_le.mpr (show (0 : Int) ≤ (xc).toInt by omega))) (by have hl : (0 : Int) ≤ (xc).toInt := Int32.le_iff_toInt_le.mp q8; have hu : (xc).toInt ≤ (24 : Int) := Int32.le_iff_toInt_le.mp q9; exact Int32.not_lt.mpr (Int32.le_iff_toInt_le.mpr (show (xc).toInt ≤ (24 : Int) by omega)))) (fun i => by rw [mz_set_ne (show (61 : Nat) ≠ 77 by decide), mz_up_ne (show (61 : Nat) ≠ 76 by decide), mz_up_ne (show (61 : Nat) ≠ 75 by decide), mz_set_ne (show (61 : Nat) ≠ 63 by decide), mz_up_ne (show (61 : Nat) ≠ 62 by decide), mz_up_eq]) (fun i => by rw [mz_set_ne (show (62 : Nat) ≠ 77 by decide), mz_up_ne (show (62 : Nat) ≠ 76 by decide), mz_up_ne (show (62 : Nat) ≠ 75 by decide), mz_set_ne (show (62 : Nat) ≠ 63 by decide), mz_up_eq, mz_up_ne (show (62 : Nat) ≠ 61 by decide)]) (fun i => by rw [mz_set_ne (show (75 : Nat) ≠ 77 by decide), mz_up_ne (show (75 : Nat) ≠ 76 by decide), mz_up_eq, mz_set_ne (show (75 : Nat) ≠ 63 by decide), mz_up_ne (show (75 : Nat) ≠ 62 by decide), mz_up_ne (show (75 : Nat) ≠ 61 by decide)]) (fun i => by rw [mz_set_ne (show (76 : Nat) ≠ 77 by decide), mz_up_eq, mz_up_ne (show (76 : Nat) ≠ 75 by decide), mz_set_ne (show (76 : Nat) ≠ 63 by decide), mz_up_ne (show (76 : Nat) ≠ 62 by decide), mz_up_ne (show (76 : Nat) ≠ 61 by decide)]) hzS hzR), db, sm_cc_of (fun i h1 h2 => by simp only [mz_set_ne (show i ≠ 63 by omega), mz_set_ne (show i ≠ 77 by omega), mz_up_ne (show i ≠ 61 by omega), mz_up_ne (show i ≠ 62 by omega), mz_up_ne (show i ≠ 75 by omega), mz_up_ne (show i ≠ 76 by omega)]) dc⟩
              · refine mz_goP 3 (c' := (5, [some (.ref 0), some (.int xa), some (.int 16), some (.int xc)], [.int xa, .ref 60], w)) rfl ?_
                refine mz_doPQ (R := mz_r45) (as := [.ref 60, .int xa]) (rest := []) (r1 := some (.int 1)) (m1 := w) mz_t45 mz_v45_60 rfl rfl rfl rfl rfl ⟨?_, rfl⟩ ?_
                · refine mz_go 2 (c' := (if xa < 0 then 13 else 4, [some (.ref 60), some (.int xa)], [], w)) rfl ?_
                  refine mz_ifF q1 ?_
                  refine mz_go 3 (c' := (if 4 ≤ xa then 13 else 9, [some (.ref 60), some (.int xa)], [], w)) rfl ?_
                  refine mz_ifF q2 ?_
                  refine mz_go 2 (c' := (14, [some (.ref 60), some (.int xa)], [.int 1], w)) rfl ?_
                  exact mz_ret rfl
                refine mz_goP 13 (c' := (if 0 ≤ xc then 53 else 47, [some (.ref 0), some (.int xa), some (.int 16), some (.int xc)], [], w)) rfl ?_
                refine mz_ifTP q8 ?_
                refine mz_goP 5 (c' := (if xc ≤ 24 then 69 else 63, [some (.ref 0), some (.int xa), some (.int 16), some (.int xc)], [], w)) rfl ?_
                refine mz_ifFP q9 ?_
                refine mz_goP 2 (c' := (65, [some (.ref 0), some (.int xa), some (.int 16), some (.int xc)], [.int 1, .ref 0], w)) rfl ?_
                refine mz_doPQ (R := mz_r109) (as := [.ref 0, .int 1]) (rest := []) (r1 := some (.int (-1000001))) (m1 := mz_up w 64 1 ((w 64 1) + 1)) mz_t109 mz_v109_0 rfl rfl rfl rfl rfl ((cs_err1 (m := w)).deep (by decide)) ?_
                refine mz_retP (r := (some (.int ((-1000001))), mz_up w 64 1 ((w 64 1) + 1))) rfl ⟨(-1000001), rfl, ?_⟩
                refine mz_goP 1 (c' := (1, [some (.ref 65), some (.int xa), some (.int 16), some (.int xc), none], [.int xa], mz_up w 64 1 ((w 64 1) + 1))) rfl ?_
                refine mz_doPQ (R := mz_r219) (as := [.int xa]) (rest := []) (r1 := some (.int 1)) (m1 := mz_up w 64 1 ((w 64 1) + 1)) mz_t219 mz_v219 rfl rfl rfl rfl rfl ⟨?_, rfl⟩ ?_
                · refine mz_go 3 (c' := (3, [some (.int xa)], [.int 3, .int 0, .int xa], mz_up w 64 1 ((w 64 1) + 1))) rfl ?_
                  refine mz_doQ (R := mz_r128) (as := [.int xa, .int 0, .int 3]) (rest := []) (r1 := some (.int 1)) (m1 := mz_up w 64 1 ((w 64 1) + 1)) mz_t128 mz_v128 rfl rfl rfl rfl rfl ((ct_in1 (m := mz_up w 64 1 ((w 64 1) + 1)) (v := xa) (a := 0) (b := 3) q1 (by have hl : (0 : Int) ≤ (xa).toInt := Int32.le_iff_toInt_le.mp (Int32.not_lt.mp q1); have hu : (xa).toInt < (4 : Int) := Int32.lt_iff_toInt_lt.mp (Int32.not_le.mp q2); exact Int32.not_lt.mpr (Int32.le_iff_toInt_le.mpr (show (xa).toInt ≤ (3 : Int) by omega)))).deep (by decide)) ?_
                  exact mz_ret rfl
                refine mz_goP 13 (c' := (if 0 ≤ xc then 49 else 43, [some (.ref 65), some (.int xa), some (.int 16), some (.int xc), none], [], mz_up w 64 1 ((w 64 1) + 1))) rfl ?_
                refine mz_ifTP q8 ?_
                refine mz_goP 5 (c' := (if xc ≤ 24 then 65 else 59, [some (.ref 65), some (.int xa), some (.int 16), some (.int xc), none], [], mz_up w 64 1 ((w 64 1) + 1))) rfl ?_
                refine mz_ifFP q9 ?_
                refine mz_goP 2 (c' := (61, [some (.ref 65), some (.int xa), some (.int 16), some (.int xc), none], [.int 1, .ref 65], mz_up w 64 1 ((w 64 1) + 1))) rfl ?_
                refine mz_doPQ (R := mz_r127) (as := [.ref 65, .int 1]) (rest := []) (r1 := some (.int (-1000001))) (m1 := mz_up (mz_up w 64 1 ((w 64 1) + 1)) 68 1 ((w 68 1) + 1)) mz_t127 mz_v127_65 rfl rfl rfl rfl rfl ((ct_err1 (m := mz_up w 64 1 ((w 64 1) + 1))).deep (by decide)) ?_
                refine mz_retP (r := (some (.int ((-1000001))), mz_up (mz_up w 64 1 ((w 64 1) + 1)) 68 1 ((w 68 1) + 1))) rfl ⟨(-1000001), rfl, ?_, rfl⟩
                show sm_I (n + 1) (mz_up (mz_up w 64 1 ((w 64 1) + 1)) 68 1 ((w 68 1) + 1))
                exact sm_I_scr hn hI2 (fun i hi => by
                  have hne : ∀ r, sm_scr r = true → i ≠ r := fun r hr e => by
                    rw [e, hr] at hi
                    cases hi
                  simp only [mz_up_ne (hne 64 rfl), mz_up_ne (hne 68 rfl)]) rfl rfl
            · refine mz_goP 3 (c' := (5, [some (.ref 0), some (.int xa), some (.int 16), some (.int xc)], [.int xa, .ref 60], w)) rfl ?_
              refine mz_doPQ (R := mz_r45) (as := [.ref 60, .int xa]) (rest := []) (r1 := some (.int 1)) (m1 := w) mz_t45 mz_v45_60 rfl rfl rfl rfl rfl ⟨?_, rfl⟩ ?_
              · refine mz_go 2 (c' := (if xa < 0 then 13 else 4, [some (.ref 60), some (.int xa)], [], w)) rfl ?_
                refine mz_ifF q1 ?_
                refine mz_go 3 (c' := (if 4 ≤ xa then 13 else 9, [some (.ref 60), some (.int xa)], [], w)) rfl ?_
                refine mz_ifF q2 ?_
                refine mz_go 2 (c' := (14, [some (.ref 60), some (.int xa)], [.int 1], w)) rfl ?_
                exact mz_ret rfl
              refine mz_goP 13 (c' := (if 0 ≤ xc then 53 else 47, [some (.ref 0), some (.int xa), some (.int 16), some (.int xc)], [], w)) rfl ?_
              refine mz_ifFP q8 ?_
              refine mz_goP 2 (c' := (49, [some (.ref 0), some (.int xa), some (.int 16), some (.int xc)], [.int 3, .ref 0], w)) rfl ?_
              refine mz_doPQ (R := mz_r109) (as := [.ref 0, .int 3]) (rest := []) (r1 := some (.int (-1000003))) (m1 := mz_up w 64 3 ((w 64 3) + 1)) mz_t109 mz_v109_0 rfl rfl rfl rfl rfl ((cs_err3 (m := w)).deep (by decide)) ?_
              refine mz_retP (r := (some (.int ((-1000003))), mz_up w 64 3 ((w 64 3) + 1))) rfl ⟨(-1000003), rfl, ?_⟩
              refine mz_goP 1 (c' := (1, [some (.ref 65), some (.int xa), some (.int 16), some (.int xc), none], [.int xa], mz_up w 64 3 ((w 64 3) + 1))) rfl ?_
              refine mz_doPQ (R := mz_r219) (as := [.int xa]) (rest := []) (r1 := some (.int 1)) (m1 := mz_up w 64 3 ((w 64 3) + 1)) mz_t219 mz_v219 rfl rfl rfl rfl rfl ⟨?_, rfl⟩ ?_
              · refine mz_go 3 (c' := (3, [some (.int xa)], [.int 3, .int 0, .int xa], mz_up w 64 3 ((w 64 3) + 1))) rfl ?_
                refine mz_doQ (R := mz_r128) (as := [.int xa, .int 0, .int 3]) (rest := []) (r1 := some (.int 1)) (m1 := mz_up w 64 3 ((w 64 3) + 1)) mz_t128 mz_v128 rfl rfl rfl rfl rfl ((ct_in1 (m := mz_up w 64 3 ((w 64 3) + 1)) (v := xa) (a := 0) (b := 3) q1 (by have hl : (0 : Int) ≤ (xa).toInt := Int32.le_iff_toInt_le.mp (Int32.not_lt.mp q1); have hu : (xa).toInt < (4 : Int) := Int32.lt_iff_toInt_lt.mp (Int32.not_le.mp q2); exact Int32.not_lt.mpr (Int32.le_iff_toInt_le.mpr (show (xa).toInt ≤ (3 : Int) by omega)))).deep (by decide)) ?_
                exact mz_ret rfl
              refine mz_goP 13 (c' := (if 0 ≤ xc then 49 else 43, [some (.ref 65), some (.int xa), some (.int 16), some (.int xc), none], [], mz_up w 64 3 ((w 64 3) + 1))) rfl ?_
              refine mz_ifFP q8 ?_
              refine mz_goP 2 (c' := (45, [some (.ref 65), some (.int xa), some (.int 16), some (.int xc), none], [.int 3, .ref 65], mz_up w 64 3 ((w 64 3) + 1))) rfl ?_
              refine mz_doPQ (R := mz_r127) (as := [.ref 65, .int 3]) (rest := []) (r1 := some (.int (-1000003))) (m1 := mz_up (mz_up w 64 3 ((w 64 3) + 1)) 68 3 ((w 68 3) + 1)) mz_t127 mz_v127_65 rfl rfl rfl rfl rfl ((ct_err3 (m := mz_up w 64 3 ((w 64 3) + 1))).deep (by decide)) ?_
              refine mz_retP (r := (some (.int ((-1000003))), mz_up (mz_up w 64 3 ((w 64 3) + 1)) 68 3 ((w 68 3) + 1))) rfl ⟨(-1000003), rfl, ?_, rfl⟩
              show sm_I (n + 1) (mz_up (mz_up w 64 3 ((w 64 3) + 1)) 68 3 ((w 68 3) + 1))
              exact sm_I_scr hn hI2 (fun i hi => by
                have hne : ∀ r, sm_scr r = true → i ≠ r := fun r hr e => by
                  rw [e, hr] at hi
                  cases hi
                simp only [mz_up_ne (hne 64 rfl), mz_up_ne (hne 68 rfl)]) rfl rfl
          · by_cases q10 : xb = 32
            · subst q10
              by_cases q11 : 0 ≤ xc
              · by_cases q12 : xc ≤ 24
                · obtain ⟨jxa, hjxa, rfl⟩ := nI_of q1
                  have zxa0 : ¬ 4 ≤ jxa := fun z => q2 ((nI_leI (by decide) hjxa).mpr z)
                  refine mz_goP 3 (c' := (5, [some (.ref 0), some (.int (nI jxa)), some (.int 32), some (.int xc)], [.int (nI jxa), .ref 60], w)) rfl ?_
                  refine mz_doPQ (R := mz_r45) (as := [.ref 60, .int (nI jxa)]) (rest := []) (r1 := some (.int 1)) (m1 := w) mz_t45 mz_v45_60 rfl rfl rfl rfl rfl ⟨?_, rfl⟩ ?_
                  · refine mz_go 2 (c' := (if (nI jxa) < 0 then 13 else 4, [some (.ref 60), some (.int (nI jxa))], [], w)) rfl ?_
                    refine mz_ifF q1 ?_
                    refine mz_go 3 (c' := (if 4 ≤ (nI jxa) then 13 else 9, [some (.ref 60), some (.int (nI jxa))], [], w)) rfl ?_
                    refine mz_ifF q2 ?_
                    refine mz_go 2 (c' := (14, [some (.ref 60), some (.int (nI jxa))], [.int 1], w)) rfl ?_
                    exact mz_ret rfl
                  refine mz_goP 16 (c' := (if 0 ≤ xc then 53 else 47, [some (.ref 0), some (.int (nI jxa)), some (.int 32), some (.int xc)], [], w)) rfl ?_
                  refine mz_ifTP q11 ?_
                  refine mz_goP 5 (c' := (if xc ≤ 24 then 69 else 63, [some (.ref 0), some (.int (nI jxa)), some (.int 32), some (.int xc)], [], w)) rfl ?_
                  refine mz_ifTP q12 ?_
                  refine mz_goP 7 (c' := (84, [some (.ref 0), some (.int (nI jxa)), some (.int 32), some (.int xc)], [.int xc, .int 32, .int (nI jxa), .ref 60], w)) rfl ?_
                  obtain ⟨zS, hzS, EzS⟩ := cs_layl (m := mz_up (mz_up w 61 jxa 32) 62 jxa xc) (S := jxa) (D := 98) (by omega) 32 xc 24 0 (by omega) ((mz_up (mz_up w 61 jxa 32) 62 jxa xc) 63)
                  rw [sm_id] at EzS
                  refine mz_doPQ (R := mz_r47) (as := [.ref 60, .int (nI jxa), .int 32, .int xc]) (rest := []) (r1 := none) (m1 := mz_set (mz_up (mz_up w 61 jxa 32) 62 jxa xc) 63 zS) mz_t47 mz_v47_60 rfl rfl rfl rfl rfl ⟨?_, rfl⟩ ?_
                  · refine mz_go 2 (c' := (2, [some (.ref 60), some (.int (nI jxa)), some (.int 32), some (.int xc), none], [.int (nI jxa), .ref 60], w)) rfl ?_
                    refine mz_doQ (R := mz_r45) (as := [.ref 60, .int (nI jxa)]) (rest := []) (r1 := some (.int 1)) (m1 := w) mz_t45 mz_v45_60 rfl rfl rfl rfl rfl ⟨?_, rfl⟩ ?_
                    · refine mz_go 2 (c' := (if (nI jxa) < 0 then 13 else 4, [some (.ref 60), some (.int (nI jxa))], [], w)) rfl ?_
                      refine mz_ifF q1 ?_
                      refine mz_go 3 (c' := (if 4 ≤ (nI jxa) then 13 else 9, [some (.ref 60), some (.int (nI jxa))], [], w)) rfl ?_
                      refine mz_ifF q2 ?_
                      refine mz_go 2 (c' := (14, [some (.ref 60), some (.int (nI jxa))], [.int 1], w)) rfl ?_
                      exact mz_ret rfl
                    refine mz_go 4 (c' := (12, [some (.ref 60), some (.int (nI jxa)), some (.int 32), some (.int xc), none], [.int 24, .int 0, .int xc], w)) rfl ?_
                    refine mz_doQ (R := mz_r121) (as := [.int xc, .int 0, .int 24]) (rest := []) (r1 := some (.int 1)) (m1 := w) mz_t121 mz_v121 rfl rfl rfl rfl rfl ((cs_in1 (m := w) (v := xc) (a := 0) (b := 24) (by have hl : (0 : Int) ≤ (xc).toInt := Int32.le_iff_toInt_le.mp q11; have hu : (xc).toInt ≤ (24 : Int) := Int32.le_iff_toInt_le.mp q12; exact Int32.not_lt.mpr (Int32.le_iff_toInt_le.mpr (show (0 : Int) ≤ (xc).toInt by omega))) (by have hl : (0 : Int) ≤ (xc).toInt := Int32.le_iff_toInt_le.mp q11; have hu : (xc).toInt ≤ (24 : Int) := Int32.le_iff_toInt_le.mp q12; exact Int32.not_lt.mpr (Int32.le_iff_toInt_le.mpr (show (xc).toInt ≤ (24 : Int) by omega)))).deep (by decide)) ?_
                    refine mz_go 5 (c' := (24, [some (.ref 60), some (.int (nI jxa)), some (.int 32), some (.int xc), none], [.int 32, .int (nI jxa), .ref 61], w)) rfl ?_
                    refine mz_arr (c' := (25, [some (.ref 60), some (.int (nI jxa)), some (.int 32), some (.int xc), none], [], mz_up w 61 ((nI jxa).toNatClampNeg) 32)) rfl (show mz_in (nI jxa) 4 = true from sm_inN rfl (show jxa < 4 by omega) (by decide)) ?_
                    rw [show (nI jxa : Int32).toNatClampNeg = jxa from sm_clN rfl (show jxa < 2 ^ 31 by omega)]
                    refine mz_go 4 (c' := (31, [some (.ref 60), some (.int (nI jxa)), some (.int 32), some (.int xc), none], [.int xc, .int (nI jxa), .ref 62], mz_up w 61 jxa 32)) rfl ?_
                    refine mz_arr (c' := (32, [some (.ref 60), some (.int (nI jxa)), some (.int 32), some (.int xc), none], [], mz_up (mz_up w 61 jxa 32) 62 ((nI jxa).toNatClampNeg) xc)) rfl (show mz_in (nI jxa) 4 = true from sm_inN rfl (show jxa < 4 by omega) (by decide)) ?_
                    rw [show (nI jxa : Int32).toNatClampNeg = jxa from sm_clN rfl (show jxa < 2 ^ 31 by omega)]
                    refine mz_go 2 (c' := (35, [some (.ref 60), some (.int (nI jxa)), some (.int 32), some (.int xc), some (.int 0)], [], mz_up (mz_up w 61 jxa 32) 62 jxa xc)) rfl ?_
                    refine EzS _ ?_
                    exact mz_ret rfl
                  refine mz_goP 1 (c' := (88, [some (.ref 0), some (.int (nI jxa)), some (.int 32), some (.int xc)], [.int 1], mz_set (mz_up (mz_up w 61 jxa 32) 62 jxa xc) 63 zS)) rfl ?_
                  refine mz_retP (r := (some (.int (1)), mz_set (mz_up (mz_up w 61 jxa 32) 62 jxa xc) 63 zS)) rfl ⟨1, rfl, ?_⟩
                  refine mz_goP 1 (c' := (1, [some (.ref 65), some (.int (nI jxa)), some (.int 32), some (.int xc), none], [.int (nI jxa)], mz_set (mz_up (mz_up w 61 jxa 32) 62 jxa xc) 63 zS)) rfl ?_
                  refine mz_doPQ (R := mz_r219) (as := [.int (nI jxa)]) (rest := []) (r1 := some (.int 1)) (m1 := mz_set (mz_up (mz_up w 61 jxa 32) 62 jxa xc) 63 zS) mz_t219 mz_v219 rfl rfl rfl rfl rfl ⟨?_, rfl⟩ ?_
                  · refine mz_go 3 (c' := (3, [some (.int (nI jxa))], [.int 3, .int 0, .int (nI jxa)], mz_set (mz_up (mz_up w 61 jxa 32) 62 jxa xc) 63 zS)) rfl ?_
                    refine mz_doQ (R := mz_r128) (as := [.int (nI jxa), .int 0, .int 3]) (rest := []) (r1 := some (.int 1)) (m1 := mz_set (mz_up (mz_up w 61 jxa 32) 62 jxa xc) 63 zS) mz_t128 mz_v128 rfl rfl rfl rfl rfl ((ct_in1 (m := mz_set (mz_up (mz_up w 61 jxa 32) 62 jxa xc) 63 zS) (v := nI jxa) (a := 0) (b := 3) q1 (show ¬ (3 < (nI jxa)) from (sm_nltN rfl rfl (show jxa ≤ 3 by omega) (show 3 < 2 ^ 31 by omega)))).deep (by decide)) ?_
                    exact mz_ret rfl
                  refine mz_goP 16 (c' := (if 0 ≤ xc then 49 else 43, [some (.ref 65), some (.int (nI jxa)), some (.int 32), some (.int xc), none], [], mz_set (mz_up (mz_up w 61 jxa 32) 62 jxa xc) 63 zS)) rfl ?_
                  refine mz_ifTP q11 ?_
                  refine mz_goP 5 (c' := (if xc ≤ 24 then 65 else 59, [some (.ref 65), some (.int (nI jxa)), some (.int 32), some (.int xc), none], [], mz_set (mz_up (mz_up w 61 jxa 32) 62 jxa xc) 63 zS)) rfl ?_
                  refine mz_ifTP q12 ?_
                  refine mz_goP 4 (c' := (71, [some (.ref 65), some (.int (nI jxa)), some (.int 32), some (.int xc), none], [.int 32, .int (nI jxa), .ref 75], mz_set (mz_up (mz_up w 61 jxa 32) 62 jxa xc) 63 zS)) rfl ?_
                  refine mz_arrP (c' := (72, [some (.ref 65), some (.int (nI jxa)), some (.int 32), some (.int xc), none], [], mz_up (mz_set (mz_up (mz_up w 61 jxa 32) 62 jxa xc) 63 zS) 75 ((nI jxa).toNatClampNeg) 32)) rfl (show mz_in (nI jxa) 4 = true from sm_inN rfl (show jxa < 4 by omega) (by decide)) ?_
                  rw [show (nI jxa : Int32).toNatClampNeg = jxa from sm_clN rfl (show jxa < 2 ^ 31 by omega)]
                  refine mz_goP 6 (c' := (86, [some (.ref 65), some (.int (nI jxa)), some (.int 32), some (.int xc), none], [.int xc, .int (nI jxa), .ref 76], mz_up (mz_set (mz_up (mz_up w 61 jxa 32) 62 jxa xc) 63 zS) 75 jxa 32)) rfl ?_
                  refine mz_arrP (c' := (87, [some (.ref 65), some (.int (nI jxa)), some (.int 32), some (.int xc), none], [], mz_up (mz_up (mz_set (mz_up (mz_up w 61 jxa 32) 62 jxa xc) 63 zS) 75 jxa 32) 76 ((nI jxa).toNatClampNeg) xc)) rfl (show mz_in (nI jxa) 4 = true from sm_inN rfl (show jxa < 4 by omega) (by decide)) ?_
                  rw [show (nI jxa : Int32).toNatClampNeg = jxa from sm_clN rfl (show jxa < 2 ^ 31 by omega)]
                  refine mz_goP 2 (c' := (90, [some (.ref 65), some (.int (nI jxa)), some (.int 32), some (.int xc), some (.int 0)], [], mz_up (mz_up (mz_set (mz_up (mz_up w 61 jxa 32) 62 jxa xc) 63 zS) 75 jxa 32) 76 jxa xc)) rfl ?_
                  obtain ⟨zR, hzR, EzR⟩ := ct_layl (m := mz_up (mz_up (mz_set (mz_up (mz_up w 61 jxa 32) 62 jxa xc) 63 zS) 75 jxa 32) 76 jxa xc) (S := jxa) (D := 99) (by omega) 32 xc 24 0 (by omega) ((mz_up (mz_up (mz_set (mz_up (mz_up w 61 jxa 32) 62 jxa xc) 63 zS) 75 jxa 32) 76 jxa xc) 77)
                  rw [sm_id] at EzR
                  refine mz_hkP EzR ?_
                  refine mz_goP 1 (c' := (117, [some (.ref 65), some (.int (nI jxa)), some (.int 32), some (.int xc), some (.int (nI 24))], [.int 1], mz_set (mz_up (mz_up (mz_set (mz_up (mz_up w 61 jxa 32) 62 jxa xc) 63 zS) 75 jxa 32) 76 jxa xc) 77 zR)) rfl ?_
                  refine mz_retP (r := (some (.int (1)), mz_set (mz_up (mz_up (mz_set (mz_up (mz_up w 61 jxa 32) 62 jxa xc) 63 zS) 75 jxa 32) 76 jxa xc) 77 zR)) rfl ⟨1, rfl, ?_, rfl⟩
                  show sm_I (n + 1) (mz_set (mz_up (mz_up (mz_set (mz_up (mz_up w 61 jxa 32) 62 jxa xc) 63 zS) 75 jxa 32) 76 jxa xc) 77 zR)
                  obtain ⟨-, ⟨d1, d2, d3, ⟨d4, d4b, d4c⟩, d5, d6, d7, d8⟩, da, db, dc⟩ := hI2
                  exact ⟨hn, ⟨d1, d2, d3, ⟨d4, d4b, d4c⟩, d5, d6, d7, d8⟩, (sm_sheeted (S := jxa) (x := 32) (y := xc) da (by decide) (sm_N_of (n := 24) (by decide) (by have hl : (0 : Int) ≤ (xc).toInt := Int32.le_iff_toInt_le.mp q11; have hu : (xc).toInt ≤ (24 : Int) := Int32.le_iff_toInt_le.mp q12; exact Int32.not_lt.mpr (Int32.le_iff_toInt_le.mpr (show (0 : Int) ≤ (xc).toInt by omega))) (by have hl : (0 : Int) ≤ (xc).toInt := Int32.le_iff_toInt_le.mp q11; have hu : (xc).toInt ≤ (24 : Int) := Int32.le_iff_toInt_le.mp q12; exact Int32.not_lt.mpr (Int32.le_iff_toInt_le.mpr (show (xc).toInt ≤ (24 : Int) by omega)))) (fun i => by rw [mz_set_ne (show (61 : Nat) ≠ 77 by decide), mz_up_ne (show (61 : Nat) ≠ 76 by decide), mz_up_ne (show (61 : Nat) ≠ 75 by decide), mz_set_ne (show (61 : Nat) ≠ 63 by decide), mz_up_ne (show (61 : Nat) ≠ 62 by decide), mz_up_eq]) (fun i => by rw [mz_set_ne (show (62 : Nat) ≠ 77 by decide), mz_up_ne (show (62 : Nat) ≠ 76 by decide), mz_up_ne (show (62 : Nat) ≠ 75 by decide), mz_set_ne (show (62 : Nat) ≠ 63 by decide), mz_up_eq, mz_up_ne (show (62 : Nat) ≠ 61 by decide)]) (fun i => by rw [mz_set_ne (show (75 : Nat) ≠ 77 by decide), mz_up_ne (show (75 : Nat) ≠ 76 by decide), mz_up_eq, mz_set_ne (show (75 : Nat) ≠ 63 by decide), mz_up_ne (show (75 : Nat) ≠ 62 by decide), mz_up_ne (show (75 : Nat) ≠ 61 by decide)]) (fun i => by rw [mz_set_ne (show (76 : Nat) ≠ 77 by decide), mz_up_eq, mz_up_ne (show (76 : Nat) ≠ 75 by decide), mz_set_ne (show (76 : Nat) ≠ 63 by decide), mz_up_ne (show (76 : Nat) ≠ 62 by decide), mz_up_ne (show (76 : Nat) ≠ 61 by decide)]) hzS hzR), db, sm_cc_of (fun i h1 h2 => by simp only [mz_set_ne (show i ≠ 63 by omega), mz_set_ne (show i ≠ 77 by omega), mz_up_ne (show i ≠ 61 by omega), mz_up_ne (show i ≠ 62 by omega), mz_up_ne (show i ≠ 75 by omega), mz_up_ne (show i ≠ 76 by omega)]) dc⟩
                · refine mz_goP 3 (c' := (5, [some (.ref 0), some (.int xa), some (.int 32), some (.int xc)], [.int xa, .ref 60], w)) rfl ?_
                  refine mz_doPQ (R := mz_r45) (as := [.ref 60, .int xa]) (rest := []) (r1 := some (.int 1)) (m1 := w) mz_t45 mz_v45_60 rfl rfl rfl rfl rfl ⟨?_, rfl⟩ ?_
                  · refine mz_go 2 (c' := (if xa < 0 then 13 else 4, [some (.ref 60), some (.int xa)], [], w)) rfl ?_
                    refine mz_ifF q1 ?_
                    refine mz_go 3 (c' := (if 4 ≤ xa then 13 else 9, [some (.ref 60), some (.int xa)], [], w)) rfl ?_
                    refine mz_ifF q2 ?_
                    refine mz_go 2 (c' := (14, [some (.ref 60), some (.int xa)], [.int 1], w)) rfl ?_
                    exact mz_ret rfl
                  refine mz_goP 16 (c' := (if 0 ≤ xc then 53 else 47, [some (.ref 0), some (.int xa), some (.int 32), some (.int xc)], [], w)) rfl ?_
                  refine mz_ifTP q11 ?_
                  refine mz_goP 5 (c' := (if xc ≤ 24 then 69 else 63, [some (.ref 0), some (.int xa), some (.int 32), some (.int xc)], [], w)) rfl ?_
                  refine mz_ifFP q12 ?_
                  refine mz_goP 2 (c' := (65, [some (.ref 0), some (.int xa), some (.int 32), some (.int xc)], [.int 1, .ref 0], w)) rfl ?_
                  refine mz_doPQ (R := mz_r109) (as := [.ref 0, .int 1]) (rest := []) (r1 := some (.int (-1000001))) (m1 := mz_up w 64 1 ((w 64 1) + 1)) mz_t109 mz_v109_0 rfl rfl rfl rfl rfl ((cs_err1 (m := w)).deep (by decide)) ?_
                  refine mz_retP (r := (some (.int ((-1000001))), mz_up w 64 1 ((w 64 1) + 1))) rfl ⟨(-1000001), rfl, ?_⟩
                  refine mz_goP 1 (c' := (1, [some (.ref 65), some (.int xa), some (.int 32), some (.int xc), none], [.int xa], mz_up w 64 1 ((w 64 1) + 1))) rfl ?_
                  refine mz_doPQ (R := mz_r219) (as := [.int xa]) (rest := []) (r1 := some (.int 1)) (m1 := mz_up w 64 1 ((w 64 1) + 1)) mz_t219 mz_v219 rfl rfl rfl rfl rfl ⟨?_, rfl⟩ ?_
                  · refine mz_go 3 (c' := (3, [some (.int xa)], [.int 3, .int 0, .int xa], mz_up w 64 1 ((w 64 1) + 1))) rfl ?_
                    refine mz_doQ (R := mz_r128) (as := [.int xa, .int 0, .int 3]) (rest := []) (r1 := some (.int 1)) (m1 := mz_up w 64 1 ((w 64 1) + 1)) mz_t128 mz_v128 rfl rfl rfl rfl rfl ((ct_in1 (m := mz_up w 64 1 ((w 64 1) + 1)) (v := xa) (a := 0) (b := 3) q1 (by have hl : (0 : Int) ≤ (xa).toInt := Int32.le_iff_toInt_le.mp (Int32.not_lt.mp q1); have hu : (xa).toInt < (4 : Int) := Int32.lt_iff_toInt_lt.mp (Int32.not_le.mp q2); exact Int32.not_lt.mpr (Int32.le_iff_toInt_le.mpr (show (xa).toInt ≤ (3 : Int) by omega)))).deep (by decide)) ?_
                    exact mz_ret rfl
                  refine mz_goP 16 (c' := (if 0 ≤ xc then 49 else 43, [some (.ref 65), some (.int xa), some (.int 32), some (.int xc), none], [], mz_up w 64 1 ((w 64 1) + 1))) rfl ?_
                  refine mz_ifTP q11 ?_
                  refine mz_goP 5 (c' := (if xc ≤ 24 then 65 else 59, [some (.ref 65), some (.int xa), some (.int 32), some (.int xc), none], [], mz_up w 64 1 ((w 64 1) + 1))) rfl ?_
                  refine mz_ifFP q12 ?_
                  refine mz_goP 2 (c' := (61, [some (.ref 65), some (.int xa), some (.int 32), some (.int xc), none], [.int 1, .ref 65], mz_up w 64 1 ((w 64 1) + 1))) rfl ?_
                  refine mz_doPQ (R := mz_r127) (as := [.ref 65, .int 1]) (rest := []) (r1 := some (.int (-1000001))) (m1 := mz_up (mz_up w 64 1 ((w 64 1) + 1)) 68 1 ((w 68 1) + 1)) mz_t127 mz_v127_65 rfl rfl rfl rfl rfl ((ct_err1 (m := mz_up w 64 1 ((w 64 1) + 1))).deep (by decide)) ?_
                  refine mz_retP (r := (some (.int ((-1000001))), mz_up (mz_up w 64 1 ((w 64 1) + 1)) 68 1 ((w 68 1) + 1))) rfl ⟨(-1000001), rfl, ?_, rfl⟩
                  show sm_I (n + 1) (mz_up (mz_up w 64 1 ((w 64 1) + 1)) 68 1 ((w 68 1) + 1))
                  exact sm_I_scr hn hI2 (fun i hi => by
                    have hne : ∀ r, sm_scr r = true → i ≠ r := fun r hr e => by
                      rw [e, hr] at hi
                      cases hi
                    simp only [mz_up_ne (hne 64 rfl), mz_up_ne (hne 68 rfl)]) rfl rfl
              · refine mz_goP 3 (c' := (5, [some (.ref 0), some (.int xa), some (.int 32), some (.int xc)], [.int xa, .ref 60], w)) rfl ?_
                refine mz_doPQ (R := mz_r45) (as := [.ref 60, .int xa]) (rest := []) (r1 := some (.int 1)) (m1 := w) mz_t45 mz_v45_60 rfl rfl rfl rfl rfl ⟨?_, rfl⟩ ?_
                · refine mz_go 2 (c' := (if xa < 0 then 13 else 4, [some (.ref 60), some (.int xa)], [], w)) rfl ?_
                  refine mz_ifF q1 ?_
                  refine mz_go 3 (c' := (if 4 ≤ xa then 13 else 9, [some (.ref 60), some (.int xa)], [], w)) rfl ?_
                  refine mz_ifF q2 ?_
                  refine mz_go 2 (c' := (14, [some (.ref 60), some (.int xa)], [.int 1], w)) rfl ?_
                  exact mz_ret rfl
                refine mz_goP 16 (c' := (if 0 ≤ xc then 53 else 47, [some (.ref 0), some (.int xa), some (.int 32), some (.int xc)], [], w)) rfl ?_
                refine mz_ifFP q11 ?_
                refine mz_goP 2 (c' := (49, [some (.ref 0), some (.int xa), some (.int 32), some (.int xc)], [.int 3, .ref 0], w)) rfl ?_
                refine mz_doPQ (R := mz_r109) (as := [.ref 0, .int 3]) (rest := []) (r1 := some (.int (-1000003))) (m1 := mz_up w 64 3 ((w 64 3) + 1)) mz_t109 mz_v109_0 rfl rfl rfl rfl rfl ((cs_err3 (m := w)).deep (by decide)) ?_
                refine mz_retP (r := (some (.int ((-1000003))), mz_up w 64 3 ((w 64 3) + 1))) rfl ⟨(-1000003), rfl, ?_⟩
                refine mz_goP 1 (c' := (1, [some (.ref 65), some (.int xa), some (.int 32), some (.int xc), none], [.int xa], mz_up w 64 3 ((w 64 3) + 1))) rfl ?_
                refine mz_doPQ (R := mz_r219) (as := [.int xa]) (rest := []) (r1 := some (.int 1)) (m1 := mz_up w 64 3 ((w 64 3) + 1)) mz_t219 mz_v219 rfl rfl rfl rfl rfl ⟨?_, rfl⟩ ?_
                · refine mz_go 3 (c' := (3, [some (.int xa)], [.int 3, .int 0, .int xa], mz_up w 64 3 ((w 64 3) + 1))) rfl ?_
                  refine mz_doQ (R := mz_r128) (as := [.int xa, .int 0, .int 3]) (rest := []) (r1 := some (.int 1)) (m1 := mz_up w 64 3 ((w 64 3) + 1)) mz_t128 mz_v128 rfl rfl rfl rfl rfl ((ct_in1 (m := mz_up w 64 3 ((w 64 3) + 1)) (v := xa) (a := 0) (b := 3) q1 (by have hl : (0 : Int) ≤ (xa).toInt := Int32.le_iff_toInt_le.mp (Int32.not_lt.mp q1); have hu : (xa).toInt < (4 : Int) := Int32.lt_iff_toInt_lt.mp (Int32.not_le.mp q2); exact Int32.not_lt.mpr (Int32.le_iff_toInt_le.mpr (show (xa).toInt ≤ (3 : Int) by omega)))).deep (by decide)) ?_
                  exact mz_ret rfl
                refine mz_goP 16 (c' := (if 0 ≤ xc then 49 else 43, [some (.ref 65), some (.int xa), some (.int 32), some (.int xc), none], [], mz_up w 64 3 ((w 64 3) + 1))) rfl ?_
                refine mz_ifFP q11 ?_
                refine mz_goP 2 (c' := (45, [some (.ref 65), some (.int xa), some (.int 32), some (.int xc), none], [.int 3, .ref 65], mz_up w 64 3 ((w 64 3) + 1))) rfl ?_
                refine mz_doPQ (R := mz_r127) (as := [.ref 65, .int 3]) (rest := []) (r1 := some (.int (-1000003))) (m1 := mz_up (mz_up w 64 3 ((w 64 3) + 1)) 68 3 ((w 68 3) + 1)) mz_t127 mz_v127_65 rfl rfl rfl rfl rfl ((ct_err3 (m := mz_up w 64 3 ((w 64 3) + 1))).deep (by decide)) ?_
                refine mz_retP (r := (some (.int ((-1000003))), mz_up (mz_up w 64 3 ((w 64 3) + 1)) 68 3 ((w 68 3) + 1))) rfl ⟨(-1000003), rfl, ?_, rfl⟩
                show sm_I (n + 1) (mz_up (mz_up w 64 3 ((w 64 3) + 1)) 68 3 ((w 68 3) + 1))
                exact sm_I_scr hn hI2 (fun i hi => by
                  have hne : ∀ r, sm_scr r = true → i ≠ r := fun r hr e => by
                    rw [e, hr] at hi
                    cases hi
                  simp only [mz_up_ne (hne 64 rfl), mz_up_ne (hne 68 rfl)]) rfl rfl
            · refine mz_goP 3 (c' := (5, [some (.ref 0), some (.int xa), some (.int xb), some (.int xc)], [.int xa, .ref 60], w)) rfl ?_
              refine mz_doPQ (R := mz_r45) (as := [.ref 60, .int xa]) (rest := []) (r1 := some (.int 1)) (m1 := w) mz_t45 mz_v45_60 rfl rfl rfl rfl rfl ⟨?_, rfl⟩ ?_
              · refine mz_go 2 (c' := (if xa < 0 then 13 else 4, [some (.ref 60), some (.int xa)], [], w)) rfl ?_
                refine mz_ifF q1 ?_
                refine mz_go 3 (c' := (if 4 ≤ xa then 13 else 9, [some (.ref 60), some (.int xa)], [], w)) rfl ?_
                refine mz_ifF q2 ?_
                refine mz_go 2 (c' := (14, [some (.ref 60), some (.int xa)], [.int 1], w)) rfl ?_
                exact mz_ret rfl
              refine mz_goP 3 (c' := (if xb = 0 then 39 else 15, [some (.ref 0), some (.int xa), some (.int xb), some (.int xc)], [], w)) rfl ?_
              refine mz_ifFP q3 ?_
              refine mz_goP 3 (c' := (if xb = 8 then 39 else 21, [some (.ref 0), some (.int xa), some (.int xb), some (.int xc)], [], w)) rfl ?_
              refine mz_ifFP q4 ?_
              refine mz_goP 3 (c' := (if xb = 16 then 39 else 27, [some (.ref 0), some (.int xa), some (.int xb), some (.int xc)], [], w)) rfl ?_
              refine mz_ifFP q7 ?_
              refine mz_goP 3 (c' := (if xb = 32 then 39 else 33, [some (.ref 0), some (.int xa), some (.int xb), some (.int xc)], [], w)) rfl ?_
              refine mz_ifFP q10 ?_
              refine mz_goP 2 (c' := (35, [some (.ref 0), some (.int xa), some (.int xb), some (.int xc)], [.int 1, .ref 0], w)) rfl ?_
              refine mz_doPQ (R := mz_r109) (as := [.ref 0, .int 1]) (rest := []) (r1 := some (.int (-1000001))) (m1 := mz_up w 64 1 ((w 64 1) + 1)) mz_t109 mz_v109_0 rfl rfl rfl rfl rfl ((cs_err1 (m := w)).deep (by decide)) ?_
              refine mz_retP (r := (some (.int ((-1000001))), mz_up w 64 1 ((w 64 1) + 1))) rfl ⟨(-1000001), rfl, ?_⟩
              refine mz_goP 1 (c' := (1, [some (.ref 65), some (.int xa), some (.int xb), some (.int xc), none], [.int xa], mz_up w 64 1 ((w 64 1) + 1))) rfl ?_
              refine mz_doPQ (R := mz_r219) (as := [.int xa]) (rest := []) (r1 := some (.int 1)) (m1 := mz_up w 64 1 ((w 64 1) + 1)) mz_t219 mz_v219 rfl rfl rfl rfl rfl ⟨?_, rfl⟩ ?_
              · refine mz_go 3 (c' := (3, [some (.int xa)], [.int 3, .int 0, .int xa], mz_up w 64 1 ((w 64 1) + 1))) rfl ?_
                refine mz_doQ (R := mz_r128) (as := [.int xa, .int 0, .int 3]) (rest := []) (r1 := some (.int 1)) (m1 := mz_up w 64 1 ((w 64 1) + 1)) mz_t128 mz_v128 rfl rfl rfl rfl rfl ((ct_in1 (m := mz_up w 64 1 ((w 64 1) + 1)) (v := xa) (a := 0) (b := 3) q1 (by have hl : (0 : Int) ≤ (xa).toInt := Int32.le_iff_toInt_le.mp (Int32.not_lt.mp q1); have hu : (xa).toInt < (4 : Int) := Int32.lt_iff_toInt_lt.mp (Int32.not_le.mp q2); exact Int32.not_lt.mpr (Int32.le_iff_toInt_le.mpr (show (xa).toInt ≤ (3 : Int) by omega)))).deep (by decide)) ?_
                exact mz_ret rfl
              refine mz_goP 3 (c' := (if xb = 0 then 35 else 11, [some (.ref 65), some (.int xa), some (.int xb), some (.int xc), none], [], mz_up w 64 1 ((w 64 1) + 1))) rfl ?_
              refine mz_ifFP q3 ?_
              refine mz_goP 3 (c' := (if xb = 8 then 35 else 17, [some (.ref 65), some (.int xa), some (.int xb), some (.int xc), none], [], mz_up w 64 1 ((w 64 1) + 1))) rfl ?_
              refine mz_ifFP q4 ?_
              refine mz_goP 3 (c' := (if xb = 16 then 35 else 23, [some (.ref 65), some (.int xa), some (.int xb), some (.int xc), none], [], mz_up w 64 1 ((w 64 1) + 1))) rfl ?_
              refine mz_ifFP q7 ?_
              refine mz_goP 3 (c' := (if xb = 32 then 35 else 29, [some (.ref 65), some (.int xa), some (.int xb), some (.int xc), none], [], mz_up w 64 1 ((w 64 1) + 1))) rfl ?_
              refine mz_ifFP q10 ?_
              refine mz_goP 2 (c' := (31, [some (.ref 65), some (.int xa), some (.int xb), some (.int xc), none], [.int 1, .ref 65], mz_up w 64 1 ((w 64 1) + 1))) rfl ?_
              refine mz_doPQ (R := mz_r127) (as := [.ref 65, .int 1]) (rest := []) (r1 := some (.int (-1000001))) (m1 := mz_up (mz_up w 64 1 ((w 64 1) + 1)) 68 1 ((w 68 1) + 1)) mz_t127 mz_v127_65 rfl rfl rfl rfl rfl ((ct_err1 (m := mz_up w 64 1 ((w 64 1) + 1))).deep (by decide)) ?_
              refine mz_retP (r := (some (.int ((-1000001))), mz_up (mz_up w 64 1 ((w 64 1) + 1)) 68 1 ((w 68 1) + 1))) rfl ⟨(-1000001), rfl, ?_, rfl⟩
              show sm_I (n + 1) (mz_up (mz_up w 64 1 ((w 64 1) + 1)) 68 1 ((w 68 1) + 1))
              exact sm_I_scr hn hI2 (fun i hi => by
                have hne : ∀ r, sm_scr r = true → i ≠ r := fun r hr e => by
                  rw [e, hr] at hi
                  cases hi
                simp only [mz_up_ne (hne 64 rfl), mz_up_ne (hne 68 rfl)]) rfl rfl
