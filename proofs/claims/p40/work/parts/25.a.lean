set_option maxHeartbeats 4000000 in
set_option maxRecDepth 100000 in
theorem sc_seed {n : Nat} (hn : n < 64) {w : mz_M} (hI : sm_I n w) (xa : Int32) : ∃ v1 v2 m1 m2, mz_Me 100 mz_r96 [.ref 0, .int xa] w (some (.int v1)) m1 ∧ mz_Me 100 mz_r208 [.ref 65, .int xa] m1 (some (.int v2)) m2 ∧ sm_I (n + 1) m2 ∧ v1 = v2 := by
  have hI2 := hI
  obtain ⟨hn0, ⟨-, ⟨hr80, hr5, hrr⟩, ⟨⟨TT, hTT, h81, h661⟩, htp⟩, ⟨⟨T0, hT0, hU0, hV0, -⟩, ⟨T1, hT1, hU1, hV1, -⟩, ⟨T2, hT2, hU2, hV2, -⟩⟩, ⟨hbx, hby, hbl⟩, ⟨⟨WW, HH, hWW, hHH, hWH, h202, h203, h6660, h6661⟩, h6662, h6663, h6664, hpc⟩, ⟨hth, h66160, hthr⟩, ⟨⟨AA, hAA, h111, h662⟩, h663, hwt⟩⟩, ⟨hsh, hsn⟩, ⟨hcb1, hcb2⟩, ⟨JJ, hJJ, h07, h652, hkept⟩⟩ := hI
  obtain ⟨N, hw, hr2, h660, -, -, h6615⟩ := sm_world hI2
  have hw2 := hw
  obtain ⟨hN, h4, hpb, -, -⟩ := hw2
  have hT60a := sm_T60 hV0
  have hT60b := sm_T60 hV1
  have hT60c := sm_T60 hV2
  obtain ⟨B1, hB1, e571⟩ := sm_Nof (by decide) hcb1
  obtain ⟨B2, hB2, e6519⟩ := sm_Nof (by decide) hcb2
  refine mz_two (fun _ => rfl) (fun _ => rfl) ?_
  refine mz_goP 9 (c' := (17, [some (.ref 0), some (.int xa), some (.int (w 1 12))], [.int (w 1 12)], mz_up w 1 12 xa)) rfl ?_
  refine mz_retP (r := (some (.int (w 1 12)), mz_up w 1 12 xa)) rfl ⟨w 1 12, rfl, ?_⟩
  refine mz_goP 4 (c' := (6, [some (.ref 65), some (.int xa), none], [.int (w 66 3)], mz_up w 1 12 xa)) rfl ?_
  rw [h663]
  refine mz_goP 7 (c' := (15, [some (.ref 65), some (.int xa), some (.int (w 1 12))], [.int (w 1 12)], mz_up (mz_up w 1 12 xa) 66 3 xa)) rfl ?_
  refine mz_retP (r := (some (.int (w 1 12)), mz_up (mz_up w 1 12 xa) 66 3 xa)) rfl ⟨w 1 12, rfl, ?_, rfl⟩
  show sm_I (n + 1) (mz_up (mz_up w 1 12 xa) 66 3 xa)
  obtain ⟨-, ⟨d1, d2, d3, ⟨d4, d4b, d4c⟩, d5, d6, d7, d8⟩, da, db, dc⟩ := hI2
  have hs : ∀ i, i ≠ 3 → (mz_up (mz_up w 1 12 xa) 66 3 xa) 66 i = w 66 i := fun i p0 => by rw [mz_up_eq, if_neg (by omega), mz_up_ne (show (66 : Nat) ≠ 1 by decide)]
  exact ⟨hn, ⟨sm_k1 (hs 0 (by omega)) (fun i h1 h2 => hs i (by omega)) d1, sm_k2 (fun i h1 h2 => hs i (by omega)) d2, sm_k3 (hs 1 (by omega)) (fun i h1 h2 => hs i (by omega)) d3, ⟨sm_k4 (fun i h1 h2 => hs i (by omega)) d4, sm_k4 (fun i h1 h2 => hs i (by omega)) d4b, sm_k4 (fun i h1 h2 => hs i (by omega)) d4c⟩, sm_k5 (fun i h1 h2 => hs i (by omega)) d5, sm_k6 (fun i h1 h2 => hs i (by omega)) d6, sm_k7 (fun i h1 h2 => hs i (by omega)) d7, ⟨d8.1, rfl, fun i h => (hs _ (by omega)).trans (d8.2.2 i h)⟩⟩, da, db, sm_cc_of (fun i h1 h2 => by simp only [mz_up_ne (show i ≠ 1 by omega), mz_up_ne (show i ≠ 66 by omega)]) dc⟩
set_option maxHeartbeats 4000000 in
set_option maxRecDepth 100000 in
theorem sc_takeOff {n : Nat} (hn : n < 64) {w : mz_M} (hI : sm_I n w)  : ∃ v1 v2 m1 m2, mz_Me 100 mz_r71 [.ref 0] w (some (.int v1)) m1 ∧ mz_Me 100 mz_r141 [.ref 65] m1 (some (.int v2)) m2 ∧ sm_I (n + 1) m2 ∧ v1 = v2 := by
  have hI2 := hI
  obtain ⟨hn0, ⟨-, ⟨hr80, hr5, hrr⟩, ⟨⟨TT, hTT, h81, h661⟩, htp⟩, ⟨⟨T0, hT0, hU0, hV0, -⟩, ⟨T1, hT1, hU1, hV1, -⟩, ⟨T2, hT2, hU2, hV2, -⟩⟩, ⟨hbx, hby, hbl⟩, ⟨⟨WW, HH, hWW, hHH, hWH, h202, h203, h6660, h6661⟩, h6662, h6663, h6664, hpc⟩, ⟨hth, h66160, hthr⟩, ⟨⟨AA, hAA, h111, h662⟩, h663, hwt⟩⟩, ⟨hsh, hsn⟩, ⟨hcb1, hcb2⟩, ⟨JJ, hJJ, h07, h652, hkept⟩⟩ := hI
  obtain ⟨N, hw, hr2, h660, -, -, h6615⟩ := sm_world hI2
  have hw2 := hw
  obtain ⟨hN, h4, hpb, -, -⟩ := hw2
  have hT60a := sm_T60 hV0
  have hT60b := sm_T60 hV1
  have hT60c := sm_T60 hV2
  obtain ⟨B1, hB1, e571⟩ := sm_Nof (by decide) hcb1
  obtain ⟨B2, hB2, e6519⟩ := sm_Nof (by decide) hcb2
  refine mz_two (fun _ => rfl) (fun _ => rfl) ?_
  refine mz_goP 4 (c' := (10, [some (.ref 0)], [.int (w 2 4)], w)) rfl ?_
  rw [h4]
  refine mz_goP 1 (c' := (if 0 < (nI N) then 19 else 13, [some (.ref 0)], [], w)) rfl ?_
  by_cases q1 : 0 < N
  · refine mz_ifTP (show (0 < (nI N)) from (sm_ltN rfl rfl (show 0 < N by omega) (show N < 2 ^ 31 by omega))) ?_
    refine mz_goP 5 (c' := (30, [some (.ref 0)], [.int (w 2 4), .ref 2], w)) rfl ?_
    rw [h4]
    refine mz_goP 7 (c' := (45, [some (.ref 0)], [.int ((nI N) - 1)], mz_up w 2 4 ((nI N) - 1))) rfl ?_
    refine mz_retP (r := (some (.int ((nI N) - 1)), mz_up w 2 4 ((nI N) - 1))) rfl ⟨(nI N) - 1, rfl, ?_⟩
    refine mz_goP 4 (c' := (6, [some (.ref 65)], [.int (w 66 0)], mz_up w 2 4 ((nI N) - 1))) rfl ?_
    rw [h660]
    refine mz_goP 1 (c' := (if (nI N) = 0 then 9 else 15, [some (.ref 65)], [], mz_up w 2 4 ((nI N) - 1))) rfl ?_
    refine mz_ifFP (show ¬ ((nI N) = 0) from (sm_neN rfl rfl (show N ≠ 0 by omega) (show N < 2 ^ 31 by omega) (show 0 < 2 ^ 31 by omega))) ?_
    refine mz_goP 5 (c' := (22, [some (.ref 65)], [.int (w 66 0), .int 0, .ref 66], mz_up w 2 4 ((nI N) - 1))) rfl ?_
    rw [h660]
    refine mz_goP 7 (c' := (31, [some (.ref 65)], [.int ((nI N) - 1)], mz_up (mz_up w 2 4 ((nI N) - 1)) 66 0 ((nI N) - 1))) rfl ?_
    refine mz_retP (r := (some (.int ((nI N) - 1)), mz_up (mz_up w 2 4 ((nI N) - 1)) 66 0 ((nI N) - 1))) rfl ⟨(nI N) - 1, rfl, ?_, rfl⟩
    show sm_I (n + 1) (mz_up (mz_up w 2 4 ((nI N) - 1)) 66 0 ((nI N) - 1))
    obtain ⟨-, ⟨d1, d2, d3, ⟨d4, d4b, d4c⟩, d5, d6, d7, d8⟩, da, db, dc⟩ := hI2
    have hs : ∀ i, i ≠ 0 → (mz_up (mz_up w 2 4 ((nI N) - 1)) 66 0 ((nI N) - 1)) 66 i = w 66 i := fun i p0 => by rw [mz_up_eq, if_neg (by omega), mz_up_ne (show (66 : Nat) ≠ 2 by decide)]
    exact ⟨hn, ⟨⟨⟨N - 1, by omega, sm_subN (a := N) (b := 1) rfl rfl (by omega), sm_subN (a := N) (b := 1) rfl rfl (by omega)⟩, sm_k1b (fun i h1 h2 => hs i (by omega)) d1.2⟩, sm_k2 (fun i h1 h2 => hs i (by omega)) d2, sm_k3 (hs 1 (by omega)) (fun i h1 h2 => hs i (by omega)) d3, ⟨sm_k4 (fun i h1 h2 => hs i (by omega)) d4, sm_k4 (fun i h1 h2 => hs i (by omega)) d4b, sm_k4 (fun i h1 h2 => hs i (by omega)) d4c⟩, sm_k5 (fun i h1 h2 => hs i (by omega)) d5, sm_k6 (fun i h1 h2 => hs i (by omega)) d6, sm_k7 (fun i h1 h2 => hs i (by omega)) d7, sm_k8 (hs 2 (by omega)) (hs 3 (by omega)) (fun i h1 h2 => hs i (by omega)) d8⟩, da, db, sm_cc_of (fun i h1 h2 => by simp only [mz_up_ne (show i ≠ 2 by omega), mz_up_ne (show i ≠ 66 by omega)]) dc⟩
  · refine mz_ifFP (show ¬ (0 < (nI N)) from (sm_nltN rfl rfl (show N ≤ 0 by omega) (show 0 < 2 ^ 31 by omega))) ?_
    refine mz_goP 2 (c' := (15, [some (.ref 0)], [.int 2, .ref 0], w)) rfl ?_
    refine mz_doPQ (R := mz_r109) (as := [.ref 0, .int 2]) (rest := []) (r1 := some (.int (-1000002))) (m1 := mz_up w 64 2 ((w 64 2) + 1)) mz_t109 mz_v109_0 rfl rfl rfl rfl rfl ((cs_err2 (m := w)).deep (by decide)) ?_
    refine mz_retP (r := (some (.int ((-1000002))), mz_up w 64 2 ((w 64 2) + 1))) rfl ⟨(-1000002), rfl, ?_⟩
    refine mz_goP 4 (c' := (6, [some (.ref 65)], [.int (w 66 0)], mz_up w 64 2 ((w 64 2) + 1))) rfl ?_
    rw [h660]
    refine mz_goP 1 (c' := (if (nI N) = 0 then 9 else 15, [some (.ref 65)], [], mz_up w 64 2 ((w 64 2) + 1))) rfl ?_
    refine mz_ifTP (show ((nI N) = 0) from (sm_eqN rfl rfl (show N = 0 by omega))) ?_
    refine mz_goP 2 (c' := (11, [some (.ref 65)], [.int 2, .ref 65], mz_up w 64 2 ((w 64 2) + 1))) rfl ?_
    refine mz_doPQ (R := mz_r127) (as := [.ref 65, .int 2]) (rest := []) (r1 := some (.int (-1000002))) (m1 := mz_up (mz_up w 64 2 ((w 64 2) + 1)) 68 2 ((w 68 2) + 1)) mz_t127 mz_v127_65 rfl rfl rfl rfl rfl ((ct_err2 (m := mz_up w 64 2 ((w 64 2) + 1))).deep (by decide)) ?_
    refine mz_retP (r := (some (.int ((-1000002))), mz_up (mz_up w 64 2 ((w 64 2) + 1)) 68 2 ((w 68 2) + 1))) rfl ⟨(-1000002), rfl, ?_, rfl⟩
    show sm_I (n + 1) (mz_up (mz_up w 64 2 ((w 64 2) + 1)) 68 2 ((w 68 2) + 1))
    exact sm_I_scr hn hI2 (fun i hi => by
      have hne : ∀ r, sm_scr r = true → i ≠ r := fun r hr e => by
        rw [e, hr] at hi
        cases hi
      simp only [mz_up_ne (hne 64 rfl), mz_up_ne (hne 68 rfl)]) rfl rfl
set_option maxHeartbeats 4000000 in
set_option maxRecDepth 100000 in
theorem sc_push {n : Nat} (hn : n < 64) {w : mz_M} (hI : sm_I n w) (xa : Int32) (xb : Int32) : ∃ v1 v2 m1 m2, mz_Me 100 mz_r78 [.ref 0, .int xa, .int xb] w (some (.int v1)) m1 ∧ mz_Me 100 mz_r176 [.ref 65, .int xa, .int xb] m1 (some (.int v2)) m2 ∧ sm_I (n + 1) m2 ∧ v1 = v2 := by
  have hI2 := hI
  obtain ⟨hn0, ⟨-, ⟨hr80, hr5, hrr⟩, ⟨⟨TT, hTT, h81, h661⟩, htp⟩, ⟨⟨T0, hT0, hU0, hV0, -⟩, ⟨T1, hT1, hU1, hV1, -⟩, ⟨T2, hT2, hU2, hV2, -⟩⟩, ⟨hbx, hby, hbl⟩, ⟨⟨WW, HH, hWW, hHH, hWH, h202, h203, h6660, h6661⟩, h6662, h6663, h6664, hpc⟩, ⟨hth, h66160, hthr⟩, ⟨⟨AA, hAA, h111, h662⟩, h663, hwt⟩⟩, ⟨hsh, hsn⟩, ⟨hcb1, hcb2⟩, ⟨JJ, hJJ, h07, h652, hkept⟩⟩ := hI
  obtain ⟨N, hw, hr2, h660, -, -, h6615⟩ := sm_world hI2
  have hw2 := hw
  obtain ⟨hN, h4, hpb, -, -⟩ := hw2
  have hT60a := sm_T60 hV0
  have hT60b := sm_T60 hV1
  have hT60c := sm_T60 hV2
  obtain ⟨B1, hB1, e571⟩ := sm_Nof (by decide) hcb1
  obtain ⟨B2, hB2, e6519⟩ := sm_Nof (by decide) hcb2
  refine mz_two (fun _ => rfl) (fun _ => rfl) ?_
  refine mz_goP 1 (c' := (1, [some (.ref 0), some (.int xa), some (.int xb)], [.int xa], w)) rfl ?_
  by_cases q1 : (sm_bI (sm_in xa (-9999) 9999)) = 0
  · refine mz_doPQ (R := mz_r117) (as := [.int xa]) (rest := []) (r1 := some (.int (sm_bI (sm_in xa (-9999) 9999)))) (m1 := w) mz_t117 mz_v117 rfl rfl rfl rfl rfl ⟨?_, sm_fitB _⟩ ?_
    · refine mz_go 3 (c' := (7, [some (.int xa)], [.int 9999, .int (-9999), .int xa], w)) rfl ?_
      refine mz_doQ (R := mz_r121) (as := [.int xa, .int (-9999), .int 9999]) (rest := []) (r1 := some (.int (sm_bI (sm_in xa (-9999) 9999)))) (m1 := w) mz_t121 mz_v121 rfl rfl rfl rfl rfl ((cs_in (m := w) xa (-9999) 9999).deep (by decide)) ?_
      exact mz_ret rfl
    refine mz_goP 1 (c' := (if (sm_bI (sm_in xa (-9999) 9999)) = 0 then 14 else 7, [some (.ref 0), some (.int xa), some (.int xb)], [], w)) rfl ?_
    refine mz_ifTP q1 ?_
    refine mz_goP 2 (c' := (16, [some (.ref 0), some (.int xa), some (.int xb)], [.int 1, .ref 0], w)) rfl ?_
    refine mz_doPQ (R := mz_r109) (as := [.ref 0, .int 1]) (rest := []) (r1 := some (.int (-1000001))) (m1 := mz_up w 64 1 ((w 64 1) + 1)) mz_t109 mz_v109_0 rfl rfl rfl rfl rfl ((cs_err1 (m := w)).deep (by decide)) ?_
    refine mz_retP (r := (some (.int ((-1000001))), mz_up w 64 1 ((w 64 1) + 1))) rfl ⟨(-1000001), rfl, ?_⟩
    refine mz_goP 2 (c' := (2, [some (.ref 65), some (.int xa), some (.int xb)], [.int xb, .int xa], mz_up w 64 1 ((w 64 1) + 1))) rfl ?_
    refine mz_doPQ (R := mz_r175) (as := [.int xa, .int xb]) (rest := []) (r1 := some (.int 0)) (m1 := mz_up w 64 1 ((w 64 1) + 1)) mz_t175 mz_v175 rfl rfl rfl rfl rfl ⟨?_, rfl⟩ ?_
    · refine mz_go 3 (c' := (7, [some (.int xa), some (.int xb)], [.int 9999, .int (-9999), .int xa], mz_up w 64 1 ((w 64 1) + 1))) rfl ?_
      refine mz_doQ (R := mz_r128) (as := [.int xa, .int (-9999), .int 9999]) (rest := []) (r1 := some (.int (sm_bI (sm_in xa (-9999) 9999)))) (m1 := mz_up w 64 1 ((w 64 1) + 1)) mz_t128 mz_v128 rfl rfl rfl rfl rfl ((ct_in (m := mz_up w 64 1 ((w 64 1) + 1)) xa (-9999) 9999).deep (by decide)) ?_
      refine mz_go 1 (c' := (if (sm_bI (sm_in xa (-9999) 9999)) = 0 then 30 else 13, [some (.int xa), some (.int xb)], [], mz_up w 64 1 ((w 64 1) + 1))) rfl ?_
      refine mz_ifT q1 ?_
      refine mz_go 1 (c' := (31, [some (.int xa), some (.int xb)], [.int 0], mz_up w 64 1 ((w 64 1) + 1))) rfl ?_
      exact mz_ret rfl
    refine mz_goP 3 (c' := (10, [some (.ref 65), some (.int xa), some (.int xb)], [.int 1, .ref 65], mz_up w 64 1 ((w 64 1) + 1))) rfl ?_
    refine mz_doPQ (R := mz_r127) (as := [.ref 65, .int 1]) (rest := []) (r1 := some (.int (-1000001))) (m1 := mz_up (mz_up w 64 1 ((w 64 1) + 1)) 68 1 ((w 68 1) + 1)) mz_t127 mz_v127_65 rfl rfl rfl rfl rfl ((ct_err1 (m := mz_up w 64 1 ((w 64 1) + 1))).deep (by decide)) ?_
    refine mz_retP (r := (some (.int ((-1000001))), mz_up (mz_up w 64 1 ((w 64 1) + 1)) 68 1 ((w 68 1) + 1))) rfl ⟨(-1000001), rfl, ?_, rfl⟩
    show sm_I (n + 1) (mz_up (mz_up w 64 1 ((w 64 1) + 1)) 68 1 ((w 68 1) + 1))
    exact sm_I_scr hn hI2 (fun i hi => by
      have hne : ∀ r, sm_scr r = true → i ≠ r := fun r hr e => by
        rw [e, hr] at hi
        cases hi
      simp only [mz_up_ne (hne 64 rfl), mz_up_ne (hne 68 rfl)]) rfl rfl
  · refine mz_doPQ (R := mz_r117) (as := [.int xa]) (rest := []) (r1 := some (.int 1)) (m1 := w) mz_t117 mz_v117 rfl rfl rfl rfl rfl ⟨?_, rfl⟩ ?_
    · refine mz_go 3 (c' := (7, [some (.int xa)], [.int 9999, .int (-9999), .int xa], w)) rfl ?_
      refine mz_doQ (R := mz_r121) (as := [.int xa, .int (-9999), .int 9999]) (rest := []) (r1 := some (.int 1)) (m1 := w) mz_t121 mz_v121 rfl rfl rfl rfl rfl ((cs_in1 (m := w) (v := xa) (a := (-9999)) (b := 9999) (show ¬ (xa < (-9999)) from (sm_in_lo q1)) (show ¬ (9999 < xa) from (sm_in_hi q1))).deep (by decide)) ?_
      exact mz_ret rfl
    refine mz_goP 2 (c' := (8, [some (.ref 0), some (.int xa), some (.int xb)], [.int xb], w)) rfl ?_
    by_cases q2 : (sm_bI (sm_in xb (-9999) 9999)) = 0
    · refine mz_doPQ (R := mz_r117) (as := [.int xb]) (rest := []) (r1 := some (.int (sm_bI (sm_in xb (-9999) 9999)))) (m1 := w) mz_t117 mz_v117 rfl rfl rfl rfl rfl ⟨?_, sm_fitB _⟩ ?_
      · refine mz_go 3 (c' := (7, [some (.int xb)], [.int 9999, .int (-9999), .int xb], w)) rfl ?_
        refine mz_doQ (R := mz_r121) (as := [.int xb, .int (-9999), .int 9999]) (rest := []) (r1 := some (.int (sm_bI (sm_in xb (-9999) 9999)))) (m1 := w) mz_t121 mz_v121 rfl rfl rfl rfl rfl ((cs_in (m := w) xb (-9999) 9999).deep (by decide)) ?_
        exact mz_ret rfl
      refine mz_goP 1 (c' := (if (sm_bI (sm_in xb (-9999) 9999)) = 0 then 14 else 20, [some (.ref 0), some (.int xa), some (.int xb)], [], w)) rfl ?_
      refine mz_ifTP q2 ?_
      refine mz_goP 2 (c' := (16, [some (.ref 0), some (.int xa), some (.int xb)], [.int 1, .ref 0], w)) rfl ?_
      refine mz_doPQ (R := mz_r109) (as := [.ref 0, .int 1]) (rest := []) (r1 := some (.int (-1000001))) (m1 := mz_up w 64 1 ((w 64 1) + 1)) mz_t109 mz_v109_0 rfl rfl rfl rfl rfl ((cs_err1 (m := w)).deep (by decide)) ?_
      refine mz_retP (r := (some (.int ((-1000001))), mz_up w 64 1 ((w 64 1) + 1))) rfl ⟨(-1000001), rfl, ?_⟩
      refine mz_goP 2 (c' := (2, [some (.ref 65), some (.int xa), some (.int xb)], [.int xb, .int xa], mz_up w 64 1 ((w 64 1) + 1))) rfl ?_
      refine mz_doPQ (R := mz_r175) (as := [.int xa, .int xb]) (rest := []) (r1 := some (.int 0)) (m1 := mz_up w 64 1 ((w 64 1) + 1)) mz_t175 mz_v175 rfl rfl rfl rfl rfl ⟨?_, rfl⟩ ?_
      · refine mz_go 3 (c' := (7, [some (.int xa), some (.int xb)], [.int 9999, .int (-9999), .int xa], mz_up w 64 1 ((w 64 1) + 1))) rfl ?_
        refine mz_doQ (R := mz_r128) (as := [.int xa, .int (-9999), .int 9999]) (rest := []) (r1 := some (.int 1)) (m1 := mz_up w 64 1 ((w 64 1) + 1)) mz_t128 mz_v128 rfl rfl rfl rfl rfl ((ct_in1 (m := mz_up w 64 1 ((w 64 1) + 1)) (v := xa) (a := (-9999)) (b := 9999) (show ¬ (xa < (-9999)) from (sm_in_lo q1)) (show ¬ (9999 < xa) from (sm_in_hi q1))).deep (by decide)) ?_
        refine mz_go 4 (c' := (20, [some (.int xa), some (.int xb)], [.int 9999, .int (-9999), .int xb], mz_up w 64 1 ((w 64 1) + 1))) rfl ?_
        refine mz_doQ (R := mz_r128) (as := [.int xb, .int (-9999), .int 9999]) (rest := []) (r1 := some (.int (sm_bI (sm_in xb (-9999) 9999)))) (m1 := mz_up w 64 1 ((w 64 1) + 1)) mz_t128 mz_v128 rfl rfl rfl rfl rfl ((ct_in (m := mz_up w 64 1 ((w 64 1) + 1)) xb (-9999) 9999).deep (by decide)) ?_
        refine mz_go 1 (c' := (if (sm_bI (sm_in xb (-9999) 9999)) = 0 then 30 else 26, [some (.int xa), some (.int xb)], [], mz_up w 64 1 ((w 64 1) + 1))) rfl ?_
        refine mz_ifT q2 ?_
        refine mz_go 1 (c' := (31, [some (.int xa), some (.int xb)], [.int 0], mz_up w 64 1 ((w 64 1) + 1))) rfl ?_
        exact mz_ret rfl
      refine mz_goP 3 (c' := (10, [some (.ref 65), some (.int xa), some (.int xb)], [.int 1, .ref 65], mz_up w 64 1 ((w 64 1) + 1))) rfl ?_
      refine mz_doPQ (R := mz_r127) (as := [.ref 65, .int 1]) (rest := []) (r1 := some (.int (-1000001))) (m1 := mz_up (mz_up w 64 1 ((w 64 1) + 1)) 68 1 ((w 68 1) + 1)) mz_t127 mz_v127_65 rfl rfl rfl rfl rfl ((ct_err1 (m := mz_up w 64 1 ((w 64 1) + 1))).deep (by decide)) ?_
      refine mz_retP (r := (some (.int ((-1000001))), mz_up (mz_up w 64 1 ((w 64 1) + 1)) 68 1 ((w 68 1) + 1))) rfl ⟨(-1000001), rfl, ?_, rfl⟩
      show sm_I (n + 1) (mz_up (mz_up w 64 1 ((w 64 1) + 1)) 68 1 ((w 68 1) + 1))
      exact sm_I_scr hn hI2 (fun i hi => by
        have hne : ∀ r, sm_scr r = true → i ≠ r := fun r hr e => by
          rw [e, hr] at hi
          cases hi
        simp only [mz_up_ne (hne 64 rfl), mz_up_ne (hne 68 rfl)]) rfl rfl
    · refine mz_doPQ (R := mz_r117) (as := [.int xb]) (rest := []) (r1 := some (.int 1)) (m1 := w) mz_t117 mz_v117 rfl rfl rfl rfl rfl ⟨?_, rfl⟩ ?_
      · refine mz_go 3 (c' := (7, [some (.int xb)], [.int 9999, .int (-9999), .int xb], w)) rfl ?_
        refine mz_doQ (R := mz_r121) (as := [.int xb, .int (-9999), .int 9999]) (rest := []) (r1 := some (.int 1)) (m1 := w) mz_t121 mz_v121 rfl rfl rfl rfl rfl ((cs_in1 (m := w) (v := xb) (a := (-9999)) (b := 9999) (show ¬ (xb < (-9999)) from (sm_in_lo q2)) (show ¬ (9999 < xb) from (sm_in_hi q2))).deep (by decide)) ?_
        exact mz_ret rfl
      refine mz_goP 12 (c' := (43, [some (.ref 0), some (.int xa), some (.int xb)], [.int 1], mz_up (mz_up w 19 2 xa) 19 3 xb)) rfl ?_
      refine mz_retP (r := (some (.int (1)), mz_up (mz_up w 19 2 xa) 19 3 xb)) rfl ⟨1, rfl, ?_⟩
      refine mz_goP 2 (c' := (2, [some (.ref 65), some (.int xa), some (.int xb)], [.int xb, .int xa], mz_up (mz_up w 19 2 xa) 19 3 xb)) rfl ?_
      refine mz_doPQ (R := mz_r175) (as := [.int xa, .int xb]) (rest := []) (r1 := some (.int 1)) (m1 := mz_up (mz_up w 19 2 xa) 19 3 xb) mz_t175 mz_v175 rfl rfl rfl rfl rfl ⟨?_, rfl⟩ ?_
      · refine mz_go 3 (c' := (7, [some (.int xa), some (.int xb)], [.int 9999, .int (-9999), .int xa], mz_up (mz_up w 19 2 xa) 19 3 xb)) rfl ?_
        refine mz_doQ (R := mz_r128) (as := [.int xa, .int (-9999), .int 9999]) (rest := []) (r1 := some (.int 1)) (m1 := mz_up (mz_up w 19 2 xa) 19 3 xb) mz_t128 mz_v128 rfl rfl rfl rfl rfl ((ct_in1 (m := mz_up (mz_up w 19 2 xa) 19 3 xb) (v := xa) (a := (-9999)) (b := 9999) (show ¬ (xa < (-9999)) from (sm_in_lo q1)) (show ¬ (9999 < xa) from (sm_in_hi q1))).deep (by decide)) ?_
        refine mz_go 4 (c' := (20, [some (.int xa), some (.int xb)], [.int 9999, .int (-9999), .int xb], mz_up (mz_up w 19 2 xa) 19 3 xb)) rfl ?_
        refine mz_doQ (R := mz_r128) (as := [.int xb, .int (-9999), .int 9999]) (rest := []) (r1 := some (.int 1)) (m1 := mz_up (mz_up w 19 2 xa) 19 3 xb) mz_t128 mz_v128 rfl rfl rfl rfl rfl ((ct_in1 (m := mz_up (mz_up w 19 2 xa) 19 3 xb) (v := xb) (a := (-9999)) (b := 9999) (show ¬ (xb < (-9999)) from (sm_in_lo q2)) (show ¬ (9999 < xb) from (sm_in_hi q2))).deep (by decide)) ?_
        refine mz_go 3 (c' := (31, [some (.int xa), some (.int xb)], [.int 1], mz_up (mz_up w 19 2 xa) 19 3 xb)) rfl ?_
        exact mz_ret rfl
      refine mz_goP 12 (c' := (31, [some (.ref 65), some (.int xa), some (.int xb)], [.int 1], mz_up (mz_up (mz_up (mz_up w 19 2 xa) 19 3 xb) 66 22 xa) 66 23 xb)) rfl ?_
      refine mz_retP (r := (some (.int (1)), mz_up (mz_up (mz_up (mz_up w 19 2 xa) 19 3 xb) 66 22 xa) 66 23 xb)) rfl ⟨1, rfl, ?_, rfl⟩
      show sm_I (n + 1) (mz_up (mz_up (mz_up (mz_up w 19 2 xa) 19 3 xb) 66 22 xa) 66 23 xb)
      obtain ⟨-, ⟨d1, d2, d3, ⟨d4, d4b, d4c⟩, d5, d6, d7, d8⟩, da, db, dc⟩ := hI2
      have hs : ∀ i, i ≠ 22 → i ≠ 23 → (mz_up (mz_up (mz_up (mz_up w 19 2 xa) 19 3 xb) 66 22 xa) 66 23 xb) 66 i = w 66 i := fun i p0 p1 => by rw [mz_up_eq, if_neg (by omega), mz_up_eq, if_neg (by omega), mz_up_ne (show (66 : Nat) ≠ 19 by decide), mz_up_ne (show (66 : Nat) ≠ 19 by decide)]
      exact ⟨hn, ⟨sm_k1 (hs 0 (by omega) (by omega)) (fun i h1 h2 => hs i (by omega) (by omega)) d1, sm_k2 (fun i h1 h2 => hs i (by omega) (by omega)) d2, sm_k3 (hs 1 (by omega) (by omega)) (fun i h1 h2 => hs i (by omega) (by omega)) d3, ⟨sm_k4 (fun i h1 h2 => hs i (by omega) (by omega)) d4, sm_k4 (fun i h1 h2 => hs i (by omega) (by omega)) d4b, sm_k4 (fun i h1 h2 => hs i (by omega) (by omega)) d4c⟩, ⟨d5.1, d5.2.1, ⟨d5.2.2.1, d5.2.2.2.1, rfl, rfl, d5.2.2.2.2.2.2⟩⟩, sm_k6 (fun i h1 h2 => hs i (by omega) (by omega)) d6, sm_k7 (fun i h1 h2 => hs i (by omega) (by omega)) d7, sm_k8 (hs 2 (by omega) (by omega)) (hs 3 (by omega) (by omega)) (fun i h1 h2 => hs i (by omega) (by omega)) d8⟩, da, db, sm_cc_of (fun i h1 h2 => by simp only [mz_up_ne (show i ≠ 19 by omega), mz_up_ne (show i ≠ 66 by omega)]) dc⟩
set_option maxHeartbeats 4000000 in
set_option maxRecDepth 100000 in
theorem sc_let {n : Nat} (hn : n < 64) {w : mz_M} (hI : sm_I n w) (xa : Int32) (xb : Int32) : ∃ v1 v2 m1 m2, mz_Me 100 mz_r77 [.ref 0, .int xa, .int xb] w (some (.int v1)) m1 ∧ mz_Me 100 mz_r174 [.ref 65, .int xa, .int xb] m1 (some (.int v2)) m2 ∧ sm_I (n + 1) m2 ∧ v1 = v2 := by
  have hI2 := hI
  obtain ⟨hn0, ⟨-, ⟨hr80, hr5, hrr⟩, ⟨⟨TT, hTT, h81, h661⟩, htp⟩, ⟨⟨T0, hT0, hU0, hV0, -⟩, ⟨T1, hT1, hU1, hV1, -⟩, ⟨T2, hT2, hU2, hV2, -⟩⟩, ⟨hbx, hby, hbl⟩, ⟨⟨WW, HH, hWW, hHH, hWH, h202, h203, h6660, h6661⟩, h6662, h6663, h6664, hpc⟩, ⟨hth, h66160, hthr⟩, ⟨⟨AA, hAA, h111, h662⟩, h663, hwt⟩⟩, ⟨hsh, hsn⟩, ⟨hcb1, hcb2⟩, ⟨JJ, hJJ, h07, h652, hkept⟩⟩ := hI
  obtain ⟨N, hw, hr2, h660, -, -, h6615⟩ := sm_world hI2
  have hw2 := hw
  obtain ⟨hN, h4, hpb, -, -⟩ := hw2
  have hT60a := sm_T60 hV0
  have hT60b := sm_T60 hV1
  have hT60c := sm_T60 hV2
  obtain ⟨B1, hB1, e571⟩ := sm_Nof (by decide) hcb1
  obtain ⟨B2, hB2, e6519⟩ := sm_Nof (by decide) hcb2
  refine mz_two (fun _ => rfl) (fun _ => rfl) ?_
  refine mz_goP 2 (c' := (2, [some (.ref 0), some (.int xa), some (.int xb)], [.int xb, .int xa], w)) rfl ?_
  by_cases q1 : (sm_bI (sm_plc xa xb)) = 0
  · refine mz_doPQ (R := mz_r116) (as := [.int xa, .int xb]) (rest := []) (r1 := some (.int (sm_bI (sm_plc xa xb)))) (m1 := w) mz_t116 mz_v116 rfl rfl rfl rfl rfl ((cs_plc (m := w) xa xb).deep (by decide)) ?_
    refine mz_goP 1 (c' := (if (sm_bI (sm_plc xa xb)) = 0 then 8 else 14, [some (.ref 0), some (.int xa), some (.int xb)], [], w)) rfl ?_
    refine mz_ifTP q1 ?_
    refine mz_goP 2 (c' := (10, [some (.ref 0), some (.int xa), some (.int xb)], [.int 1, .ref 0], w)) rfl ?_
    refine mz_doPQ (R := mz_r109) (as := [.ref 0, .int 1]) (rest := []) (r1 := some (.int (-1000001))) (m1 := mz_up w 64 1 ((w 64 1) + 1)) mz_t109 mz_v109_0 rfl rfl rfl rfl rfl ((cs_err1 (m := w)).deep (by decide)) ?_
    refine mz_retP (r := (some (.int ((-1000001))), mz_up w 64 1 ((w 64 1) + 1))) rfl ⟨(-1000001), rfl, ?_⟩
    refine mz_goP 2 (c' := (2, [some (.ref 65), some (.int xa), some (.int xb)], [.int xb, .int xa], mz_up w 64 1 ((w 64 1) + 1))) rfl ?_
    refine mz_doPQ (R := mz_r131) (as := [.int xa, .int xb]) (rest := []) (r1 := some (.int (sm_bI (sm_plc xa xb)))) (m1 := mz_up w 64 1 ((w 64 1) + 1)) mz_t131 mz_v131 rfl rfl rfl rfl rfl ((ct_plc (m := mz_up w 64 1 ((w 64 1) + 1)) xa xb).deep (by decide)) ?_
    refine mz_goP 1 (c' := (if (sm_bI (sm_plc xa xb)) = 0 then 8 else 14, [some (.ref 65), some (.int xa), some (.int xb)], [], mz_up w 64 1 ((w 64 1) + 1))) rfl ?_
    refine mz_ifTP q1 ?_
    refine mz_goP 2 (c' := (10, [some (.ref 65), some (.int xa), some (.int xb)], [.int 1, .ref 65], mz_up w 64 1 ((w 64 1) + 1))) rfl ?_
    refine mz_doPQ (R := mz_r127) (as := [.ref 65, .int 1]) (rest := []) (r1 := some (.int (-1000001))) (m1 := mz_up (mz_up w 64 1 ((w 64 1) + 1)) 68 1 ((w 68 1) + 1)) mz_t127 mz_v127_65 rfl rfl rfl rfl rfl ((ct_err1 (m := mz_up w 64 1 ((w 64 1) + 1))).deep (by decide)) ?_
    refine mz_retP (r := (some (.int ((-1000001))), mz_up (mz_up w 64 1 ((w 64 1) + 1)) 68 1 ((w 68 1) + 1))) rfl ⟨(-1000001), rfl, ?_, rfl⟩
    show sm_I (n + 1) (mz_up (mz_up w 64 1 ((w 64 1) + 1)) 68 1 ((w 68 1) + 1))
    exact sm_I_scr hn hI2 (fun i hi => by
      have hne : ∀ r, sm_scr r = true → i ≠ r := fun r hr e => by
        rw [e, hr] at hi
        cases hi
      simp only [mz_up_ne (hne 64 rfl), mz_up_ne (hne 68 rfl)]) rfl rfl
  · refine mz_doPQ (R := mz_r116) (as := [.int xa, .int xb]) (rest := []) (r1 := some (.int 1)) (m1 := w) mz_t116 mz_v116 rfl rfl rfl rfl rfl ⟨?_, rfl⟩ ?_
    · refine mz_go 3 (c' := (5, [some (.int xa), some (.int xb)], [.int 100, .int (-100), .int xa], w)) rfl ?_
      refine mz_doQ (R := mz_r121) (as := [.int xa, .int (-100), .int 100]) (rest := []) (r1 := some (.int 1)) (m1 := w) mz_t121 mz_v121 rfl rfl rfl rfl rfl ((cs_in1 (m := w) (v := xa) (a := (-100)) (b := 100) (show ¬ (xa < (-100)) from (sm_plc_of q1).1.1) (show ¬ (100 < xa) from (sm_plc_of q1).1.2)).deep (by decide)) ?_
      refine mz_go 4 (c' := (16, [some (.int xa), some (.int xb)], [.int 100, .int (-100), .int xb], w)) rfl ?_
      refine mz_doQ (R := mz_r121) (as := [.int xb, .int (-100), .int 100]) (rest := []) (r1 := some (.int 1)) (m1 := w) mz_t121 mz_v121 rfl rfl rfl rfl rfl ((cs_in1 (m := w) (v := xb) (a := (-100)) (b := 100) (show ¬ (xb < (-100)) from (sm_plc_of q1).2.1) (show ¬ (100 < xb) from (sm_plc_of q1).2.2)).deep (by decide)) ?_
      refine mz_go 3 (c' := (27, [some (.int xa), some (.int xb)], [.int 1], w)) rfl ?_
      exact mz_ret rfl
    refine mz_goP 8 (c' := (25, [some (.ref 0), some (.int xa), some (.int xb)], [.int 0, .int 0, .int xb, .int xa, .ref 19], w)) rfl ?_
    refine mz_doPQ (R := mz_r0) (as := [.ref 19, .int xa, .int xb, .int 0, .int 0]) (rest := []) (r1 := none) (m1 := mz_up (mz_up (mz_up (mz_up (mz_up w 19 0 (16 * xa)) 19 1 (16 * xb)) 19 2 0) 19 3 0) 19 4 0) mz_t0 mz_v0_19 rfl rfl rfl rfl rfl ⟨?_, rfl⟩ ?_
    · refine mz_go 4 (c' := (5, [some (.ref 19), some (.int xa), some (.int xb), some (.int 0), some (.int 0)], [.int (xa * 16), .ref 19], w)) rfl ?_
      rw [Int32.mul_comm xa 16]
      refine mz_go 5 (c' := (13, [some (.ref 19), some (.int xa), some (.int xb), some (.int 0), some (.int 0)], [.int (xb * 16), .ref 19], mz_up w 19 0 (16 * xa))) rfl ?_
      rw [Int32.mul_comm xb 16]
      refine mz_go 10 (c' := (32, [some (.ref 19), some (.int xa), some (.int xb), some (.int 0), some (.int 0)], [], mz_up (mz_up (mz_up (mz_up (mz_up w 19 0 (16 * xa)) 19 1 (16 * xb)) 19 2 0) 19 3 0) 19 4 0)) rfl ?_
      exact mz_ret rfl
    refine mz_goP 1 (c' := (29, [some (.ref 0), some (.int xa), some (.int xb)], [.int 1], mz_up (mz_up (mz_up (mz_up (mz_up w 19 0 (16 * xa)) 19 1 (16 * xb)) 19 2 0) 19 3 0) 19 4 0)) rfl ?_
    refine mz_retP (r := (some (.int (1)), mz_up (mz_up (mz_up (mz_up (mz_up w 19 0 (16 * xa)) 19 1 (16 * xb)) 19 2 0) 19 3 0) 19 4 0)) rfl ⟨1, rfl, ?_⟩
    refine mz_goP 2 (c' := (2, [some (.ref 65), some (.int xa), some (.int xb)], [.int xb, .int xa], mz_up (mz_up (mz_up (mz_up (mz_up w 19 0 (16 * xa)) 19 1 (16 * xb)) 19 2 0) 19 3 0) 19 4 0)) rfl ?_
    refine mz_doPQ (R := mz_r131) (as := [.int xa, .int xb]) (rest := []) (r1 := some (.int 1)) (m1 := mz_up (mz_up (mz_up (mz_up (mz_up w 19 0 (16 * xa)) 19 1 (16 * xb)) 19 2 0) 19 3 0) 19 4 0) mz_t131 mz_v131 rfl rfl rfl rfl rfl ⟨?_, rfl⟩ ?_
    · refine mz_go 3 (c' := (5, [some (.int xa), some (.int xb)], [.int 100, .int (-100), .int xa], mz_up (mz_up (mz_up (mz_up (mz_up w 19 0 (16 * xa)) 19 1 (16 * xb)) 19 2 0) 19 3 0) 19 4 0)) rfl ?_
      refine mz_doQ (R := mz_r128) (as := [.int xa, .int (-100), .int 100]) (rest := []) (r1 := some (.int 1)) (m1 := mz_up (mz_up (mz_up (mz_up (mz_up w 19 0 (16 * xa)) 19 1 (16 * xb)) 19 2 0) 19 3 0) 19 4 0) mz_t128 mz_v128 rfl rfl rfl rfl rfl ((ct_in1 (m := mz_up (mz_up (mz_up (mz_up (mz_up w 19 0 (16 * xa)) 19 1 (16 * xb)) 19 2 0) 19 3 0) 19 4 0) (v := xa) (a := (-100)) (b := 100) (show ¬ (xa < (-100)) from (sm_plc_of q1).1.1) (show ¬ (100 < xa) from (sm_plc_of q1).1.2)).deep (by decide)) ?_
      refine mz_go 4 (c' := (16, [some (.int xa), some (.int xb)], [.int 100, .int (-100), .int xb], mz_up (mz_up (mz_up (mz_up (mz_up w 19 0 (16 * xa)) 19 1 (16 * xb)) 19 2 0) 19 3 0) 19 4 0)) rfl ?_
      refine mz_doQ (R := mz_r128) (as := [.int xb, .int (-100), .int 100]) (rest := []) (r1 := some (.int 1)) (m1 := mz_up (mz_up (mz_up (mz_up (mz_up w 19 0 (16 * xa)) 19 1 (16 * xb)) 19 2 0) 19 3 0) 19 4 0) mz_t128 mz_v128 rfl rfl rfl rfl rfl ((ct_in1 (m := mz_up (mz_up (mz_up (mz_up (mz_up w 19 0 (16 * xa)) 19 1 (16 * xb)) 19 2 0) 19 3 0) 19 4 0) (v := xb) (a := (-100)) (b := 100) (show ¬ (xb < (-100)) from (sm_plc_of q1).2.1) (show ¬ (100 < xb) from (sm_plc_of q1).2.2)).deep (by decide)) ?_
      refine mz_go 3 (c' := (27, [some (.int xa), some (.int xb)], [.int 1], mz_up (mz_up (mz_up (mz_up (mz_up w 19 0 (16 * xa)) 19 1 (16 * xb)) 19 2 0) 19 3 0) 19 4 0)) rfl ?_
      exact mz_ret rfl
    refine mz_goP 6 (c' := (19, [some (.ref 65), some (.int xa), some (.int xb)], [.int 0, .int 0, .int xb, .int xa, .ref 65], mz_up (mz_up (mz_up (mz_up (mz_up w 19 0 (16 * xa)) 19 1 (16 * xb)) 19 2 0) 19 3 0) 19 4 0)) rfl ?_
    refine mz_doPQ (R := mz_r144) (as := [.ref 65, .int xa, .int xb, .int 0, .int 0]) (rest := []) (r1 := none) (m1 := mz_up (mz_up (mz_up (mz_up (mz_up (mz_up (mz_up (mz_up (mz_up (mz_up w 19 0 (16 * xa)) 19 1 (16 * xb)) 19 2 0) 19 3 0) 19 4 0) 65 4 (16 * xa)) 65 5 (16 * xb)) 65 6 0) 65 7 0) 65 8 0) mz_t144 mz_v144_65 rfl rfl rfl rfl rfl ⟨?_, rfl⟩ ?_
    · refine mz_go 19 (c' := (32, [some (.ref 65), some (.int xa), some (.int xb), some (.int 0), some (.int 0)], [], mz_up (mz_up (mz_up (mz_up (mz_up (mz_up (mz_up (mz_up (mz_up (mz_up w 19 0 (16 * xa)) 19 1 (16 * xb)) 19 2 0) 19 3 0) 19 4 0) 65 4 (16 * xa)) 65 5 (16 * xb)) 65 6 0) 65 7 0) 65 8 0)) rfl ?_
      exact mz_ret rfl
    refine mz_goP 1 (c' := (23, [some (.ref 65), some (.int xa), some (.int xb)], [.ref 65], mz_up (mz_up (mz_up (mz_up (mz_up (mz_up (mz_up (mz_up (mz_up (mz_up w 19 0 (16 * xa)) 19 1 (16 * xb)) 19 2 0) 19 3 0) 19 4 0) 65 4 (16 * xa)) 65 5 (16 * xb)) 65 6 0) 65 7 0) 65 8 0)) rfl ?_
    refine mz_doPQ (R := mz_r146) (as := [.ref 65]) (rest := []) (r1 := none) (m1 := mz_up (mz_up (mz_up (mz_up (mz_up (mz_up (mz_up (mz_up (mz_up (mz_up (mz_up (mz_up (mz_up (mz_up (mz_up w 19 0 (16 * xa)) 19 1 (16 * xb)) 19 2 0) 19 3 0) 19 4 0) 65 4 (16 * xa)) 65 5 (16 * xb)) 65 6 0) 65 7 0) 65 8 0) 66 20 (16 * xa)) 66 21 (16 * xb)) 66 22 0) 66 23 0) 66 24 0) mz_t146 mz_v146_65 rfl rfl rfl rfl rfl ⟨?_, rfl⟩ ?_
    · refine mz_go 24 (c' := (44, [some (.ref 65)], [], mz_up (mz_up (mz_up (mz_up (mz_up (mz_up (mz_up (mz_up (mz_up (mz_up (mz_up (mz_up (mz_up (mz_up w 19 0 (16 * xa)) 19 1 (16 * xb)) 19 2 0) 19 3 0) 19 4 0) 65 4 (16 * xa)) 65 5 (16 * xb)) 65 6 0) 65 7 0) 65 8 0) 66 20 (16 * xa)) 66 21 (16 * xb)) 66 22 0) 66 23 0)) rfl ?_
      refine mz_go 6 (c' := (55, [some (.ref 65)], [], mz_up (mz_up (mz_up (mz_up (mz_up (mz_up (mz_up (mz_up (mz_up (mz_up (mz_up (mz_up (mz_up (mz_up (mz_up w 19 0 (16 * xa)) 19 1 (16 * xb)) 19 2 0) 19 3 0) 19 4 0) 65 4 (16 * xa)) 65 5 (16 * xb)) 65 6 0) 65 7 0) 65 8 0) 66 20 (16 * xa)) 66 21 (16 * xb)) 66 22 0) 66 23 0) 66 24 0)) rfl ?_
      exact mz_ret rfl
    refine mz_goP 1 (c' := (27, [some (.ref 65), some (.int xa), some (.int xb)], [.int 1], mz_up (mz_up (mz_up (mz_up (mz_up (mz_up (mz_up (mz_up (mz_up (mz_up (mz_up (mz_up (mz_up (mz_up (mz_up w 19 0 (16 * xa)) 19 1 (16 * xb)) 19 2 0) 19 3 0) 19 4 0) 65 4 (16 * xa)) 65 5 (16 * xb)) 65 6 0) 65 7 0) 65 8 0) 66 20 (16 * xa)) 66 21 (16 * xb)) 66 22 0) 66 23 0) 66 24 0)) rfl ?_
    refine mz_retP (r := (some (.int (1)), mz_up (mz_up (mz_up (mz_up (mz_up (mz_up (mz_up (mz_up (mz_up (mz_up (mz_up (mz_up (mz_up (mz_up (mz_up w 19 0 (16 * xa)) 19 1 (16 * xb)) 19 2 0) 19 3 0) 19 4 0) 65 4 (16 * xa)) 65 5 (16 * xb)) 65 6 0) 65 7 0) 65 8 0) 66 20 (16 * xa)) 66 21 (16 * xb)) 66 22 0) 66 23 0) 66 24 0)) rfl ⟨1, rfl, ?_, rfl⟩
    show sm_I (n + 1) (mz_up (mz_up (mz_up (mz_up (mz_up (mz_up (mz_up (mz_up (mz_up (mz_up (mz_up (mz_up (mz_up (mz_up (mz_up w 19 0 (16 * xa)) 19 1 (16 * xb)) 19 2 0) 19 3 0) 19 4 0) 65 4 (16 * xa)) 65 5 (16 * xb)) 65 6 0) 65 7 0) 65 8 0) 66 20 (16 * xa)) 66 21 (16 * xb)) 66 22 0) 66 23 0) 66 24 0)
    obtain ⟨-, ⟨d1, d2, d3, ⟨d4, d4b, d4c⟩, d5, d6, d7, d8⟩, da, db, dc⟩ := hI2
    have hs : ∀ i, i ≠ 20 → i ≠ 21 → i ≠ 22 → i ≠ 23 → i ≠ 24 → (mz_up (mz_up (mz_up (mz_up (mz_up (mz_up (mz_up (mz_up (mz_up (mz_up (mz_up (mz_up (mz_up (mz_up (mz_up w 19 0 (16 * xa)) 19 1 (16 * xb)) 19 2 0) 19 3 0) 19 4 0) 65 4 (16 * xa)) 65 5 (16 * xb)) 65 6 0) 65 7 0) 65 8 0) 66 20 (16 * xa)) 66 21 (16 * xb)) 66 22 0) 66 23 0) 66 24 0) 66 i = w 66 i := fun i p0 p1 p2 p3 p4 => by rw [mz_up_eq, if_neg (by omega), mz_up_eq, if_neg (by omega), mz_up_eq, if_neg (by omega), mz_up_eq, if_neg (by omega), mz_up_eq, if_neg (by omega), mz_up_ne (show (66 : Nat) ≠ 65 by decide), mz_up_ne (show (66 : Nat) ≠ 65 by decide), mz_up_ne (show (66 : Nat) ≠ 65 by decide), mz_up_ne (show (66 : Nat) ≠ 65 by decide), mz_up_ne (show (66 : Nat) ≠ 65 by decide), mz_up_ne (show (66 : Nat) ≠ 19 by decide), mz_up_ne (show (66 : Nat) ≠ 19 by decide), mz_up_ne (show (66 : Nat) ≠ 19 by decide), mz_up_ne (show (66 : Nat) ≠ 19 by decide), mz_up_ne (show (66 : Nat) ≠ 19 by decide)]
    exact ⟨hn, ⟨sm_k1 (hs 0 (by omega) (by omega) (by omega) (by omega) (by omega)) (fun i h1 h2 => hs i (by omega) (by omega) (by omega) (by omega) (by omega)) d1, sm_k2 (fun i h1 h2 => hs i (by omega) (by omega) (by omega) (by omega) (by omega)) d2, sm_k3 (hs 1 (by omega) (by omega) (by omega) (by omega) (by omega)) (fun i h1 h2 => hs i (by omega) (by omega) (by omega) (by omega) (by omega)) d3, ⟨sm_k4 (fun i h1 h2 => hs i (by omega) (by omega) (by omega) (by omega) (by omega)) d4, sm_k4 (fun i h1 h2 => hs i (by omega) (by omega) (by omega) (by omega) (by omega)) d4b, sm_k4 (fun i h1 h2 => hs i (by omega) (by omega) (by omega) (by omega) (by omega)) d4c⟩, ⟨sm_16 (sm_B_of (sm_plc_of q1).1.1 (sm_plc_of q1).1.2), sm_16 (sm_B_of (sm_plc_of q1).2.1 (sm_plc_of q1).2.2), ⟨rfl, rfl, rfl, rfl, rfl⟩⟩, sm_k6 (fun i h1 h2 => hs i (by omega) (by omega) (by omega) (by omega) (by omega)) d6, sm_k7 (fun i h1 h2 => hs i (by omega) (by omega) (by omega) (by omega) (by omega)) d7, sm_k8 (hs 2 (by omega) (by omega) (by omega) (by omega) (by omega)) (hs 3 (by omega) (by omega) (by omega) (by omega) (by omega)) (fun i h1 h2 => hs i (by omega) (by omega) (by omega) (by omega) (by omega)) d8⟩, da, db, sm_cc_of (fun i h1 h2 => by simp only [mz_up_ne (show i ≠ 19 by omega), mz_up_ne (show i ≠ 65 by omega), mz_up_ne (show i ≠ 66 by omega)]) dc⟩
set_option maxHeartbeats 4000000 in
set_option maxRecDepth 100000 in
theorem sc_told {n : Nat} (hn : n < 64) {w : mz_M} (hI : sm_I n w) (xa : Int32) : ∃ v1 v2 m1 m2, mz_Me 100 mz_r108 [.ref 0, .int xa] w (some (.int v1)) m1 ∧ mz_Me 100 mz_r229 [.ref 65, .int xa] m1 (some (.int v2)) m2 ∧ sm_I (n + 1) m2 := by
  have hI2 := hI
  obtain ⟨hn0, ⟨-, ⟨hr80, hr5, hrr⟩, ⟨⟨TT, hTT, h81, h661⟩, htp⟩, ⟨⟨T0, hT0, hU0, hV0, -⟩, ⟨T1, hT1, hU1, hV1, -⟩, ⟨T2, hT2, hU2, hV2, -⟩⟩, ⟨hbx, hby, hbl⟩, ⟨⟨WW, HH, hWW, hHH, hWH, h202, h203, h6660, h6661⟩, h6662, h6663, h6664, hpc⟩, ⟨hth, h66160, hthr⟩, ⟨⟨AA, hAA, h111, h662⟩, h663, hwt⟩⟩, ⟨hsh, hsn⟩, ⟨hcb1, hcb2⟩, ⟨JJ, hJJ, h07, h652, hkept⟩⟩ := hI
  obtain ⟨N, hw, hr2, h660, -, -, h6615⟩ := sm_world hI2
  have hw2 := hw
  obtain ⟨hN, h4, hpb, -, -⟩ := hw2
  have hT60a := sm_T60 hV0
  have hT60b := sm_T60 hV1
  have hT60c := sm_T60 hV2
  obtain ⟨B1, hB1, e571⟩ := sm_Nof (by decide) hcb1
  obtain ⟨B2, hB2, e6519⟩ := sm_Nof (by decide) hcb2
  refine mz_two (fun _ => rfl) (fun _ => rfl) ?_
  by_cases q1 : (sm_bI (sm_in xa 1 6)) = 0
  · refine mz_goP 3 (c' := (4, [some (.ref 0), some (.int xa)], [.int 6, .int 1, .int xa], w)) rfl ?_
    refine mz_doPQ (R := mz_r121) (as := [.int xa, .int 1, .int 6]) (rest := []) (r1 := some (.int (sm_bI (sm_in xa 1 6)))) (m1 := w) mz_t121 mz_v121 rfl rfl rfl rfl rfl ((cs_in (m := w) xa 1 6).deep (by decide)) ?_
    refine mz_goP 1 (c' := (if (sm_bI (sm_in xa 1 6)) = 0 then 19 else 10, [some (.ref 0), some (.int xa)], [], w)) rfl ?_
    refine mz_ifTP q1 ?_
    refine mz_goP 2 (c' := (21, [some (.ref 0), some (.int xa)], [.int 1, .ref 0], w)) rfl ?_
    refine mz_doPQ (R := mz_r109) (as := [.ref 0, .int 1]) (rest := []) (r1 := some (.int (-1000001))) (m1 := mz_up w 64 1 ((w 64 1) + 1)) mz_t109 mz_v109_0 rfl rfl rfl rfl rfl ((cs_err1 (m := w)).deep (by decide)) ?_
    refine mz_retP (r := (some (.int ((-1000001))), mz_up w 64 1 ((w 64 1) + 1))) rfl ⟨(-1000001), rfl, ?_⟩
    refine mz_goP 3 (c' := (4, [some (.ref 65), some (.int xa)], [.int 6, .int 1, .int xa], mz_up w 64 1 ((w 64 1) + 1))) rfl ?_
    refine mz_doPQ (R := mz_r128) (as := [.int xa, .int 1, .int 6]) (rest := []) (r1 := some (.int (sm_bI (sm_in xa 1 6)))) (m1 := mz_up w 64 1 ((w 64 1) + 1)) mz_t128 mz_v128 rfl rfl rfl rfl rfl ((ct_in (m := mz_up w 64 1 ((w 64 1) + 1)) xa 1 6).deep (by decide)) ?_
    refine mz_goP 1 (c' := (if (sm_bI (sm_in xa 1 6)) = 0 then 19 else 10, [some (.ref 65), some (.int xa)], [], mz_up w 64 1 ((w 64 1) + 1))) rfl ?_
    refine mz_ifTP q1 ?_
    refine mz_goP 2 (c' := (21, [some (.ref 65), some (.int xa)], [.int 1, .ref 65], mz_up w 64 1 ((w 64 1) + 1))) rfl ?_
    refine mz_doPQ (R := mz_r127) (as := [.ref 65, .int 1]) (rest := []) (r1 := some (.int (-1000001))) (m1 := mz_up (mz_up w 64 1 ((w 64 1) + 1)) 68 1 ((w 68 1) + 1)) mz_t127 mz_v127_65 rfl rfl rfl rfl rfl ((ct_err1 (m := mz_up w 64 1 ((w 64 1) + 1))).deep (by decide)) ?_
    refine mz_retP (r := (some (.int ((-1000001))), mz_up (mz_up w 64 1 ((w 64 1) + 1)) 68 1 ((w 68 1) + 1))) rfl ⟨(-1000001), rfl, ?_⟩
    show sm_I (n + 1) (mz_up (mz_up w 64 1 ((w 64 1) + 1)) 68 1 ((w 68 1) + 1))
    exact sm_I_scr hn hI2 (fun i hi => by
      have hne : ∀ r, sm_scr r = true → i ≠ r := fun r hr e => by
        rw [e, hr] at hi
        cases hi
      simp only [mz_up_ne (hne 64 rfl), mz_up_ne (hne 68 rfl)]) rfl rfl
  · have hl2 : (1 : Int) ≤ (xa).toInt := Int32.le_iff_toInt_le.mp (Int32.not_lt.mp (sm_in_lo q1))
    have hu2 : (xa).toInt ≤ (6 : Int) := Int32.le_iff_toInt_le.mp (Int32.not_lt.mp (sm_in_hi q1))
    obtain rfl | rfl | rfl | rfl | rfl | rfl : xa = 1 ∨ xa = 2 ∨ xa = 3 ∨ xa = 4 ∨ xa = 5 ∨ xa = 6 := by
      rcases (show xa.toInt = 1 ∨ xa.toInt = 2 ∨ xa.toInt = 3 ∨ xa.toInt = 4 ∨ xa.toInt = 5 ∨ xa.toInt = 6 by omega) with h | h | h | h | h | h
      · exact (Or.inl (Int32.toInt_inj.mp h))
      · exact (Or.inr (Or.inl (Int32.toInt_inj.mp h)))
      · exact (Or.inr (Or.inr (Or.inl (Int32.toInt_inj.mp h))))
      · exact (Or.inr (Or.inr (Or.inr (Or.inl (Int32.toInt_inj.mp h)))))
      · exact (Or.inr (Or.inr (Or.inr (Or.inr (Or.inl (Int32.toInt_inj.mp h))))))
      · exact (Or.inr (Or.inr (Or.inr (Or.inr (Or.inr (Int32.toInt_inj.mp h))))))
    · refine mz_goP 3 (c' := (4, [some (.ref 0), some (.int 1)], [.int 6, .int 1, .int 1], w)) rfl ?_
      refine mz_doPQ (R := mz_r121) (as := [.int 1, .int 1, .int 6]) (rest := []) (r1 := some (.int 1)) (m1 := w) mz_t121 mz_v121 rfl rfl rfl rfl rfl ((cs_in1 (m := w) (v := 1) (a := 1) (b := 6) (by decide) (by decide)).deep (by decide)) ?_
      refine mz_goP 6 (c' := (24, [some (.ref 0), some (.int 1)], [.int (w 64 1)], w)) rfl ?_
      refine mz_retP (r := (some (.int (w 64 1)), w)) rfl ⟨w 64 1, rfl, ?_⟩
      refine mz_goP 3 (c' := (4, [some (.ref 65), some (.int 1)], [.int 6, .int 1, .int 1], w)) rfl ?_
      refine mz_doPQ (R := mz_r128) (as := [.int 1, .int 1, .int 6]) (rest := []) (r1 := some (.int 1)) (m1 := w) mz_t128 mz_v128 rfl rfl rfl rfl rfl ((ct_in1 (m := w) (v := 1) (a := 1) (b := 6) (by decide) (by decide)).deep (by decide)) ?_
      refine mz_goP 6 (c' := (24, [some (.ref 65), some (.int 1)], [.int (w 68 1)], w)) rfl ?_
      refine mz_retP (r := (some (.int (w 68 1)), w)) rfl ⟨w 68 1, rfl, ?_⟩
      show sm_I (n + 1) (w)
      exact sm_I_scr hn hI2 (fun _ _ => rfl) rfl rfl
    · refine mz_goP 3 (c' := (4, [some (.ref 0), some (.int 2)], [.int 6, .int 1, .int 2], w)) rfl ?_
      refine mz_doPQ (R := mz_r121) (as := [.int 2, .int 1, .int 6]) (rest := []) (r1 := some (.int 1)) (m1 := w) mz_t121 mz_v121 rfl rfl rfl rfl rfl ((cs_in1 (m := w) (v := 2) (a := 1) (b := 6) (by decide) (by decide)).deep (by decide)) ?_
      refine mz_goP 6 (c' := (24, [some (.ref 0), some (.int 2)], [.int (w 64 2)], w)) rfl ?_
      refine mz_retP (r := (some (.int (w 64 2)), w)) rfl ⟨w 64 2, rfl, ?_⟩
      refine mz_goP 3 (c' := (4, [some (.ref 65), some (.int 2)], [.int 6, .int 1, .int 2], w)) rfl ?_
      refine mz_doPQ (R := mz_r128) (as := [.int 2, .int 1, .int 6]) (rest := []) (r1 := some (.int 1)) (m1 := w) mz_t128 mz_v128 rfl rfl rfl rfl rfl ((ct_in1 (m := w) (v := 2) (a := 1) (b := 6) (by decide) (by decide)).deep (by decide)) ?_
      refine mz_goP 6 (c' := (24, [some (.ref 65), some (.int 2)], [.int (w 68 2)], w)) rfl ?_
      refine mz_retP (r := (some (.int (w 68 2)), w)) rfl ⟨w 68 2, rfl, ?_⟩
      show sm_I (n + 1) (w)
      exact sm_I_scr hn hI2 (fun _ _ => rfl) rfl rfl
    · refine mz_goP 3 (c' := (4, [some (.ref 0), some (.int 3)], [.int 6, .int 1, .int 3], w)) rfl ?_
      refine mz_doPQ (R := mz_r121) (as := [.int 3, .int 1, .int 6]) (rest := []) (r1 := some (.int 1)) (m1 := w) mz_t121 mz_v121 rfl rfl rfl rfl rfl ((cs_in1 (m := w) (v := 3) (a := 1) (b := 6) (by decide) (by decide)).deep (by decide)) ?_
      refine mz_goP 6 (c' := (24, [some (.ref 0), some (.int 3)], [.int (w 64 3)], w)) rfl ?_
      refine mz_retP (r := (some (.int (w 64 3)), w)) rfl ⟨w 64 3, rfl, ?_⟩
      refine mz_goP 3 (c' := (4, [some (.ref 65), some (.int 3)], [.int 6, .int 1, .int 3], w)) rfl ?_
      refine mz_doPQ (R := mz_r128) (as := [.int 3, .int 1, .int 6]) (rest := []) (r1 := some (.int 1)) (m1 := w) mz_t128 mz_v128 rfl rfl rfl rfl rfl ((ct_in1 (m := w) (v := 3) (a := 1) (b := 6) (by decide) (by decide)).deep (by decide)) ?_
      refine mz_goP 6 (c' := (24, [some (.ref 65), some (.int 3)], [.int (w 68 3)], w)) rfl ?_
      refine mz_retP (r := (some (.int (w 68 3)), w)) rfl ⟨w 68 3, rfl, ?_⟩
      show sm_I (n + 1) (w)
      exact sm_I_scr hn hI2 (fun _ _ => rfl) rfl rfl
    · refine mz_goP 3 (c' := (4, [some (.ref 0), some (.int 4)], [.int 6, .int 1, .int 4], w)) rfl ?_
      refine mz_doPQ (R := mz_r121) (as := [.int 4, .int 1, .int 6]) (rest := []) (r1 := some (.int 1)) (m1 := w) mz_t121 mz_v121 rfl rfl rfl rfl rfl ((cs_in1 (m := w) (v := 4) (a := 1) (b := 6) (by decide) (by decide)).deep (by decide)) ?_
      refine mz_goP 6 (c' := (24, [some (.ref 0), some (.int 4)], [.int (w 64 4)], w)) rfl ?_
      refine mz_retP (r := (some (.int (w 64 4)), w)) rfl ⟨w 64 4, rfl, ?_⟩
      refine mz_goP 3 (c' := (4, [some (.ref 65), some (.int 4)], [.int 6, .int 1, .int 4], w)) rfl ?_
      refine mz_doPQ (R := mz_r128) (as := [.int 4, .int 1, .int 6]) (rest := []) (r1 := some (.int 1)) (m1 := w) mz_t128 mz_v128 rfl rfl rfl rfl rfl ((ct_in1 (m := w) (v := 4) (a := 1) (b := 6) (by decide) (by decide)).deep (by decide)) ?_
      refine mz_goP 6 (c' := (24, [some (.ref 65), some (.int 4)], [.int (w 68 4)], w)) rfl ?_
      refine mz_retP (r := (some (.int (w 68 4)), w)) rfl ⟨w 68 4, rfl, ?_⟩
      show sm_I (n + 1) (w)
      exact sm_I_scr hn hI2 (fun _ _ => rfl) rfl rfl
    · refine mz_goP 3 (c' := (4, [some (.ref 0), some (.int 5)], [.int 6, .int 1, .int 5], w)) rfl ?_
      refine mz_doPQ (R := mz_r121) (as := [.int 5, .int 1, .int 6]) (rest := []) (r1 := some (.int 1)) (m1 := w) mz_t121 mz_v121 rfl rfl rfl rfl rfl ((cs_in1 (m := w) (v := 5) (a := 1) (b := 6) (by decide) (by decide)).deep (by decide)) ?_
      refine mz_goP 6 (c' := (24, [some (.ref 0), some (.int 5)], [.int (w 64 5)], w)) rfl ?_
      refine mz_retP (r := (some (.int (w 64 5)), w)) rfl ⟨w 64 5, rfl, ?_⟩
      refine mz_goP 3 (c' := (4, [some (.ref 65), some (.int 5)], [.int 6, .int 1, .int 5], w)) rfl ?_
      refine mz_doPQ (R := mz_r128) (as := [.int 5, .int 1, .int 6]) (rest := []) (r1 := some (.int 1)) (m1 := w) mz_t128 mz_v128 rfl rfl rfl rfl rfl ((ct_in1 (m := w) (v := 5) (a := 1) (b := 6) (by decide) (by decide)).deep (by decide)) ?_
      refine mz_goP 6 (c' := (24, [some (.ref 65), some (.int 5)], [.int (w 68 5)], w)) rfl ?_
      refine mz_retP (r := (some (.int (w 68 5)), w)) rfl ⟨w 68 5, rfl, ?_⟩
      show sm_I (n + 1) (w)
      exact sm_I_scr hn hI2 (fun _ _ => rfl) rfl rfl
    · refine mz_goP 3 (c' := (4, [some (.ref 0), some (.int 6)], [.int 6, .int 1, .int 6], w)) rfl ?_
      refine mz_doPQ (R := mz_r121) (as := [.int 6, .int 1, .int 6]) (rest := []) (r1 := some (.int 1)) (m1 := w) mz_t121 mz_v121 rfl rfl rfl rfl rfl ((cs_in1 (m := w) (v := 6) (a := 1) (b := 6) (by decide) (by decide)).deep (by decide)) ?_
      refine mz_goP 6 (c' := (24, [some (.ref 0), some (.int 6)], [.int (w 64 6)], w)) rfl ?_
      refine mz_retP (r := (some (.int (w 64 6)), w)) rfl ⟨w 64 6, rfl, ?_⟩
      refine mz_goP 3 (c' := (4, [some (.ref 65), some (.int 6)], [.int 6, .int 1, .int 6], w)) rfl ?_
      refine mz_doPQ (R := mz_r128) (as := [.int 6, .int 1, .int 6]) (rest := []) (r1 := some (.int 1)) (m1 := w) mz_t128 mz_v128 rfl rfl rfl rfl rfl ((ct_in1 (m := w) (v := 6) (a := 1) (b := 6) (by decide) (by decide)).deep (by decide)) ?_
      refine mz_goP 6 (c' := (24, [some (.ref 65), some (.int 6)], [.int (w 68 6)], w)) rfl ?_
      refine mz_retP (r := (some (.int (w 68 6)), w)) rfl ⟨w 68 6, rfl, ?_⟩
      show sm_I (n + 1) (w)
      exact sm_I_scr hn hI2 (fun _ _ => rfl) rfl rfl
set_option maxHeartbeats 4000000 in
set_option maxRecDepth 100000 in
theorem sc_cell {n : Nat} (hn : n < 64) {w : mz_M} (hI : sm_I n w) (xa : Int32) (xb : Int32) : ∃ v1 v2 m1 m2, mz_Me 100 mz_r86 [.ref 0, .int xa, .int xb] w (some (.int v1)) m1 ∧ mz_Me 100 mz_r191 [.ref 65, .int xa, .int xb] m1 (some (.int v2)) m2 ∧ sm_I (n + 1) m2 ∧ v1 = v2 := by
  have hI2 := hI
  obtain ⟨hn0, ⟨-, ⟨hr80, hr5, hrr⟩, ⟨⟨TT, hTT, h81, h661⟩, htp⟩, ⟨⟨T0, hT0, hU0, hV0, -⟩, ⟨T1, hT1, hU1, hV1, -⟩, ⟨T2, hT2, hU2, hV2, -⟩⟩, ⟨hbx, hby, hbl⟩, ⟨⟨WW, HH, hWW, hHH, hWH, h202, h203, h6660, h6661⟩, h6662, h6663, h6664, hpc⟩, ⟨hth, h66160, hthr⟩, ⟨⟨AA, hAA, h111, h662⟩, h663, hwt⟩⟩, ⟨hsh, hsn⟩, ⟨hcb1, hcb2⟩, ⟨JJ, hJJ, h07, h652, hkept⟩⟩ := hI
  obtain ⟨N, hw, hr2, h660, -, -, h6615⟩ := sm_world hI2
  have hw2 := hw
  obtain ⟨hN, h4, hpb, -, -⟩ := hw2
  have hT60a := sm_T60 hV0
  have hT60b := sm_T60 hV1
  have hT60c := sm_T60 hV2
  obtain ⟨B1, hB1, e571⟩ := sm_Nof (by decide) hcb1
  obtain ⟨B2, hB2, e6519⟩ := sm_Nof (by decide) hcb2
  refine mz_two (fun _ => rfl) (fun _ => rfl) ?_
  by_cases q1 : WW ≤ 0
  · refine mz_goP 3 (c' := (7, [some (.ref 0), some (.int xa), some (.int xb)], [.ref 20], w)) rfl ?_
    refine mz_doPQ (R := mz_r2) (as := [.ref 20]) (rest := []) (r1 := some (.int 0)) (m1 := w) mz_t2 mz_v2_20 rfl rfl rfl rfl rfl ⟨?_, rfl⟩ ?_
    · refine mz_go 2 (c' := (4, [some (.ref 20)], [.int (w 20 2)], w)) rfl ?_
      rw [h202]
      refine mz_go 1 (c' := (if (nI WW) ≤ 0 then 18 else 7, [some (.ref 20)], [], w)) rfl ?_
      refine mz_ifT (show ((nI WW) ≤ 0) from (sm_leN rfl rfl (show WW ≤ 0 by omega) (show 0 < 2 ^ 31 by omega))) ?_
      refine mz_go 1 (c' := (19, [some (.ref 20)], [.int 0], w)) rfl ?_
      exact mz_ret rfl
    refine mz_goP 3 (c' := (15, [some (.ref 0), some (.int xa), some (.int xb)], [.int 2, .ref 0], w)) rfl ?_
    refine mz_doPQ (R := mz_r109) (as := [.ref 0, .int 2]) (rest := []) (r1 := some (.int (-1000002))) (m1 := mz_up w 64 2 ((w 64 2) + 1)) mz_t109 mz_v109_0 rfl rfl rfl rfl rfl ((cs_err2 (m := w)).deep (by decide)) ?_
    refine mz_retP (r := (some (.int ((-1000002))), mz_up w 64 2 ((w 64 2) + 1))) rfl ⟨(-1000002), rfl, ?_⟩
    refine mz_goP 1 (c' := (1, [some (.ref 65), some (.int xa), some (.int xb)], [.ref 65], mz_up w 64 2 ((w 64 2) + 1))) rfl ?_
    refine mz_doPQ (R := mz_r185) (as := [.ref 65]) (rest := []) (r1 := some (.int 0)) (m1 := mz_up w 64 2 ((w 64 2) + 1)) mz_t185 mz_v185_65 rfl rfl rfl rfl rfl ⟨?_, rfl⟩ ?_
    · refine mz_go 1 (c' := (1, [some (.ref 65)], [.ref 65], mz_up w 64 2 ((w 64 2) + 1))) rfl ?_
      refine mz_doQ (R := mz_r183) (as := [.ref 65]) (rest := []) (r1 := some (.int (nI WW))) (m1 := mz_up w 64 2 ((w 64 2) + 1)) mz_t183 mz_v183_65 rfl rfl rfl rfl rfl ⟨?_, rfl⟩ ?_
      · refine mz_go 4 (c' := (7, [some (.ref 65)], [.int (w 66 60)], mz_up w 64 2 ((w 64 2) + 1))) rfl ?_
        rw [h6660]
        exact mz_ret rfl
      refine mz_go 1 (c' := (if (nI WW) ≤ 0 then 11 else 7, [some (.ref 65)], [], mz_up w 64 2 ((w 64 2) + 1))) rfl ?_
      refine mz_ifT (show ((nI WW) ≤ 0) from (sm_leN rfl rfl (show WW ≤ 0 by omega) (show 0 < 2 ^ 31 by omega))) ?_
      refine mz_go 1 (c' := (12, [some (.ref 65)], [.int 0], mz_up w 64 2 ((w 64 2) + 1))) rfl ?_
      exact mz_ret rfl
    refine mz_goP 3 (c' := (9, [some (.ref 65), some (.int xa), some (.int xb)], [.int 2, .ref 65], mz_up w 64 2 ((w 64 2) + 1))) rfl ?_
    refine mz_doPQ (R := mz_r127) (as := [.ref 65, .int 2]) (rest := []) (r1 := some (.int (-1000002))) (m1 := mz_up (mz_up w 64 2 ((w 64 2) + 1)) 68 2 ((w 68 2) + 1)) mz_t127 mz_v127_65 rfl rfl rfl rfl rfl ((ct_err2 (m := mz_up w 64 2 ((w 64 2) + 1))).deep (by decide)) ?_
    refine mz_retP (r := (some (.int ((-1000002))), mz_up (mz_up w 64 2 ((w 64 2) + 1)) 68 2 ((w 68 2) + 1))) rfl ⟨(-1000002), rfl, ?_, rfl⟩
    show sm_I (n + 1) (mz_up (mz_up w 64 2 ((w 64 2) + 1)) 68 2 ((w 68 2) + 1))
    exact sm_I_scr hn hI2 (fun i hi => by
      have hne : ∀ r, sm_scr r = true → i ≠ r := fun r hr e => by
        rw [e, hr] at hi
        cases hi
      simp only [mz_up_ne (hne 64 rfl), mz_up_ne (hne 68 rfl)]) rfl rfl
  · by_cases q2 : xa < 0
    · refine mz_goP 3 (c' := (7, [some (.ref 0), some (.int xa), some (.int xb)], [.ref 20], w)) rfl ?_
      refine mz_doPQ (R := mz_r2) (as := [.ref 20]) (rest := []) (r1 := some (.int 1)) (m1 := w) mz_t2 mz_v2_20 rfl rfl rfl rfl rfl ⟨?_, rfl⟩ ?_
      · refine mz_go 2 (c' := (4, [some (.ref 20)], [.int (w 20 2)], w)) rfl ?_
        rw [h202]
        refine mz_go 1 (c' := (if (nI WW) ≤ 0 then 18 else 7, [some (.ref 20)], [], w)) rfl ?_
        refine mz_ifF (show ¬ ((nI WW) ≤ 0) from (sm_nleN rfl rfl (show 0 < WW by omega) (show WW < 2 ^ 31 by omega))) ?_
        refine mz_go 2 (c' := (11, [some (.ref 20)], [.int (w 20 3)], w)) rfl ?_
        rw [h203]
        refine mz_go 1 (c' := (if (nI HH) ≤ 0 then 18 else 14, [some (.ref 20)], [], w)) rfl ?_
        refine mz_ifF (show ¬ ((nI HH) ≤ 0) from (sm_nleN rfl rfl (show 0 < HH by omega) (show HH < 2 ^ 31 by omega))) ?_
        refine mz_go 2 (c' := (19, [some (.ref 20)], [.int 1], w)) rfl ?_
        exact mz_ret rfl
      refine mz_goP 6 (c' := (28, [some (.ref 0), some (.int xa), some (.int xb)], [.int xb, .int xa, .ref 20], w)) rfl ?_
      refine mz_doPQ (R := mz_r4) (as := [.ref 20, .int xa, .int xb]) (rest := []) (r1 := some (.int 0)) (m1 := w) mz_t4 mz_v4_20 rfl rfl rfl rfl rfl ⟨?_, rfl⟩ ?_
      · refine mz_go 2 (c' := (if xa < 0 then 40 else 4, [some (.ref 20), some (.int xa), some (.int xb)], [], w)) rfl ?_
        refine mz_ifT q2 ?_
        refine mz_go 1 (c' := (41, [some (.ref 20), some (.int xa), some (.int xb)], [.int 0], w)) rfl ?_
        exact mz_ret rfl
      refine mz_goP 3 (c' := (36, [some (.ref 0), some (.int xa), some (.int xb)], [.int 1, .ref 0], w)) rfl ?_
      refine mz_doPQ (R := mz_r109) (as := [.ref 0, .int 1]) (rest := []) (r1 := some (.int (-1000001))) (m1 := mz_up w 64 1 ((w 64 1) + 1)) mz_t109 mz_v109_0 rfl rfl rfl rfl rfl ((cs_err1 (m := w)).deep (by decide)) ?_
      refine mz_retP (r := (some (.int ((-1000001))), mz_up w 64 1 ((w 64 1) + 1))) rfl ⟨(-1000001), rfl, ?_⟩
      refine mz_goP 1 (c' := (1, [some (.ref 65), some (.int xa), some (.int xb)], [.ref 65], mz_up w 64 1 ((w 64 1) + 1))) rfl ?_
      refine mz_doPQ (R := mz_r185) (as := [.ref 65]) (rest := []) (r1 := some (.int 1)) (m1 := mz_up w 64 1 ((w 64 1) + 1)) mz_t185 mz_v185_65 rfl rfl rfl rfl rfl ⟨?_, rfl⟩ ?_
      · refine mz_go 1 (c' := (1, [some (.ref 65)], [.ref 65], mz_up w 64 1 ((w 64 1) + 1))) rfl ?_
        refine mz_doQ (R := mz_r183) (as := [.ref 65]) (rest := []) (r1 := some (.int (nI WW))) (m1 := mz_up w 64 1 ((w 64 1) + 1)) mz_t183 mz_v183_65 rfl rfl rfl rfl rfl ⟨?_, rfl⟩ ?_
        · refine mz_go 4 (c' := (7, [some (.ref 65)], [.int (w 66 60)], mz_up w 64 1 ((w 64 1) + 1))) rfl ?_
          rw [h6660]
          exact mz_ret rfl
        refine mz_go 1 (c' := (if (nI WW) ≤ 0 then 11 else 7, [some (.ref 65)], [], mz_up w 64 1 ((w 64 1) + 1))) rfl ?_
        refine mz_ifF (show ¬ ((nI WW) ≤ 0) from (sm_nleN rfl rfl (show 0 < WW by omega) (show WW < 2 ^ 31 by omega))) ?_
        refine mz_go 2 (c' := (12, [some (.ref 65)], [.int 1], mz_up w 64 1 ((w 64 1) + 1))) rfl ?_
        exact mz_ret rfl
      refine mz_goP 4 (c' := (16, [some (.ref 65), some (.int xa), some (.int xb)], [.int xb, .int xa, .ref 65], mz_up w 64 1 ((w 64 1) + 1))) rfl ?_
      refine mz_doPQ (R := mz_r187) (as := [.ref 65, .int xa, .int xb]) (rest := []) (r1 := some (.int 0)) (m1 := mz_up w 64 1 ((w 64 1) + 1)) mz_t187 mz_v187_65 rfl rfl rfl rfl rfl ⟨?_, rfl⟩ ?_
      · refine mz_go 3 (c' := (3, [some (.ref 65), some (.int xa), some (.int xb)], [.ref 65, .int 0, .int xa], mz_up w 64 1 ((w 64 1) + 1))) rfl ?_
        refine mz_doQ (R := mz_r183) (as := [.ref 65]) (rest := [.int 0, .int xa]) (r1 := some (.int (nI WW))) (m1 := mz_up w 64 1 ((w 64 1) + 1)) mz_t183 mz_v183_65 rfl rfl rfl rfl rfl ⟨?_, rfl⟩ ?_
        · refine mz_go 4 (c' := (7, [some (.ref 65)], [.int (w 66 60)], mz_up w 64 1 ((w 64 1) + 1))) rfl ?_
          rw [h6660]
          exact mz_ret rfl
        refine mz_go 2 (c' := (8, [some (.ref 65), some (.int xa), some (.int xb)], [.int ((nI WW) - 1), .int 0, .int xa], mz_up w 64 1 ((w 64 1) + 1))) rfl ?_
        refine mz_doQ (R := mz_r128) (as := [.int xa, .int 0, .int ((nI WW) - 1)]) (rest := []) (r1 := some (.int 0)) (m1 := mz_up w 64 1 ((w 64 1) + 1)) mz_t128 mz_v128 rfl rfl rfl rfl rfl ((ct_inL (m := mz_up w 64 1 ((w 64 1) + 1)) (v := xa) (a := 0) (b := (nI WW) - 1) q2).deep (by decide)) ?_
        refine mz_go 2 (c' := (33, [some (.ref 65), some (.int xa), some (.int xb)], [.int 0], mz_up w 64 1 ((w 64 1) + 1))) rfl ?_
        exact mz_ret rfl
      refine mz_goP 3 (c' := (33, [some (.ref 65), some (.int xa), some (.int xb)], [.int 1, .ref 65], mz_up w 64 1 ((w 64 1) + 1))) rfl ?_
      refine mz_doPQ (R := mz_r127) (as := [.ref 65, .int 1]) (rest := []) (r1 := some (.int (-1000001))) (m1 := mz_up (mz_up w 64 1 ((w 64 1) + 1)) 68 1 ((w 68 1) + 1)) mz_t127 mz_v127_65 rfl rfl rfl rfl rfl ((ct_err1 (m := mz_up w 64 1 ((w 64 1) + 1))).deep (by decide)) ?_
      refine mz_retP (r := (some (.int ((-1000001))), mz_up (mz_up w 64 1 ((w 64 1) + 1)) 68 1 ((w 68 1) + 1))) rfl ⟨(-1000001), rfl, ?_, rfl⟩
      show sm_I (n + 1) (mz_up (mz_up w 64 1 ((w 64 1) + 1)) 68 1 ((w 68 1) + 1))
      exact sm_I_scr hn hI2 (fun i hi => by
        have hne : ∀ r, sm_scr r = true → i ≠ r := fun r hr e => by
          rw [e, hr] at hi
          cases hi
        simp only [mz_up_ne (hne 64 rfl), mz_up_ne (hne 68 rfl)]) rfl rfl
    · obtain ⟨jxa, hjxa, rfl⟩ := nI_of q2
      by_cases q3 : WW ≤ jxa
      · refine mz_goP 3 (c' := (7, [some (.ref 0), some (.int (nI jxa)), some (.int xb)], [.ref 20], w)) rfl ?_
        refine mz_doPQ (R := mz_r2) (as := [.ref 20]) (rest := []) (r1 := some (.int 1)) (m1 := w) mz_t2 mz_v2_20 rfl rfl rfl rfl rfl ⟨?_, rfl⟩ ?_
        · refine mz_go 2 (c' := (4, [some (.ref 20)], [.int (w 20 2)], w)) rfl ?_
          rw [h202]
          refine mz_go 1 (c' := (if (nI WW) ≤ 0 then 18 else 7, [some (.ref 20)], [], w)) rfl ?_
          refine mz_ifF (show ¬ ((nI WW) ≤ 0) from (sm_nleN rfl rfl (show 0 < WW by omega) (show WW < 2 ^ 31 by omega))) ?_
          refine mz_go 2 (c' := (11, [some (.ref 20)], [.int (w 20 3)], w)) rfl ?_
          rw [h203]
          refine mz_go 1 (c' := (if (nI HH) ≤ 0 then 18 else 14, [some (.ref 20)], [], w)) rfl ?_
          refine mz_ifF (show ¬ ((nI HH) ≤ 0) from (sm_nleN rfl rfl (show 0 < HH by omega) (show HH < 2 ^ 31 by omega))) ?_
          refine mz_go 2 (c' := (19, [some (.ref 20)], [.int 1], w)) rfl ?_
          exact mz_ret rfl
        refine mz_goP 6 (c' := (28, [some (.ref 0), some (.int (nI jxa)), some (.int xb)], [.int xb, .int (nI jxa), .ref 20], w)) rfl ?_
        refine mz_doPQ (R := mz_r4) (as := [.ref 20, .int (nI jxa), .int xb]) (rest := []) (r1 := some (.int 0)) (m1 := w) mz_t4 mz_v4_20 rfl rfl rfl rfl rfl ⟨?_, rfl⟩ ?_
        · refine mz_go 2 (c' := (if (nI jxa) < 0 then 40 else 4, [some (.ref 20), some (.int (nI jxa)), some (.int xb)], [], w)) rfl ?_
          refine mz_ifF q2 ?_
          refine mz_go 3 (c' := (9, [some (.ref 20), some (.int (nI jxa)), some (.int xb)], [.int (w 20 2), .int (nI jxa)], w)) rfl ?_
          rw [h202]
          refine mz_go 1 (c' := (if (nI WW) ≤ (nI jxa) then 40 else 12, [some (.ref 20), some (.int (nI jxa)), some (.int xb)], [], w)) rfl ?_
          refine mz_ifT (show ((nI WW) ≤ (nI jxa)) from (sm_leN rfl rfl (show WW ≤ jxa by omega) (show jxa < 2 ^ 31 by omega))) ?_
          refine mz_go 1 (c' := (41, [some (.ref 20), some (.int (nI jxa)), some (.int xb)], [.int 0], w)) rfl ?_
          exact mz_ret rfl
        refine mz_goP 3 (c' := (36, [some (.ref 0), some (.int (nI jxa)), some (.int xb)], [.int 1, .ref 0], w)) rfl ?_
        refine mz_doPQ (R := mz_r109) (as := [.ref 0, .int 1]) (rest := []) (r1 := some (.int (-1000001))) (m1 := mz_up w 64 1 ((w 64 1) + 1)) mz_t109 mz_v109_0 rfl rfl rfl rfl rfl ((cs_err1 (m := w)).deep (by decide)) ?_
        refine mz_retP (r := (some (.int ((-1000001))), mz_up w 64 1 ((w 64 1) + 1))) rfl ⟨(-1000001), rfl, ?_⟩
        refine mz_goP 1 (c' := (1, [some (.ref 65), some (.int (nI jxa)), some (.int xb)], [.ref 65], mz_up w 64 1 ((w 64 1) + 1))) rfl ?_
        refine mz_doPQ (R := mz_r185) (as := [.ref 65]) (rest := []) (r1 := some (.int 1)) (m1 := mz_up w 64 1 ((w 64 1) + 1)) mz_t185 mz_v185_65 rfl rfl rfl rfl rfl ⟨?_, rfl⟩ ?_
        · refine mz_go 1 (c' := (1, [some (.ref 65)], [.ref 65], mz_up w 64 1 ((w 64 1) + 1))) rfl ?_
          refine mz_doQ (R := mz_r183) (as := [.ref 65]) (rest := []) (r1 := some (.int (nI WW))) (m1 := mz_up w 64 1 ((w 64 1) + 1)) mz_t183 mz_v183_65 rfl rfl rfl rfl rfl ⟨?_, rfl⟩ ?_
          · refine mz_go 4 (c' := (7, [some (.ref 65)], [.int (w 66 60)], mz_up w 64 1 ((w 64 1) + 1))) rfl ?_
            rw [h6660]
            exact mz_ret rfl
          refine mz_go 1 (c' := (if (nI WW) ≤ 0 then 11 else 7, [some (.ref 65)], [], mz_up w 64 1 ((w 64 1) + 1))) rfl ?_
          refine mz_ifF (show ¬ ((nI WW) ≤ 0) from (sm_nleN rfl rfl (show 0 < WW by omega) (show WW < 2 ^ 31 by omega))) ?_
          refine mz_go 2 (c' := (12, [some (.ref 65)], [.int 1], mz_up w 64 1 ((w 64 1) + 1))) rfl ?_
          exact mz_ret rfl
        refine mz_goP 4 (c' := (16, [some (.ref 65), some (.int (nI jxa)), some (.int xb)], [.int xb, .int (nI jxa), .ref 65], mz_up w 64 1 ((w 64 1) + 1))) rfl ?_
        refine mz_doPQ (R := mz_r187) (as := [.ref 65, .int (nI jxa), .int xb]) (rest := []) (r1 := some (.int 0)) (m1 := mz_up w 64 1 ((w 64 1) + 1)) mz_t187 mz_v187_65 rfl rfl rfl rfl rfl ⟨?_, rfl⟩ ?_
        · refine mz_go 3 (c' := (3, [some (.ref 65), some (.int (nI jxa)), some (.int xb)], [.ref 65, .int 0, .int (nI jxa)], mz_up w 64 1 ((w 64 1) + 1))) rfl ?_
          refine mz_doQ (R := mz_r183) (as := [.ref 65]) (rest := [.int 0, .int (nI jxa)]) (r1 := some (.int (nI WW))) (m1 := mz_up w 64 1 ((w 64 1) + 1)) mz_t183 mz_v183_65 rfl rfl rfl rfl rfl ⟨?_, rfl⟩ ?_
          · refine mz_go 4 (c' := (7, [some (.ref 65)], [.int (w 66 60)], mz_up w 64 1 ((w 64 1) + 1))) rfl ?_
            rw [h6660]
            exact mz_ret rfl
          refine mz_go 2 (c' := (8, [some (.ref 65), some (.int (nI jxa)), some (.int xb)], [.int ((nI WW) - 1), .int 0, .int (nI jxa)], mz_up w 64 1 ((w 64 1) + 1))) rfl ?_
          refine mz_doQ (R := mz_r128) (as := [.int (nI jxa), .int 0, .int ((nI WW) - 1)]) (rest := []) (r1 := some (.int 0)) (m1 := mz_up w 64 1 ((w 64 1) + 1)) mz_t128 mz_v128 rfl rfl rfl rfl rfl ((ct_inG (m := mz_up w 64 1 ((w 64 1) + 1)) (v := nI jxa) (a := 0) (b := (nI WW) - 1) q2 (show (((nI WW) - 1) < (nI jxa)) from (sm_ltN (sm_subN (a := WW) (b := 1) rfl rfl (by omega)) rfl (show (WW - 1) < jxa by omega) (show jxa < 2 ^ 31 by omega)))).deep (by decide)) ?_
          refine mz_go 2 (c' := (33, [some (.ref 65), some (.int (nI jxa)), some (.int xb)], [.int 0], mz_up w 64 1 ((w 64 1) + 1))) rfl ?_
          exact mz_ret rfl
        refine mz_goP 3 (c' := (33, [some (.ref 65), some (.int (nI jxa)), some (.int xb)], [.int 1, .ref 65], mz_up w 64 1 ((w 64 1) + 1))) rfl ?_
        refine mz_doPQ (R := mz_r127) (as := [.ref 65, .int 1]) (rest := []) (r1 := some (.int (-1000001))) (m1 := mz_up (mz_up w 64 1 ((w 64 1) + 1)) 68 1 ((w 68 1) + 1)) mz_t127 mz_v127_65 rfl rfl rfl rfl rfl ((ct_err1 (m := mz_up w 64 1 ((w 64 1) + 1))).deep (by decide)) ?_
        refine mz_retP (r := (some (.int ((-1000001))), mz_up (mz_up w 64 1 ((w 64 1) + 1)) 68 1 ((w 68 1) + 1))) rfl ⟨(-1000001), rfl, ?_, rfl⟩
        show sm_I (n + 1) (mz_up (mz_up w 64 1 ((w 64 1) + 1)) 68 1 ((w 68 1) + 1))
        exact sm_I_scr hn hI2 (fun i hi => by
          have hne : ∀ r, sm_scr r = true → i ≠ r := fun r hr e => by
            rw [e, hr] at hi
            cases hi
          simp only [mz_up_ne (hne 64 rfl), mz_up_ne (hne 68 rfl)]) rfl rfl
      · by_cases q4 : xb < 0
        · refine mz_goP 3 (c' := (7, [some (.ref 0), some (.int (nI jxa)), some (.int xb)], [.ref 20], w)) rfl ?_
          refine mz_doPQ (R := mz_r2) (as := [.ref 20]) (rest := []) (r1 := some (.int 1)) (m1 := w) mz_t2 mz_v2_20 rfl rfl rfl rfl rfl ⟨?_, rfl⟩ ?_
          · refine mz_go 2 (c' := (4, [some (.ref 20)], [.int (w 20 2)], w)) rfl ?_
            rw [h202]
            refine mz_go 1 (c' := (if (nI WW) ≤ 0 then 18 else 7, [some (.ref 20)], [], w)) rfl ?_
            refine mz_ifF (show ¬ ((nI WW) ≤ 0) from (sm_nleN rfl rfl (show 0 < WW by omega) (show WW < 2 ^ 31 by omega))) ?_
            refine mz_go 2 (c' := (11, [some (.ref 20)], [.int (w 20 3)], w)) rfl ?_
            rw [h203]
            refine mz_go 1 (c' := (if (nI HH) ≤ 0 then 18 else 14, [some (.ref 20)], [], w)) rfl ?_
            refine mz_ifF (show ¬ ((nI HH) ≤ 0) from (sm_nleN rfl rfl (show 0 < HH by omega) (show HH < 2 ^ 31 by omega))) ?_
            refine mz_go 2 (c' := (19, [some (.ref 20)], [.int 1], w)) rfl ?_
            exact mz_ret rfl
          refine mz_goP 6 (c' := (28, [some (.ref 0), some (.int (nI jxa)), some (.int xb)], [.int xb, .int (nI jxa), .ref 20], w)) rfl ?_
          refine mz_doPQ (R := mz_r4) (as := [.ref 20, .int (nI jxa), .int xb]) (rest := []) (r1 := some (.int 0)) (m1 := w) mz_t4 mz_v4_20 rfl rfl rfl rfl rfl ⟨?_, rfl⟩ ?_
          · refine mz_go 2 (c' := (if (nI jxa) < 0 then 40 else 4, [some (.ref 20), some (.int (nI jxa)), some (.int xb)], [], w)) rfl ?_
            refine mz_ifF q2 ?_
            refine mz_go 3 (c' := (9, [some (.ref 20), some (.int (nI jxa)), some (.int xb)], [.int (w 20 2), .int (nI jxa)], w)) rfl ?_
            rw [h202]
            refine mz_go 1 (c' := (if (nI WW) ≤ (nI jxa) then 40 else 12, [some (.ref 20), some (.int (nI jxa)), some (.int xb)], [], w)) rfl ?_
            refine mz_ifF (show ¬ ((nI WW) ≤ (nI jxa)) from (sm_nleN rfl rfl (show jxa < WW by omega) (show WW < 2 ^ 31 by omega))) ?_
            refine mz_go 3 (c' := (if 6 ≤ (nI jxa) then 40 else 18, [some (.ref 20), some (.int (nI jxa)), some (.int xb)], [], w)) rfl ?_
            refine mz_ifF (show ¬ (6 ≤ (nI jxa)) from (sm_nleN rfl rfl (show jxa < 6 by omega) (show 6 < 2 ^ 31 by omega))) ?_
            refine mz_go 2 (c' := (if xb < 0 then 40 else 22, [some (.ref 20), some (.int (nI jxa)), some (.int xb)], [], w)) rfl ?_
            refine mz_ifT q4 ?_
            refine mz_go 1 (c' := (41, [some (.ref 20), some (.int (nI jxa)), some (.int xb)], [.int 0], w)) rfl ?_
            exact mz_ret rfl
          refine mz_goP 3 (c' := (36, [some (.ref 0), some (.int (nI jxa)), some (.int xb)], [.int 1, .ref 0], w)) rfl ?_
          refine mz_doPQ (R := mz_r109) (as := [.ref 0, .int 1]) (rest := []) (r1 := some (.int (-1000001))) (m1 := mz_up w 64 1 ((w 64 1) + 1)) mz_t109 mz_v109_0 rfl rfl rfl rfl rfl ((cs_err1 (m := w)).deep (by decide)) ?_
          refine mz_retP (r := (some (.int ((-1000001))), mz_up w 64 1 ((w 64 1) + 1))) rfl ⟨(-1000001), rfl, ?_⟩
          refine mz_goP 1 (c' := (1, [some (.ref 65), some (.int (nI jxa)), some (.int xb)], [.ref 65], mz_up w 64 1 ((w 64 1) + 1))) rfl ?_
          refine mz_doPQ (R := mz_r185) (as := [.ref 65]) (rest := []) (r1 := some (.int 1)) (m1 := mz_up w 64 1 ((w 64 1) + 1)) mz_t185 mz_v185_65 rfl rfl rfl rfl rfl ⟨?_, rfl⟩ ?_
          · refine mz_go 1 (c' := (1, [some (.ref 65)], [.ref 65], mz_up w 64 1 ((w 64 1) + 1))) rfl ?_
            refine mz_doQ (R := mz_r183) (as := [.ref 65]) (rest := []) (r1 := some (.int (nI WW))) (m1 := mz_up w 64 1 ((w 64 1) + 1)) mz_t183 mz_v183_65 rfl rfl rfl rfl rfl ⟨?_, rfl⟩ ?_
            · refine mz_go 4 (c' := (7, [some (.ref 65)], [.int (w 66 60)], mz_up w 64 1 ((w 64 1) + 1))) rfl ?_
              rw [h6660]
              exact mz_ret rfl
            refine mz_go 1 (c' := (if (nI WW) ≤ 0 then 11 else 7, [some (.ref 65)], [], mz_up w 64 1 ((w 64 1) + 1))) rfl ?_
            refine mz_ifF (show ¬ ((nI WW) ≤ 0) from (sm_nleN rfl rfl (show 0 < WW by omega) (show WW < 2 ^ 31 by omega))) ?_
            refine mz_go 2 (c' := (12, [some (.ref 65)], [.int 1], mz_up w 64 1 ((w 64 1) + 1))) rfl ?_
            exact mz_ret rfl
          refine mz_goP 4 (c' := (16, [some (.ref 65), some (.int (nI jxa)), some (.int xb)], [.int xb, .int (nI jxa), .ref 65], mz_up w 64 1 ((w 64 1) + 1))) rfl ?_
          refine mz_doPQ (R := mz_r187) (as := [.ref 65, .int (nI jxa), .int xb]) (rest := []) (r1 := some (.int 0)) (m1 := mz_up w 64 1 ((w 64 1) + 1)) mz_t187 mz_v187_65 rfl rfl rfl rfl rfl ⟨?_, rfl⟩ ?_
          · refine mz_go 3 (c' := (3, [some (.ref 65), some (.int (nI jxa)), some (.int xb)], [.ref 65, .int 0, .int (nI jxa)], mz_up w 64 1 ((w 64 1) + 1))) rfl ?_
            refine mz_doQ (R := mz_r183) (as := [.ref 65]) (rest := [.int 0, .int (nI jxa)]) (r1 := some (.int (nI WW))) (m1 := mz_up w 64 1 ((w 64 1) + 1)) mz_t183 mz_v183_65 rfl rfl rfl rfl rfl ⟨?_, rfl⟩ ?_
            · refine mz_go 4 (c' := (7, [some (.ref 65)], [.int (w 66 60)], mz_up w 64 1 ((w 64 1) + 1))) rfl ?_
              rw [h6660]
              exact mz_ret rfl
            refine mz_go 2 (c' := (8, [some (.ref 65), some (.int (nI jxa)), some (.int xb)], [.int ((nI WW) - 1), .int 0, .int (nI jxa)], mz_up w 64 1 ((w 64 1) + 1))) rfl ?_
            refine mz_doQ (R := mz_r128) (as := [.int (nI jxa), .int 0, .int ((nI WW) - 1)]) (rest := []) (r1 := some (.int 1)) (m1 := mz_up w 64 1 ((w 64 1) + 1)) mz_t128 mz_v128 rfl rfl rfl rfl rfl ((ct_in1 (m := mz_up w 64 1 ((w 64 1) + 1)) (v := nI jxa) (a := 0) (b := (nI WW) - 1) q2 (show ¬ (((nI WW) - 1) < (nI jxa)) from (sm_nltN (sm_subN (a := WW) (b := 1) rfl rfl (by omega)) rfl (show jxa ≤ (WW - 1) by omega) (show (WW - 1) < 2 ^ 31 by omega)))).deep (by decide)) ?_
            refine mz_go 4 (c' := (17, [some (.ref 65), some (.int (nI jxa)), some (.int xb)], [.ref 65, .int 0, .int xb], mz_up w 64 1 ((w 64 1) + 1))) rfl ?_
            refine mz_doQ (R := mz_r184) (as := [.ref 65]) (rest := [.int 0, .int xb]) (r1 := some (.int (nI HH))) (m1 := mz_up w 64 1 ((w 64 1) + 1)) mz_t184 mz_v184_65 rfl rfl rfl rfl rfl ⟨?_, rfl⟩ ?_
            · refine mz_go 4 (c' := (7, [some (.ref 65)], [.int (w 66 61)], mz_up w 64 1 ((w 64 1) + 1))) rfl ?_
              rw [h6661]
              exact mz_ret rfl
            refine mz_go 2 (c' := (22, [some (.ref 65), some (.int (nI jxa)), some (.int xb)], [.int ((nI HH) - 1), .int 0, .int xb], mz_up w 64 1 ((w 64 1) + 1))) rfl ?_
            refine mz_doQ (R := mz_r128) (as := [.int xb, .int 0, .int ((nI HH) - 1)]) (rest := []) (r1 := some (.int 0)) (m1 := mz_up w 64 1 ((w 64 1) + 1)) mz_t128 mz_v128 rfl rfl rfl rfl rfl ((ct_inL (m := mz_up w 64 1 ((w 64 1) + 1)) (v := xb) (a := 0) (b := (nI HH) - 1) q4).deep (by decide)) ?_
            refine mz_go 2 (c' := (33, [some (.ref 65), some (.int (nI jxa)), some (.int xb)], [.int 0], mz_up w 64 1 ((w 64 1) + 1))) rfl ?_
            exact mz_ret rfl
          refine mz_goP 3 (c' := (33, [some (.ref 65), some (.int (nI jxa)), some (.int xb)], [.int 1, .ref 65], mz_up w 64 1 ((w 64 1) + 1))) rfl ?_
          refine mz_doPQ (R := mz_r127) (as := [.ref 65, .int 1]) (rest := []) (r1 := some (.int (-1000001))) (m1 := mz_up (mz_up w 64 1 ((w 64 1) + 1)) 68 1 ((w 68 1) + 1)) mz_t127 mz_v127_65 rfl rfl rfl rfl rfl ((ct_err1 (m := mz_up w 64 1 ((w 64 1) + 1))).deep (by decide)) ?_
          refine mz_retP (r := (some (.int ((-1000001))), mz_up (mz_up w 64 1 ((w 64 1) + 1)) 68 1 ((w 68 1) + 1))) rfl ⟨(-1000001), rfl, ?_, rfl⟩
          show sm_I (n + 1) (mz_up (mz_up w 64 1 ((w 64 1) + 1)) 68 1 ((w 68 1) + 1))
          exact sm_I_scr hn hI2 (fun i hi => by
            have hne : ∀ r, sm_scr r = true → i ≠ r := fun r hr e => by
              rw [e, hr] at hi
              cases hi
            simp only [mz_up_ne (hne 64 rfl), mz_up_ne (hne 68 rfl)]) rfl rfl
        · obtain ⟨jxb, hjxb, rfl⟩ := nI_of q4
          refine mz_goP 3 (c' := (7, [some (.ref 0), some (.int (nI jxa)), some (.int (nI jxb))], [.ref 20], w)) rfl ?_
          refine mz_doPQ (R := mz_r2) (as := [.ref 20]) (rest := []) (r1 := some (.int 1)) (m1 := w) mz_t2 mz_v2_20 rfl rfl rfl rfl rfl ⟨?_, rfl⟩ ?_
          · refine mz_go 2 (c' := (4, [some (.ref 20)], [.int (w 20 2)], w)) rfl ?_
            rw [h202]
            refine mz_go 1 (c' := (if (nI WW) ≤ 0 then 18 else 7, [some (.ref 20)], [], w)) rfl ?_
            refine mz_ifF (show ¬ ((nI WW) ≤ 0) from (sm_nleN rfl rfl (show 0 < WW by omega) (show WW < 2 ^ 31 by omega))) ?_
            refine mz_go 2 (c' := (11, [some (.ref 20)], [.int (w 20 3)], w)) rfl ?_
            rw [h203]
            refine mz_go 1 (c' := (if (nI HH) ≤ 0 then 18 else 14, [some (.ref 20)], [], w)) rfl ?_
            refine mz_ifF (show ¬ ((nI HH) ≤ 0) from (sm_nleN rfl rfl (show 0 < HH by omega) (show HH < 2 ^ 31 by omega))) ?_
            refine mz_go 2 (c' := (19, [some (.ref 20)], [.int 1], w)) rfl ?_
            exact mz_ret rfl
          refine mz_goP 6 (c' := (28, [some (.ref 0), some (.int (nI jxa)), some (.int (nI jxb))], [.int (nI jxb), .int (nI jxa), .ref 20], w)) rfl ?_
          by_cases q5 : HH ≤ jxb
          · refine mz_doPQ (R := mz_r4) (as := [.ref 20, .int (nI jxa), .int (nI jxb)]) (rest := []) (r1 := some (.int 0)) (m1 := w) mz_t4 mz_v4_20 rfl rfl rfl rfl rfl ⟨?_, rfl⟩ ?_
            · refine mz_go 2 (c' := (if (nI jxa) < 0 then 40 else 4, [some (.ref 20), some (.int (nI jxa)), some (.int (nI jxb))], [], w)) rfl ?_
              refine mz_ifF q2 ?_
              refine mz_go 3 (c' := (9, [some (.ref 20), some (.int (nI jxa)), some (.int (nI jxb))], [.int (w 20 2), .int (nI jxa)], w)) rfl ?_
              rw [h202]
              refine mz_go 1 (c' := (if (nI WW) ≤ (nI jxa) then 40 else 12, [some (.ref 20), some (.int (nI jxa)), some (.int (nI jxb))], [], w)) rfl ?_
              refine mz_ifF (show ¬ ((nI WW) ≤ (nI jxa)) from (sm_nleN rfl rfl (show jxa < WW by omega) (show WW < 2 ^ 31 by omega))) ?_
              refine mz_go 3 (c' := (if 6 ≤ (nI jxa) then 40 else 18, [some (.ref 20), some (.int (nI jxa)), some (.int (nI jxb))], [], w)) rfl ?_
              refine mz_ifF (show ¬ (6 ≤ (nI jxa)) from (sm_nleN rfl rfl (show jxa < 6 by omega) (show 6 < 2 ^ 31 by omega))) ?_
              refine mz_go 2 (c' := (if (nI jxb) < 0 then 40 else 22, [some (.ref 20), some (.int (nI jxa)), some (.int (nI jxb))], [], w)) rfl ?_
              refine mz_ifF q4 ?_
              refine mz_go 3 (c' := (27, [some (.ref 20), some (.int (nI jxa)), some (.int (nI jxb))], [.int (w 20 3), .int (nI jxb)], w)) rfl ?_
              rw [h203]
              refine mz_go 1 (c' := (if (nI HH) ≤ (nI jxb) then 40 else 30, [some (.ref 20), some (.int (nI jxa)), some (.int (nI jxb))], [], w)) rfl ?_
              refine mz_ifT (show ((nI HH) ≤ (nI jxb)) from (sm_leN rfl rfl (show HH ≤ jxb by omega) (show jxb < 2 ^ 31 by omega))) ?_
              refine mz_go 1 (c' := (41, [some (.ref 20), some (.int (nI jxa)), some (.int (nI jxb))], [.int 0], w)) rfl ?_
              exact mz_ret rfl
            refine mz_goP 3 (c' := (36, [some (.ref 0), some (.int (nI jxa)), some (.int (nI jxb))], [.int 1, .ref 0], w)) rfl ?_
            refine mz_doPQ (R := mz_r109) (as := [.ref 0, .int 1]) (rest := []) (r1 := some (.int (-1000001))) (m1 := mz_up w 64 1 ((w 64 1) + 1)) mz_t109 mz_v109_0 rfl rfl rfl rfl rfl ((cs_err1 (m := w)).deep (by decide)) ?_
            refine mz_retP (r := (some (.int ((-1000001))), mz_up w 64 1 ((w 64 1) + 1))) rfl ⟨(-1000001), rfl, ?_⟩
            refine mz_goP 1 (c' := (1, [some (.ref 65), some (.int (nI jxa)), some (.int (nI jxb))], [.ref 65], mz_up w 64 1 ((w 64 1) + 1))) rfl ?_
            refine mz_doPQ (R := mz_r185) (as := [.ref 65]) (rest := []) (r1 := some (.int 1)) (m1 := mz_up w 64 1 ((w 64 1) + 1)) mz_t185 mz_v185_65 rfl rfl rfl rfl rfl ⟨?_, rfl⟩ ?_
            · refine mz_go 1 (c' := (1, [some (.ref 65)], [.ref 65], mz_up w 64 1 ((w 64 1) + 1))) rfl ?_
              refine mz_doQ (R := mz_r183) (as := [.ref 65]) (rest := []) (r1 := some (.int (nI WW))) (m1 := mz_up w 64 1 ((w 64 1) + 1)) mz_t183 mz_v183_65 rfl rfl rfl rfl rfl ⟨?_, rfl⟩ ?_
              · refine mz_go 4 (c' := (7, [some (.ref 65)], [.int (w 66 60)], mz_up w 64 1 ((w 64 1) + 1))) rfl ?_
                rw [h6660]
                exact mz_ret rfl
              refine mz_go 1 (c' := (if (nI WW) ≤ 0 then 11 else 7, [some (.ref 65)], [], mz_up w 64 1 ((w 64 1) + 1))) rfl ?_
              refine mz_ifF (show ¬ ((nI WW) ≤ 0) from (sm_nleN rfl rfl (show 0 < WW by omega) (show WW < 2 ^ 31 by omega))) ?_
              refine mz_go 2 (c' := (12, [some (.ref 65)], [.int 1], mz_up w 64 1 ((w 64 1) + 1))) rfl ?_
              exact mz_ret rfl
            refine mz_goP 4 (c' := (16, [some (.ref 65), some (.int (nI jxa)), some (.int (nI jxb))], [.int (nI jxb), .int (nI jxa), .ref 65], mz_up w 64 1 ((w 64 1) + 1))) rfl ?_
            refine mz_doPQ (R := mz_r187) (as := [.ref 65, .int (nI jxa), .int (nI jxb)]) (rest := []) (r1 := some (.int 0)) (m1 := mz_up w 64 1 ((w 64 1) + 1)) mz_t187 mz_v187_65 rfl rfl rfl rfl rfl ⟨?_, rfl⟩ ?_
            · refine mz_go 3 (c' := (3, [some (.ref 65), some (.int (nI jxa)), some (.int (nI jxb))], [.ref 65, .int 0, .int (nI jxa)], mz_up w 64 1 ((w 64 1) + 1))) rfl ?_
              refine mz_doQ (R := mz_r183) (as := [.ref 65]) (rest := [.int 0, .int (nI jxa)]) (r1 := some (.int (nI WW))) (m1 := mz_up w 64 1 ((w 64 1) + 1)) mz_t183 mz_v183_65 rfl rfl rfl rfl rfl ⟨?_, rfl⟩ ?_
              · refine mz_go 4 (c' := (7, [some (.ref 65)], [.int (w 66 60)], mz_up w 64 1 ((w 64 1) + 1))) rfl ?_
                rw [h6660]
                exact mz_ret rfl
              refine mz_go 2 (c' := (8, [some (.ref 65), some (.int (nI jxa)), some (.int (nI jxb))], [.int ((nI WW) - 1), .int 0, .int (nI jxa)], mz_up w 64 1 ((w 64 1) + 1))) rfl ?_
              refine mz_doQ (R := mz_r128) (as := [.int (nI jxa), .int 0, .int ((nI WW) - 1)]) (rest := []) (r1 := some (.int 1)) (m1 := mz_up w 64 1 ((w 64 1) + 1)) mz_t128 mz_v128 rfl rfl rfl rfl rfl ((ct_in1 (m := mz_up w 64 1 ((w 64 1) + 1)) (v := nI jxa) (a := 0) (b := (nI WW) - 1) q2 (show ¬ (((nI WW) - 1) < (nI jxa)) from (sm_nltN (sm_subN (a := WW) (b := 1) rfl rfl (by omega)) rfl (show jxa ≤ (WW - 1) by omega) (show (WW - 1) < 2 ^ 31 by omega)))).deep (by decide)) ?_
              refine mz_go 4 (c' := (17, [some (.ref 65), some (.int (nI jxa)), some (.int (nI jxb))], [.ref 65, .int 0, .int (nI jxb)], mz_up w 64 1 ((w 64 1) + 1))) rfl ?_
              refine mz_doQ (R := mz_r184) (as := [.ref 65]) (rest := [.int 0, .int (nI jxb)]) (r1 := some (.int (nI HH))) (m1 := mz_up w 64 1 ((w 64 1) + 1)) mz_t184 mz_v184_65 rfl rfl rfl rfl rfl ⟨?_, rfl⟩ ?_
              · refine mz_go 4 (c' := (7, [some (.ref 65)], [.int (w 66 61)], mz_up w 64 1 ((w 64 1) + 1))) rfl ?_
                rw [h6661]
                exact mz_ret rfl
              refine mz_go 2 (c' := (22, [some (.ref 65), some (.int (nI jxa)), some (.int (nI jxb))], [.int ((nI HH) - 1), .int 0, .int (nI jxb)], mz_up w 64 1 ((w 64 1) + 1))) rfl ?_
              refine mz_doQ (R := mz_r128) (as := [.int (nI jxb), .int 0, .int ((nI HH) - 1)]) (rest := []) (r1 := some (.int 0)) (m1 := mz_up w 64 1 ((w 64 1) + 1)) mz_t128 mz_v128 rfl rfl rfl rfl rfl ((ct_inG (m := mz_up w 64 1 ((w 64 1) + 1)) (v := nI jxb) (a := 0) (b := (nI HH) - 1) q4 (show (((nI HH) - 1) < (nI jxb)) from (sm_ltN (sm_subN (a := HH) (b := 1) rfl rfl (by omega)) rfl (show (HH - 1) < jxb by omega) (show jxb < 2 ^ 31 by omega)))).deep (by decide)) ?_
              refine mz_go 2 (c' := (33, [some (.ref 65), some (.int (nI jxa)), some (.int (nI jxb))], [.int 0], mz_up w 64 1 ((w 64 1) + 1))) rfl ?_
              exact mz_ret rfl
            refine mz_goP 3 (c' := (33, [some (.ref 65), some (.int (nI jxa)), some (.int (nI jxb))], [.int 1, .ref 65], mz_up w 64 1 ((w 64 1) + 1))) rfl ?_
            refine mz_doPQ (R := mz_r127) (as := [.ref 65, .int 1]) (rest := []) (r1 := some (.int (-1000001))) (m1 := mz_up (mz_up w 64 1 ((w 64 1) + 1)) 68 1 ((w 68 1) + 1)) mz_t127 mz_v127_65 rfl rfl rfl rfl rfl ((ct_err1 (m := mz_up w 64 1 ((w 64 1) + 1))).deep (by decide)) ?_
            refine mz_retP (r := (some (.int ((-1000001))), mz_up (mz_up w 64 1 ((w 64 1) + 1)) 68 1 ((w 68 1) + 1))) rfl ⟨(-1000001), rfl, ?_, rfl⟩
            show sm_I (n + 1) (mz_up (mz_up w 64 1 ((w 64 1) + 1)) 68 1 ((w 68 1) + 1))
            exact sm_I_scr hn hI2 (fun i hi => by
              have hne : ∀ r, sm_scr r = true → i ≠ r := fun r hr e => by
                rw [e, hr] at hi
                cases hi
              simp only [mz_up_ne (hne 64 rfl), mz_up_ne (hne 68 rfl)]) rfl rfl
          · refine mz_doPQ (R := mz_r4) (as := [.ref 20, .int (nI jxa), .int (nI jxb)]) (rest := []) (r1 := some (.int 1)) (m1 := w) mz_t4 mz_v4_20 rfl rfl rfl rfl rfl ⟨?_, rfl⟩ ?_
            · refine mz_go 2 (c' := (if (nI jxa) < 0 then 40 else 4, [some (.ref 20), some (.int (nI jxa)), some (.int (nI jxb))], [], w)) rfl ?_
              refine mz_ifF q2 ?_
              refine mz_go 3 (c' := (9, [some (.ref 20), some (.int (nI jxa)), some (.int (nI jxb))], [.int (w 20 2), .int (nI jxa)], w)) rfl ?_
              rw [h202]
              refine mz_go 1 (c' := (if (nI WW) ≤ (nI jxa) then 40 else 12, [some (.ref 20), some (.int (nI jxa)), some (.int (nI jxb))], [], w)) rfl ?_
              refine mz_ifF (show ¬ ((nI WW) ≤ (nI jxa)) from (sm_nleN rfl rfl (show jxa < WW by omega) (show WW < 2 ^ 31 by omega))) ?_
              refine mz_go 3 (c' := (if 6 ≤ (nI jxa) then 40 else 18, [some (.ref 20), some (.int (nI jxa)), some (.int (nI jxb))], [], w)) rfl ?_
              refine mz_ifF (show ¬ (6 ≤ (nI jxa)) from (sm_nleN rfl rfl (show jxa < 6 by omega) (show 6 < 2 ^ 31 by omega))) ?_
              refine mz_go 2 (c' := (if (nI jxb) < 0 then 40 else 22, [some (.ref 20), some (.int (nI jxa)), some (.int (nI jxb))], [], w)) rfl ?_
              refine mz_ifF q4 ?_
              refine mz_go 3 (c' := (27, [some (.ref 20), some (.int (nI jxa)), some (.int (nI jxb))], [.int (w 20 3), .int (nI jxb)], w)) rfl ?_
              rw [h203]
              refine mz_go 1 (c' := (if (nI HH) ≤ (nI jxb) then 40 else 30, [some (.ref 20), some (.int (nI jxa)), some (.int (nI jxb))], [], w)) rfl ?_
              refine mz_ifF (show ¬ ((nI HH) ≤ (nI jxb)) from (sm_nleN rfl rfl (show jxb < HH by omega) (show HH < 2 ^ 31 by omega))) ?_
              refine mz_go 3 (c' := (if 6 ≤ (nI jxb) then 40 else 36, [some (.ref 20), some (.int (nI jxa)), some (.int (nI jxb))], [], w)) rfl ?_
              refine mz_ifF (show ¬ (6 ≤ (nI jxb)) from (sm_nleN rfl rfl (show jxb < 6 by omega) (show 6 < 2 ^ 31 by omega))) ?_
              refine mz_go 2 (c' := (41, [some (.ref 20), some (.int (nI jxa)), some (.int (nI jxb))], [.int 1], w)) rfl ?_
              exact mz_ret rfl
            refine mz_goP 6 (c' := (49, [some (.ref 0), some (.int (nI jxa)), some (.int (nI jxb))], [.int (nI jxb), .int (nI jxa), .ref 20], w)) rfl ?_
            refine mz_doPQ (R := mz_r7) (as := [.ref 20, .int (nI jxa), .int (nI jxb)]) (rest := []) (r1 := some (.int (w 21 ((jxb * 6) + jxa)))) (m1 := w) mz_t7 mz_v7_20 rfl rfl rfl rfl rfl ⟨?_, rfl⟩ ?_
            · refine mz_go 3 (c' := (3, [some (.ref 20), some (.int (nI jxa)), some (.int (nI jxb))], [.int (nI jxb), .int (nI jxa), .ref 20], w)) rfl ?_
              refine mz_doQ (R := mz_r4) (as := [.ref 20, .int (nI jxa), .int (nI jxb)]) (rest := []) (r1 := some (.int 1)) (m1 := w) mz_t4 mz_v4_20 rfl rfl rfl rfl rfl ⟨?_, rfl⟩ ?_
              · refine mz_go 2 (c' := (if (nI jxa) < 0 then 40 else 4, [some (.ref 20), some (.int (nI jxa)), some (.int (nI jxb))], [], w)) rfl ?_
                refine mz_ifF q2 ?_
                refine mz_go 3 (c' := (9, [some (.ref 20), some (.int (nI jxa)), some (.int (nI jxb))], [.int (w 20 2), .int (nI jxa)], w)) rfl ?_
                rw [h202]
                refine mz_go 1 (c' := (if (nI WW) ≤ (nI jxa) then 40 else 12, [some (.ref 20), some (.int (nI jxa)), some (.int (nI jxb))], [], w)) rfl ?_
                refine mz_ifF (show ¬ ((nI WW) ≤ (nI jxa)) from (sm_nleN rfl rfl (show jxa < WW by omega) (show WW < 2 ^ 31 by omega))) ?_
                refine mz_go 3 (c' := (if 6 ≤ (nI jxa) then 40 else 18, [some (.ref 20), some (.int (nI jxa)), some (.int (nI jxb))], [], w)) rfl ?_
                refine mz_ifF (show ¬ (6 ≤ (nI jxa)) from (sm_nleN rfl rfl (show jxa < 6 by omega) (show 6 < 2 ^ 31 by omega))) ?_
                refine mz_go 2 (c' := (if (nI jxb) < 0 then 40 else 22, [some (.ref 20), some (.int (nI jxa)), some (.int (nI jxb))], [], w)) rfl ?_
                refine mz_ifF q4 ?_
                refine mz_go 3 (c' := (27, [some (.ref 20), some (.int (nI jxa)), some (.int (nI jxb))], [.int (w 20 3), .int (nI jxb)], w)) rfl ?_
                rw [h203]
                refine mz_go 1 (c' := (if (nI HH) ≤ (nI jxb) then 40 else 30, [some (.ref 20), some (.int (nI jxa)), some (.int (nI jxb))], [], w)) rfl ?_
                refine mz_ifF (show ¬ ((nI HH) ≤ (nI jxb)) from (sm_nleN rfl rfl (show jxb < HH by omega) (show HH < 2 ^ 31 by omega))) ?_
                refine mz_go 3 (c' := (if 6 ≤ (nI jxb) then 40 else 36, [some (.ref 20), some (.int (nI jxa)), some (.int (nI jxb))], [], w)) rfl ?_
                refine mz_ifF (show ¬ (6 ≤ (nI jxb)) from (sm_nleN rfl rfl (show jxb < 6 by omega) (show 6 < 2 ^ 31 by omega))) ?_
                refine mz_go 2 (c' := (41, [some (.ref 20), some (.int (nI jxa)), some (.int (nI jxb))], [.int 1], w)) rfl ?_
                exact mz_ret rfl
              refine mz_go 8 (c' := (19, [some (.ref 20), some (.int (nI jxa)), some (.int (nI jxb))], [.int (((nI jxb) * 6) + (nI jxa)), .ref 21], w)) rfl ?_
              refine mz_arr (c' := (20, [some (.ref 20), some (.int (nI jxa)), some (.int (nI jxb))], [.int (w 21 ((((nI jxb) * 6) + (nI jxa)).toNatClampNeg))], w)) rfl (show mz_in (((nI jxb) * 6) + (nI jxa)) 36 = true from sm_inN (sm_addN (sm_mulN rfl rfl) rfl) (show ((jxb * 6) + jxa) < 36 by omega) (by decide)) ?_
              rw [show (((nI jxb) * 6) + (nI jxa) : Int32).toNatClampNeg = ((jxb * 6) + jxa) from sm_clN (sm_addN (sm_mulN rfl rfl) rfl) (show ((jxb * 6) + jxa) < 2 ^ 31 by omega)]
              refine mz_go 1 (c' := (25, [some (.ref 20), some (.int (nI jxa)), some (.int (nI jxb))], [.int (w 21 ((jxb * 6) + jxa))], w)) rfl ?_
              exact mz_ret rfl
            refine mz_retP (r := (some (.int (w 21 ((jxb * 6) + jxa))), w)) rfl ⟨w 21 ((jxb * 6) + jxa), rfl, ?_⟩
            refine mz_goP 1 (c' := (1, [some (.ref 65), some (.int (nI jxa)), some (.int (nI jxb))], [.ref 65], w)) rfl ?_
            refine mz_doPQ (R := mz_r185) (as := [.ref 65]) (rest := []) (r1 := some (.int 1)) (m1 := w) mz_t185 mz_v185_65 rfl rfl rfl rfl rfl ⟨?_, rfl⟩ ?_
            · refine mz_go 1 (c' := (1, [some (.ref 65)], [.ref 65], w)) rfl ?_
              refine mz_doQ (R := mz_r183) (as := [.ref 65]) (rest := []) (r1 := some (.int (nI WW))) (m1 := w) mz_t183 mz_v183_65 rfl rfl rfl rfl rfl ⟨?_, rfl⟩ ?_
              · refine mz_go 4 (c' := (7, [some (.ref 65)], [.int (w 66 60)], w)) rfl ?_
                rw [h6660]
                exact mz_ret rfl
              refine mz_go 1 (c' := (if (nI WW) ≤ 0 then 11 else 7, [some (.ref 65)], [], w)) rfl ?_
              refine mz_ifF (show ¬ ((nI WW) ≤ 0) from (sm_nleN rfl rfl (show 0 < WW by omega) (show WW < 2 ^ 31 by omega))) ?_
              refine mz_go 2 (c' := (12, [some (.ref 65)], [.int 1], w)) rfl ?_
              exact mz_ret rfl
            refine mz_goP 4 (c' := (16, [some (.ref 65), some (.int (nI jxa)), some (.int (nI jxb))], [.int (nI jxb), .int (nI jxa), .ref 65], w)) rfl ?_
            refine mz_doPQ (R := mz_r187) (as := [.ref 65, .int (nI jxa), .int (nI jxb)]) (rest := []) (r1 := some (.int 1)) (m1 := w) mz_t187 mz_v187_65 rfl rfl rfl rfl rfl ⟨?_, rfl⟩ ?_
            · refine mz_go 3 (c' := (3, [some (.ref 65), some (.int (nI jxa)), some (.int (nI jxb))], [.ref 65, .int 0, .int (nI jxa)], w)) rfl ?_
              refine mz_doQ (R := mz_r183) (as := [.ref 65]) (rest := [.int 0, .int (nI jxa)]) (r1 := some (.int (nI WW))) (m1 := w) mz_t183 mz_v183_65 rfl rfl rfl rfl rfl ⟨?_, rfl⟩ ?_
              · refine mz_go 4 (c' := (7, [some (.ref 65)], [.int (w 66 60)], w)) rfl ?_
                rw [h6660]
                exact mz_ret rfl
              refine mz_go 2 (c' := (8, [some (.ref 65), some (.int (nI jxa)), some (.int (nI jxb))], [.int ((nI WW) - 1), .int 0, .int (nI jxa)], w)) rfl ?_
              refine mz_doQ (R := mz_r128) (as := [.int (nI jxa), .int 0, .int ((nI WW) - 1)]) (rest := []) (r1 := some (.int 1)) (m1 := w) mz_t128 mz_v128 rfl rfl rfl rfl rfl ((ct_in1 (m := w) (v := nI jxa) (a := 0) (b := (nI WW) - 1) q2 (show ¬ (((nI WW) - 1) < (nI jxa)) from (sm_nltN (sm_subN (a := WW) (b := 1) rfl rfl (by omega)) rfl (show jxa ≤ (WW - 1) by omega) (show (WW - 1) < 2 ^ 31 by omega)))).deep (by decide)) ?_
              refine mz_go 4 (c' := (17, [some (.ref 65), some (.int (nI jxa)), some (.int (nI jxb))], [.ref 65, .int 0, .int (nI jxb)], w)) rfl ?_
              refine mz_doQ (R := mz_r184) (as := [.ref 65]) (rest := [.int 0, .int (nI jxb)]) (r1 := some (.int (nI HH))) (m1 := w) mz_t184 mz_v184_65 rfl rfl rfl rfl rfl ⟨?_, rfl⟩ ?_
              · refine mz_go 4 (c' := (7, [some (.ref 65)], [.int (w 66 61)], w)) rfl ?_
                rw [h6661]
                exact mz_ret rfl
              refine mz_go 2 (c' := (22, [some (.ref 65), some (.int (nI jxa)), some (.int (nI jxb))], [.int ((nI HH) - 1), .int 0, .int (nI jxb)], w)) rfl ?_
              refine mz_doQ (R := mz_r128) (as := [.int (nI jxb), .int 0, .int ((nI HH) - 1)]) (rest := []) (r1 := some (.int 1)) (m1 := w) mz_t128 mz_v128 rfl rfl rfl rfl rfl ((ct_in1 (m := w) (v := nI jxb) (a := 0) (b := (nI HH) - 1) q4 (show ¬ (((nI HH) - 1) < (nI jxb)) from (sm_nltN (sm_subN (a := HH) (b := 1) rfl rfl (by omega)) rfl (show jxb ≤ (HH - 1) by omega) (show (HH - 1) < 2 ^ 31 by omega)))).deep (by decide)) ?_
              refine mz_go 3 (c' := (33, [some (.ref 65), some (.int (nI jxa)), some (.int (nI jxb))], [.int 1], w)) rfl ?_
              exact mz_ret rfl
            refine mz_goP 4 (c' := (25, [some (.ref 65), some (.int (nI jxa)), some (.int (nI jxb))], [.int (nI jxb), .int (nI jxa), .ref 65], w)) rfl ?_
            refine mz_doPQ (R := mz_r186) (as := [.ref 65, .int (nI jxa), .int (nI jxb)]) (rest := []) (r1 := some (.int (w 21 ((jxb * 6) + jxa)))) (m1 := w) mz_t186 mz_v186_65 rfl rfl rfl rfl rfl ⟨?_, rfl⟩ ?_
            · refine mz_go 9 (c' := (13, [some (.ref 65), some (.int (nI jxa)), some (.int (nI jxb))], [.int ((70 + (6 * (nI jxb))) + (nI jxa)), .ref 66], w)) rfl ?_
              refine mz_arr (c' := (14, [some (.ref 65), some (.int (nI jxa)), some (.int (nI jxb))], [.int (w 66 (((70 + (6 * (nI jxb))) + (nI jxa)).toNatClampNeg))], w)) rfl (show mz_in ((70 + (6 * (nI jxb))) + (nI jxa)) 650 = true from sm_inN (sm_addN (sm_addN rfl (sm_mulN rfl rfl)) rfl) (show ((70 + (6 * jxb)) + jxa) < 650 by omega) (by decide)) ?_
              rw [show ((70 + (6 * (nI jxb))) + (nI jxa) : Int32).toNatClampNeg = ((70 + (6 * jxb)) + jxa) from sm_clN (sm_addN (sm_addN rfl (sm_mulN rfl rfl)) rfl) (show ((70 + (6 * jxb)) + jxa) < 2 ^ 31 by omega)]
              rw [show w 66 ((70 + (6 * jxb)) + jxa) = w 21 ((jxb * 6) + jxa) from by rw [show ((70 + (6 * jxb)) + jxa) = 70 + ((jxb * 6) + jxa) by omega]; exact (hpc _ (by omega)).2.1]
              exact mz_ret rfl
            refine mz_goP 1 (c' := (36, [some (.ref 65), some (.int (nI jxa)), some (.int (nI jxb))], [.int (w 21 ((jxb * 6) + jxa))], w)) rfl ?_
            refine mz_retP (r := (some (.int (w 21 ((jxb * 6) + jxa))), w)) rfl ⟨w 21 ((jxb * 6) + jxa), rfl, ?_, rfl⟩
            show sm_I (n + 1) (w)
            exact sm_I_scr hn hI2 (fun _ _ => rfl) rfl rfl
