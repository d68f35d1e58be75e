/-! shifts there and back (unbuilt draft) -/
theorem sm_sh8 (x : Int32) : (x <<< ((24 : Int32) &&& 31)) >>> ((24 : Int32) &&& 31) = x.toInt8.toInt32 := by
  apply Int32.toInt_inj.mp
  rw [Int8.toInt_toInt32, Int32.toInt_toInt8]
  show (BitVec.sshiftRight (x.toBitVec <<< 24) 24).toInt = x.toBitVec.toInt.bmod (2 ^ 8)
  rw [BitVec.toInt_sshiftRight, BitVec.toInt_shiftLeft, Int.shiftRight_eq_div_pow, Nat.shiftLeft_eq]
  have h := BitVec.toInt_eq_toNat_bmod x.toBitVec
  have hl := x.toBitVec.isLt
  rw [h]
  simp only [Int.bmod_def]
  omega
theorem sm_sh16 (x : Int32) : (x <<< ((16 : Int32) &&& 31)) >>> ((16 : Int32) &&& 31) = x.toInt16.toInt32 := by
  apply Int32.toInt_inj.mp
  rw [Int16.toInt_toInt32, Int32.toInt_toInt16]
  show (BitVec.sshiftRight (x.toBitVec <<< 16) 16).toInt = x.toBitVec.toInt.bmod (2 ^ 16)
  rw [BitVec.toInt_sshiftRight, BitVec.toInt_shiftLeft, Int.shiftRight_eq_div_pow, Nat.shiftLeft_eq]
  have h := BitVec.toInt_eq_toNat_bmod x.toBitVec
  have hl := x.toBitVec.isLt
  rw [h]
  simp only [Int.bmod_def]
  omega
theorem sm_sh0 (x : Int32) : (x <<< ((0 : Int32) &&& 31)) >>> ((0 : Int32) &&& 31) = x := by
  apply Int32.toInt_inj.mp
  show (BitVec.sshiftRight (x.toBitVec <<< 0) 0).toInt = x.toBitVec.toInt
  rw [BitVec.shiftLeft_zero, BitVec.sshiftRight_zero]
theorem sm_putted {c c' C C' : Nat → Int32} {p q : Nat} {v : Int32} (hpq : p = q) (h : ∀ i, i < 96 → c' i = c i) (hC : ∀ i, C i = if i = p then v else c i) (hC' : ∀ i, C' i = if i = q then v else c' i) : ∀ i, i < 96 → C' i = C i := by
  intro i hi
  rw [hC, hC', hpq]
  by_cases e : i = q
  · rw [if_pos e, if_pos e]
  · rw [if_neg e, if_neg e, h i hi]
set_option maxHeartbeats 4000000 in
set_option maxRecDepth 100000 in
theorem sc_put {n : Nat} (hn : n < 64) {w : mz_M} (hI : sm_I n w) (xa : Int32) (xb : Int32) (xc : Int32) : ∃ v1 v2 m1 m2, mz_Me 100 mz_r100 [.ref 0, .int xa, .int xb, .int xc] w (some (.int v1)) m1 ∧ mz_Me 100 mz_r221 [.ref 65, .int xa, .int xb, .int xc] m1 (some (.int v2)) m2 ∧ sm_I (n + 1) m2 ∧ v1 = v2 := by
  have hI2 := hI
  obtain ⟨hn0, ⟨-, ⟨hr80, hr5, hrr⟩, ⟨⟨TT, hTT, h81, h661⟩, htp⟩, ⟨⟨T0, hT0, hU0, hV0, -⟩, ⟨T1, hT1, hU1, hV1, -⟩, ⟨T2, hT2, hU2, hV2, -⟩⟩, ⟨hbx, hby, hbl⟩, ⟨⟨WW, HH, hWW, hHH, hWH, h202, h203, h6660, h6661⟩, h6662, h6663, h6664, hpc⟩, ⟨hth, h66160, hthr⟩, ⟨⟨AA, hAA, h111, h662⟩, h663, hwt⟩⟩, ⟨hsh, hsn⟩, ⟨hcb1, hcb2⟩, ⟨JJ, hJJ, h07, h652, hkept⟩⟩ := hI
  obtain ⟨N, hw, hr2, h660, -, -, h6615⟩ := sm_world hI2
  have hw2 := hw
  obtain ⟨hN, h4, hpb, -, -⟩ := hw2
  have hT60a := sm_T60 hV0
  have hT60b := sm_T60 hV1
  have hT60c := sm_T60 hV2
  obtain ⟨B1, hB1, e571⟩ := sm_Nof (by decide) hcb1
  obtain ⟨B2, hB2, e6519⟩ := sm_Nof (by decide) hcb2
  refine mz_two (fun _ => rfl) (fun _ => rfl) ?_
  by_cases q1 : xa < 0
  · refine mz_goP 3 (c' := (5, [some (.ref 0), some (.int xa), some (.int xb), some (.int xc)], [.int xa, .ref 60], w)) rfl ?_
    refine mz_doPQ (R := mz_r45) (as := [.ref 60, .int xa]) (rest := []) (r1 := some (.int 0)) (m1 := w) mz_t45 mz_v45_60 rfl rfl rfl rfl rfl ⟨?_, rfl⟩ ?_
    · refine mz_go 2 (c' := (if xa < 0 then 13 else 4, [some (.ref 60), some (.int xa)], [], w)) rfl ?_
      refine mz_ifT q1 ?_
      refine mz_go 1 (c' := (14, [some (.ref 60), some (.int xa)], [.int 0], w)) rfl ?_
      exact mz_ret rfl
    refine mz_goP 3 (c' := (13, [some (.ref 0), some (.int xa), some (.int xb), some (.int xc)], [.int 1, .ref 0], w)) rfl ?_
    refine mz_doPQ (R := mz_r109) (as := [.ref 0, .int 1]) (rest := []) (r1 := some (.int (-1000001))) (m1 := mz_up w 64 1 ((w 64 1) + 1)) mz_t109 mz_v109_0 rfl rfl rfl rfl rfl ((cs_err1 (m := w)).deep (by decide)) ?_
    refine mz_retP (r := (some (.int ((-1000001))), mz_up w 64 1 ((w 64 1) + 1))) rfl ⟨(-1000001), rfl, ?_⟩
    refine mz_goP 1 (c' := (1, [some (.ref 65), some (.int xa), some (.int xb), some (.int xc), none], [.int xa], mz_up w 64 1 ((w 64 1) + 1))) rfl ?_
    refine mz_doPQ (R := mz_r219) (as := [.int xa]) (rest := []) (r1 := some (.int 0)) (m1 := mz_up w 64 1 ((w 64 1) + 1)) mz_t219 mz_v219 rfl rfl rfl rfl rfl ⟨?_, rfl⟩ ?_
    · refine mz_go 3 (c' := (3, [some (.int xa)], [.int 3, .int 0, .int xa], mz_up w 64 1 ((w 64 1) + 1))) rfl ?_
      refine mz_doQ (R := mz_r128) (as := [.int xa, .int 0, .int 3]) (rest := []) (r1 := some (.int 0)) (m1 := mz_up w 64 1 ((w 64 1) + 1)) mz_t128 mz_v128 rfl rfl rfl rfl rfl ((ct_inL (m := mz_up w 64 1 ((w 64 1) + 1)) (v := xa) (a := 0) (b := 3) q1).deep (by decide)) ?_
      exact mz_ret rfl
    refine mz_goP 3 (c' := (9, [some (.ref 65), some (.int xa), some (.int xb), some (.int xc), none], [.int 1, .ref 65], mz_up w 64 1 ((w 64 1) + 1))) rfl ?_
    refine mz_doPQ (R := mz_r127) (as := [.ref 65, .int 1]) (rest := []) (r1 := some (.int (-1000001))) (m1 := mz_up (mz_up w 64 1 ((w 64 1) + 1)) 68 1 ((w 68 1) + 1)) mz_t127 mz_v127_65 rfl rfl rfl rfl rfl ((ct_err1 (m := mz_up w 64 1 ((w 64 1) + 1))).deep (by decide)) ?_
    refine mz_retP (r := (some (.int ((-1000001))), mz_up (mz_up w 64 1 ((w 64 1) + 1)) 68 1 ((w 68 1) + 1))) rfl ⟨(-1000001), rfl, ?_, rfl⟩
    show sm_I (n + 1) (mz_up (mz_up w 64 1 ((w 64 1) + 1)) 68 1 ((w 68 1) + 1))
    exact sm_I_scr hn hI2 (fun i hi => by
      have hne : ∀ r, sm_scr r = true → i ≠ r := fun r hr e => by
        rw [e, hr] at hi
        cases hi
      simp only [mz_up_ne (hne 64 rfl), mz_up_ne (hne 68 rfl)]) rfl rfl
  · by_cases q2 : 4 ≤ xa
    · refine mz_goP 3 (c' := (5, [some (.ref 0), some (.int xa), some (.int xb), some (.int xc)], [.int xa, .ref 60], w)) rfl ?_
      refine mz_doPQ (R := mz_r45) (as := [.ref 60, .int xa]) (rest := []) (r1 := some (.int 0)) (m1 := w) mz_t45 mz_v45_60 rfl rfl rfl rfl rfl ⟨?_, rfl⟩ ?_
      · refine mz_go 2 (c' := (if xa < 0 then 13 else 4, [some (.ref 60), some (.int xa)], [], w)) rfl ?_
        refine mz_ifF q1 ?_
        refine mz_go 3 (c' := (if 4 ≤ xa then 13 else 9, [some (.ref 60), some (.int xa)], [], w)) rfl ?_
        refine mz_ifT q2 ?_
        refine mz_go 1 (c' := (14, [some (.ref 60), some (.int xa)], [.int 0], w)) rfl ?_
        exact mz_ret rfl
      refine mz_goP 3 (c' := (13, [some (.ref 0), some (.int xa), some (.int xb), some (.int xc)], [.int 1, .ref 0], w)) rfl ?_
      refine mz_doPQ (R := mz_r109) (as := [.ref 0, .int 1]) (rest := []) (r1 := some (.int (-1000001))) (m1 := mz_up w 64 1 ((w 64 1) + 1)) mz_t109 mz_v109_0 rfl rfl rfl rfl rfl ((cs_err1 (m := w)).deep (by decide)) ?_
      refine mz_retP (r := (some (.int ((-1000001))), mz_up w 64 1 ((w 64 1) + 1))) rfl ⟨(-1000001), rfl, ?_⟩
      refine mz_goP 1 (c' := (1, [some (.ref 65), some (.int xa), some (.int xb), some (.int xc), none], [.int xa], mz_up w 64 1 ((w 64 1) + 1))) rfl ?_
      refine mz_doPQ (R := mz_r219) (as := [.int xa]) (rest := []) (r1 := some (.int 0)) (m1 := mz_up w 64 1 ((w 64 1) + 1)) mz_t219 mz_v219 rfl rfl rfl rfl rfl ⟨?_, rfl⟩ ?_
      · refine mz_go 3 (c' := (3, [some (.int xa)], [.int 3, .int 0, .int xa], mz_up w 64 1 ((w 64 1) + 1))) rfl ?_
        refine mz_doQ (R := mz_r128) (as := [.int xa, .int 0, .int 3]) (rest := []) (r1 := some (.int 0)) (m1 := mz_up w 64 1 ((w 64 1) + 1)) mz_t128 mz_v128 rfl rfl rfl rfl rfl ((ct_inG (m := mz_up w 64 1 ((w 64 1) + 1)) (v := xa) (a := 0) (b := 3) q1 (by have hl : (4 : Int) ≤ (xa).toInt := Int32.le_iff_toInt_le.mp q2; exact Int32.lt_iff_toInt_lt.mpr (show (3 : Int) < (xa).toInt by omega))).deep (by decide)) ?_
        exact mz_ret rfl
      refine mz_goP 3 (c' := (9, [some (.ref 65), some (.int xa), some (.int xb), some (.int xc), none], [.int 1, .ref 65], mz_up w 64 1 ((w 64 1) + 1))) rfl ?_
      refine mz_doPQ (R := mz_r127) (as := [.ref 65, .int 1]) (rest := []) (r1 := some (.int (-1000001))) (m1 := mz_up (mz_up w 64 1 ((w 64 1) + 1)) 68 1 ((w 68 1) + 1)) mz_t127 mz_v127_65 rfl rfl rfl rfl rfl ((ct_err1 (m := mz_up w 64 1 ((w 64 1) + 1))).deep (by decide)) ?_
      refine mz_retP (r := (some (.int ((-1000001))), mz_up (mz_up w 64 1 ((w 64 1) + 1)) 68 1 ((w 68 1) + 1))) rfl ⟨(-1000001), rfl, ?_, rfl⟩
      show sm_I (n + 1) (mz_up (mz_up w 64 1 ((w 64 1) + 1)) 68 1 ((w 68 1) + 1))
      exact sm_I_scr hn hI2 (fun i hi => by
        have hne : ∀ r, sm_scr r = true → i ≠ r := fun r hr e => by
          rw [e, hr] at hi
          cases hi
        simp only [mz_up_ne (hne 64 rfl), mz_up_ne (hne 68 rfl)]) rfl rfl
    · obtain ⟨jxa, hjxa, rfl⟩ := nI_of q1
      have zxa0 : ¬ 4 ≤ jxa := fun z => q2 ((nI_leI (by decide) hjxa).mpr z)
      rcases (hsh jxa (by omega)).1 with o3 | o3 | o3 | o3
      · refine mz_goP 3 (c' := (5, [some (.ref 0), some (.int (nI jxa)), some (.int xb), some (.int xc)], [.int (nI jxa), .ref 60], w)) rfl ?_
        refine mz_doPQ (R := mz_r45) (as := [.ref 60, .int (nI jxa)]) (rest := []) (r1 := some (.int 1)) (m1 := w) mz_t45 mz_v45_60 rfl rfl rfl rfl rfl ⟨?_, rfl⟩ ?_
        · refine mz_go 2 (c' := (if (nI jxa) < 0 then 13 else 4, [some (.ref 60), some (.int (nI jxa))], [], w)) rfl ?_
          refine mz_ifF q1 ?_
          refine mz_go 3 (c' := (if 4 ≤ (nI jxa) then 13 else 9, [some (.ref 60), some (.int (nI jxa))], [], w)) rfl ?_
          refine mz_ifF q2 ?_
          refine mz_go 2 (c' := (14, [some (.ref 60), some (.int (nI jxa))], [.int 1], w)) rfl ?_
          exact mz_ret rfl
        refine mz_goP 4 (c' := (22, [some (.ref 0), some (.int (nI jxa)), some (.int xb), some (.int xc)], [.int (nI jxa), .ref 60], w)) rfl ?_
        refine mz_doPQ (R := mz_r46) (as := [.ref 60, .int (nI jxa)]) (rest := []) (r1 := some (.int 1)) (m1 := w) mz_t46 mz_v46_60 rfl rfl rfl rfl rfl ⟨?_, rfl⟩ ?_
        · refine mz_go 2 (c' := (2, [some (.ref 60), some (.int (nI jxa))], [.int (nI jxa), .ref 60], w)) rfl ?_
          refine mz_doQ (R := mz_r45) (as := [.ref 60, .int (nI jxa)]) (rest := []) (r1 := some (.int 1)) (m1 := w) mz_t45 mz_v45_60 rfl rfl rfl rfl rfl ⟨?_, rfl⟩ ?_
          · refine mz_go 2 (c' := (if (nI jxa) < 0 then 13 else 4, [some (.ref 60), some (.int (nI jxa))], [], w)) rfl ?_
            refine mz_ifF q1 ?_
            refine mz_go 3 (c' := (if 4 ≤ (nI jxa) then 13 else 9, [some (.ref 60), some (.int (nI jxa))], [], w)) rfl ?_
            refine mz_ifF q2 ?_
            refine mz_go 2 (c' := (14, [some (.ref 60), some (.int (nI jxa))], [.int 1], w)) rfl ?_
            exact mz_ret rfl
          refine mz_go 4 (c' := (13, [some (.ref 60), some (.int (nI jxa))], [.int (nI jxa), .ref 61], w)) rfl ?_
          refine mz_arr (c' := (14, [some (.ref 60), some (.int (nI jxa))], [.int (w 61 ((nI jxa).toNatClampNeg))], w)) rfl (show mz_in (nI jxa) 4 = true from sm_inN rfl (show jxa < 4 by omega) (by decide)) ?_
          rw [show (nI jxa : Int32).toNatClampNeg = jxa from sm_clN rfl (show jxa < 2 ^ 31 by omega)]
          rw [o3]
          refine mz_go 3 (c' := (22, [some (.ref 60), some (.int (nI jxa))], [.int 1], w)) rfl ?_
          exact mz_ret rfl
        refine mz_goP 3 (c' := (30, [some (.ref 0), some (.int (nI jxa)), some (.int xb), some (.int xc)], [.int 2, .ref 0], w)) rfl ?_
        refine mz_doPQ (R := mz_r109) (as := [.ref 0, .int 2]) (rest := []) (r1 := some (.int (-1000002))) (m1 := mz_up w 64 2 ((w 64 2) + 1)) mz_t109 mz_v109_0 rfl rfl rfl rfl rfl ((cs_err2 (m := w)).deep (by decide)) ?_
        refine mz_retP (r := (some (.int ((-1000002))), mz_up w 64 2 ((w 64 2) + 1))) rfl ⟨(-1000002), rfl, ?_⟩
        refine mz_goP 1 (c' := (1, [some (.ref 65), some (.int (nI jxa)), some (.int xb), some (.int xc), none], [.int (nI jxa)], mz_up w 64 2 ((w 64 2) + 1))) rfl ?_
        refine mz_doPQ (R := mz_r219) (as := [.int (nI jxa)]) (rest := []) (r1 := some (.int 1)) (m1 := mz_up w 64 2 ((w 64 2) + 1)) mz_t219 mz_v219 rfl rfl rfl rfl rfl ⟨?_, rfl⟩ ?_
        · refine mz_go 3 (c' := (3, [some (.int (nI jxa))], [.int 3, .int 0, .int (nI jxa)], mz_up w 64 2 ((w 64 2) + 1))) rfl ?_
          refine mz_doQ (R := mz_r128) (as := [.int (nI jxa), .int 0, .int 3]) (rest := []) (r1 := some (.int 1)) (m1 := mz_up w 64 2 ((w 64 2) + 1)) mz_t128 mz_v128 rfl rfl rfl rfl rfl ((ct_in1 (m := mz_up w 64 2 ((w 64 2) + 1)) (v := nI jxa) (a := 0) (b := 3) q1 (show ¬ (3 < (nI jxa)) from (sm_nltN rfl rfl (show jxa ≤ 3 by omega) (show 3 < 2 ^ 31 by omega)))).deep (by decide)) ?_
          exact mz_ret rfl
        refine mz_goP 4 (c' := (18, [some (.ref 65), some (.int (nI jxa)), some (.int xb), some (.int xc), none], [.int (nI jxa), .ref 75], mz_up w 64 2 ((w 64 2) + 1))) rfl ?_
        refine mz_arrP (c' := (19, [some (.ref 65), some (.int (nI jxa)), some (.int xb), some (.int xc), none], [.int (w 75 ((nI jxa).toNatClampNeg))], mz_up w 64 2 ((w 64 2) + 1))) rfl (show mz_in (nI jxa) 4 = true from sm_inN rfl (show jxa < 4 by omega) (by decide)) ?_
        rw [show (nI jxa : Int32).toNatClampNeg = jxa from sm_clN rfl (show jxa < 2 ^ 31 by omega)]
        rw [show w 75 jxa = w 61 jxa from (hsh jxa (by omega)).2.2.1]
        rw [o3]
        refine mz_goP 3 (c' := (24, [some (.ref 65), some (.int (nI jxa)), some (.int xb), some (.int xc), none], [.int 2, .ref 65], mz_up w 64 2 ((w 64 2) + 1))) rfl ?_
        refine mz_doPQ (R := mz_r127) (as := [.ref 65, .int 2]) (rest := []) (r1 := some (.int (-1000002))) (m1 := mz_up (mz_up w 64 2 ((w 64 2) + 1)) 68 2 ((w 68 2) + 1)) mz_t127 mz_v127_65 rfl rfl rfl rfl rfl ((ct_err2 (m := mz_up w 64 2 ((w 64 2) + 1))).deep (by decide)) ?_
        refine mz_retP (r := (some (.int ((-1000002))), mz_up (mz_up w 64 2 ((w 64 2) + 1)) 68 2 ((w 68 2) + 1))) rfl ⟨(-1000002), rfl, ?_, rfl⟩
        show sm_I (n + 1) (mz_up (mz_up w 64 2 ((w 64 2) + 1)) 68 2 ((w 68 2) + 1))
        exact sm_I_scr hn hI2 (fun i hi => by
          have hne : ∀ r, sm_scr r = true → i ≠ r := fun r hr e => by
            rw [e, hr] at hi
            cases hi
          simp only [mz_up_ne (hne 64 rfl), mz_up_ne (hne 68 rfl)]) rfl rfl
      · obtain ⟨zz4, hzz4, ezz4⟩ := sm_Nof (by decide) (hsh jxa (by omega)).2.1
        by_cases q5 : zz4 = 0
        · refine mz_goP 3 (c' := (5, [some (.ref 0), some (.int (nI jxa)), some (.int xb), some (.int xc)], [.int (nI jxa), .ref 60], w)) rfl ?_
          refine mz_doPQ (R := mz_r45) (as := [.ref 60, .int (nI jxa)]) (rest := []) (r1 := some (.int 1)) (m1 := w) mz_t45 mz_v45_60 rfl rfl rfl rfl rfl ⟨?_, rfl⟩ ?_
          · refine mz_go 2 (c' := (if (nI jxa) < 0 then 13 else 4, [some (.ref 60), some (.int (nI jxa))], [], w)) rfl ?_
            refine mz_ifF q1 ?_
            refine mz_go 3 (c' := (if 4 ≤ (nI jxa) then 13 else 9, [some (.ref 60), some (.int (nI jxa))], [], w)) rfl ?_
            refine mz_ifF q2 ?_
            refine mz_go 2 (c' := (14, [some (.ref 60), some (.int (nI jxa))], [.int 1], w)) rfl ?_
            exact mz_ret rfl
          refine mz_goP 4 (c' := (22, [some (.ref 0), some (.int (nI jxa)), some (.int xb), some (.int xc)], [.int (nI jxa), .ref 60], w)) rfl ?_
          refine mz_doPQ (R := mz_r46) (as := [.ref 60, .int (nI jxa)]) (rest := []) (r1 := some (.int 0)) (m1 := w) mz_t46 mz_v46_60 rfl rfl rfl rfl rfl ⟨?_, rfl⟩ ?_
          · refine mz_go 2 (c' := (2, [some (.ref 60), some (.int (nI jxa))], [.int (nI jxa), .ref 60], w)) rfl ?_
            refine mz_doQ (R := mz_r45) (as := [.ref 60, .int (nI jxa)]) (rest := []) (r1 := some (.int 1)) (m1 := w) mz_t45 mz_v45_60 rfl rfl rfl rfl rfl ⟨?_, rfl⟩ ?_
            · refine mz_go 2 (c' := (if (nI jxa) < 0 then 13 else 4, [some (.ref 60), some (.int (nI jxa))], [], w)) rfl ?_
              refine mz_ifF q1 ?_
              refine mz_go 3 (c' := (if 4 ≤ (nI jxa) then 13 else 9, [some (.ref 60), some (.int (nI jxa))], [], w)) rfl ?_
              refine mz_ifF q2 ?_
              refine mz_go 2 (c' := (14, [some (.ref 60), some (.int (nI jxa))], [.int 1], w)) rfl ?_
              exact mz_ret rfl
            refine mz_go 4 (c' := (13, [some (.ref 60), some (.int (nI jxa))], [.int (nI jxa), .ref 61], w)) rfl ?_
            refine mz_arr (c' := (14, [some (.ref 60), some (.int (nI jxa))], [.int (w 61 ((nI jxa).toNatClampNeg))], w)) rfl (show mz_in (nI jxa) 4 = true from sm_inN rfl (show jxa < 4 by omega) (by decide)) ?_
            rw [show (nI jxa : Int32).toNatClampNeg = jxa from sm_clN rfl (show jxa < 2 ^ 31 by omega)]
            rw [o3]
            refine mz_go 2 (c' := (22, [some (.ref 60), some (.int (nI jxa))], [.int 0], w)) rfl ?_
            exact mz_ret rfl
          refine mz_goP 7 (c' := (44, [some (.ref 0), some (.int (nI jxa)), some (.int xb), some (.int xc)], [.int (nI jxa), .ref 62, .int 0, .int xb], w)) rfl ?_
          refine mz_arrP (c' := (45, [some (.ref 0), some (.int (nI jxa)), some (.int xb), some (.int xc)], [.int (w 62 ((nI jxa).toNatClampNeg)), .int 0, .int xb], w)) rfl (show mz_in (nI jxa) 4 = true from sm_inN rfl (show jxa < 4 by omega) (by decide)) ?_
          rw [show (nI jxa : Int32).toNatClampNeg = jxa from sm_clN rfl (show jxa < 2 ^ 31 by omega)]
          rw [ezz4]
          refine mz_goP 2 (c' := (47, [some (.ref 0), some (.int (nI jxa)), some (.int xb), some (.int xc)], [.int ((nI zz4) - 1), .int 0, .int xb], w)) rfl ?_
          rw [show nI zz4 - 1 = -1 from by rw [show zz4 = 0 by omega]; decide]
          by_cases q6 : xb < 0
          · refine mz_doPQ (R := mz_r121) (as := [.int xb, .int 0, .int (-1)]) (rest := []) (r1 := some (.int 0)) (m1 := w) mz_t121 mz_v121 rfl rfl rfl rfl rfl ((cs_inL (m := w) (v := xb) (a := 0) (b := (-1)) q6).deep (by decide)) ?_
            refine mz_goP 3 (c' := (55, [some (.ref 0), some (.int (nI jxa)), some (.int xb), some (.int xc)], [.int 1, .ref 0], w)) rfl ?_
            refine mz_doPQ (R := mz_r109) (as := [.ref 0, .int 1]) (rest := []) (r1 := some (.int (-1000001))) (m1 := mz_up w 64 1 ((w 64 1) + 1)) mz_t109 mz_v109_0 rfl rfl rfl rfl rfl ((cs_err1 (m := w)).deep (by decide)) ?_
            refine mz_retP (r := (some (.int ((-1000001))), mz_up w 64 1 ((w 64 1) + 1))) rfl ⟨(-1000001), rfl, ?_⟩
            refine mz_goP 1 (c' := (1, [some (.ref 65), some (.int (nI jxa)), some (.int xb), some (.int xc), none], [.int (nI jxa)], mz_up w 64 1 ((w 64 1) + 1))) rfl ?_
            refine mz_doPQ (R := mz_r219) (as := [.int (nI jxa)]) (rest := []) (r1 := some (.int 1)) (m1 := mz_up w 64 1 ((w 64 1) + 1)) mz_t219 mz_v219 rfl rfl rfl rfl rfl ⟨?_, rfl⟩ ?_
            · refine mz_go 3 (c' := (3, [some (.int (nI jxa))], [.int 3, .int 0, .int (nI jxa)], mz_up w 64 1 ((w 64 1) + 1))) rfl ?_
              refine mz_doQ (R := mz_r128) (as := [.int (nI jxa), .int 0, .int 3]) (rest := []) (r1 := some (.int 1)) (m1 := mz_up w 64 1 ((w 64 1) + 1)) mz_t128 mz_v128 rfl rfl rfl rfl rfl ((ct_in1 (m := mz_up w 64 1 ((w 64 1) + 1)) (v := nI jxa) (a := 0) (b := 3) q1 (show ¬ (3 < (nI jxa)) from (sm_nltN rfl rfl (show jxa ≤ 3 by omega) (show 3 < 2 ^ 31 by omega)))).deep (by decide)) ?_
              exact mz_ret rfl
            refine mz_goP 4 (c' := (18, [some (.ref 65), some (.int (nI jxa)), some (.int xb), some (.int xc), none], [.int (nI jxa), .ref 75], mz_up w 64 1 ((w 64 1) + 1))) rfl ?_
            refine mz_arrP (c' := (19, [some (.ref 65), some (.int (nI jxa)), some (.int xb), some (.int xc), none], [.int (w 75 ((nI jxa).toNatClampNeg))], mz_up w 64 1 ((w 64 1) + 1))) rfl (show mz_in (nI jxa) 4 = true from sm_inN rfl (show jxa < 4 by omega) (by decide)) ?_
            rw [show (nI jxa : Int32).toNatClampNeg = jxa from sm_clN rfl (show jxa < 2 ^ 31 by omega)]
            rw [show w 75 jxa = w 61 jxa from (hsh jxa (by omega)).2.2.1]
            rw [o3]
            refine mz_goP 6 (c' := (35, [some (.ref 65), some (.int (nI jxa)), some (.int xb), some (.int xc), none], [.int (nI jxa), .ref 76, .int 0, .int xb], mz_up w 64 1 ((w 64 1) + 1))) rfl ?_
            refine mz_arrP (c' := (36, [some (.ref 65), some (.int (nI jxa)), some (.int xb), some (.int xc), none], [.int (w 76 ((nI jxa).toNatClampNeg)), .int 0, .int xb], mz_up w 64 1 ((w 64 1) + 1))) rfl (show mz_in (nI jxa) 4 = true from sm_inN rfl (show jxa < 4 by omega) (by decide)) ?_
            rw [show (nI jxa : Int32).toNatClampNeg = jxa from sm_clN rfl (show jxa < 2 ^ 31 by omega)]
            rw [show w 76 jxa = w 62 jxa from (hsh jxa (by omega)).2.2.2]
            rw [ezz4]
            refine mz_goP 2 (c' := (38, [some (.ref 65), some (.int (nI jxa)), some (.int xb), some (.int xc), none], [.int ((nI zz4) - 1), .int 0, .int xb], mz_up w 64 1 ((w 64 1) + 1))) rfl ?_
            rw [show nI zz4 - 1 = -1 from by rw [show zz4 = 0 by omega]; decide]
            refine mz_doPQ (R := mz_r128) (as := [.int xb, .int 0, .int (-1)]) (rest := []) (r1 := some (.int 0)) (m1 := mz_up w 64 1 ((w 64 1) + 1)) mz_t128 mz_v128 rfl rfl rfl rfl rfl ((ct_inL (m := mz_up w 64 1 ((w 64 1) + 1)) (v := xb) (a := 0) (b := (-1)) q6).deep (by decide)) ?_
            refine mz_goP 3 (c' := (46, [some (.ref 65), some (.int (nI jxa)), some (.int xb), some (.int xc), none], [.int 1, .ref 65], mz_up w 64 1 ((w 64 1) + 1))) rfl ?_
            refine mz_doPQ (R := mz_r127) (as := [.ref 65, .int 1]) (rest := []) (r1 := some (.int (-1000001))) (m1 := mz_up (mz_up w 64 1 ((w 64 1) + 1)) 68 1 ((w 68 1) + 1)) mz_t127 mz_v127_65 rfl rfl rfl rfl rfl ((ct_err1 (m := mz_up w 64 1 ((w 64 1) + 1))).deep (by decide)) ?_
            refine mz_retP (r := (some (.int ((-1000001))), mz_up (mz_up w 64 1 ((w 64 1) + 1)) 68 1 ((w 68 1) + 1))) rfl ⟨(-1000001), rfl, ?_, rfl⟩
            show sm_I (n + 1) (mz_up (mz_up w 64 1 ((w 64 1) + 1)) 68 1 ((w 68 1) + 1))
            exact sm_I_scr hn hI2 (fun i hi => by
              have hne : ∀ r, sm_scr r = true → i ≠ r := fun r hr e => by
                rw [e, hr] at hi
                cases hi
              simp only [mz_up_ne (hne 64 rfl), mz_up_ne (hne 68 rfl)]) rfl rfl
          · refine mz_doPQ (R := mz_r121) (as := [.int xb, .int 0, .int (-1)]) (rest := []) (r1 := some (.int 0)) (m1 := w) mz_t121 mz_v121 rfl rfl rfl rfl rfl ((cs_inG (m := w) (v := xb) (a := 0) (b := (-1)) q6 (by have hl : (0 : Int) ≤ (xb).toInt := Int32.le_iff_toInt_le.mp (Int32.not_lt.mp q6); exact Int32.lt_iff_toInt_lt.mpr (show (-1 : Int) < (xb).toInt by omega))).deep (by decide)) ?_
            refine mz_goP 3 (c' := (55, [some (.ref 0), some (.int (nI jxa)), some (.int xb), some (.int xc)], [.int 1, .ref 0], w)) rfl ?_
            refine mz_doPQ (R := mz_r109) (as := [.ref 0, .int 1]) (rest := []) (r1 := some (.int (-1000001))) (m1 := mz_up w 64 1 ((w 64 1) + 1)) mz_t109 mz_v109_0 rfl rfl rfl rfl rfl ((cs_err1 (m := w)).deep (by decide)) ?_
            refine mz_retP (r := (some (.int ((-1000001))), mz_up w 64 1 ((w 64 1) + 1))) rfl ⟨(-1000001), rfl, ?_⟩
            refine mz_goP 1 (c' := (1, [some (.ref 65), some (.int (nI jxa)), some (.int xb), some (.int xc), none], [.int (nI jxa)], mz_up w 64 1 ((w 64 1) + 1))) rfl ?_
            refine mz_doPQ (R := mz_r219) (as := [.int (nI jxa)]) (rest := []) (r1 := some (.int 1)) (m1 := mz_up w 64 1 ((w 64 1) + 1)) mz_t219 mz_v219 rfl rfl rfl rfl rfl ⟨?_, rfl⟩ ?_
            · refine mz_go 3 (c' := (3, [some (.int (nI jxa))], [.int 3, .int 0, .int (nI jxa)], mz_up w 64 1 ((w 64 1) + 1))) rfl ?_
              refine mz_doQ (R := mz_r128) (as := [.int (nI jxa), .int 0, .int 3]) (rest := []) (r1 := some (.int 1)) (m1 := mz_up w 64 1 ((w 64 1) + 1)) mz_t128 mz_v128 rfl rfl rfl rfl rfl ((ct_in1 (m := mz_up w 64 1 ((w 64 1) + 1)) (v := nI jxa) (a := 0) (b := 3) q1 (show ¬ (3 < (nI jxa)) from (sm_nltN rfl rfl (show jxa ≤ 3 by omega) (show 3 < 2 ^ 31 by omega)))).deep (by decide)) ?_
              exact mz_ret rfl
            refine mz_goP 4 (c' := (18, [some (.ref 65), some (.int (nI jxa)), some (.int xb), some (.int xc), none], [.int (nI jxa), .ref 75], mz_up w 64 1 ((w 64 1) + 1))) rfl ?_
            refine mz_arrP (c' := (19, [some (.ref 65), some (.int (nI jxa)), some (.int xb), some (.int xc), none], [.int (w 75 ((nI jxa).toNatClampNeg))], mz_up w 64 1 ((w 64 1) + 1))) rfl (show mz_in (nI jxa) 4 = true from sm_inN rfl (show jxa < 4 by omega) (by decide)) ?_
            rw [show (nI jxa : Int32).toNatClampNeg = jxa from sm_clN rfl (show jxa < 2 ^ 31 by omega)]
            rw [show w 75 jxa = w 61 jxa from (hsh jxa (by omega)).2.2.1]
            rw [o3]
            refine mz_goP 6 (c' := (35, [some (.ref 65), some (.int (nI jxa)), some (.int xb), some (.int xc), none], [.int (nI jxa), .ref 76, .int 0, .int xb], mz_up w 64 1 ((w 64 1) + 1))) rfl ?_
            refine mz_arrP (c' := (36, [some (.ref 65), some (.int (nI jxa)), some (.int xb), some (.int xc), none], [.int (w 76 ((nI jxa).toNatClampNeg)), .int 0, .int xb], mz_up w 64 1 ((w 64 1) + 1))) rfl (show mz_in (nI jxa) 4 = true from sm_inN rfl (show jxa < 4 by omega) (by decide)) ?_
            rw [show (nI jxa : Int32).toNatClampNeg = jxa from sm_clN rfl (show jxa < 2 ^ 31 by omega)]
            rw [show w 76 jxa = w 62 jxa from (hsh jxa (by omega)).2.2.2]
            rw [ezz4]
            refine mz_goP 2 (c' := (38, [some (.ref 65), some (.int (nI jxa)), some (.int xb), some (.int xc), none], [.int ((nI zz4) - 1), .int 0, .int xb], mz_up w 64 1 ((w 64 1) + 1))) rfl ?_
            rw [show nI zz4 - 1 = -1 from by rw [show zz4 = 0 by omega]; decide]
            refine mz_doPQ (R := mz_r128) (as := [.int xb, .int 0, .int (-1)]) (rest := []) (r1 := some (.int 0)) (m1 := mz_up w 64 1 ((w 64 1) + 1)) mz_t128 mz_v128 rfl rfl rfl rfl rfl ((ct_inG (m := mz_up w 64 1 ((w 64 1) + 1)) (v := xb) (a := 0) (b := (-1)) q6 (by have hl : (0 : Int) ≤ (xb).toInt := Int32.le_iff_toInt_le.mp (Int32.not_lt.mp q6); exact Int32.lt_iff_toInt_lt.mpr (show (-1 : Int) < (xb).toInt by omega))).deep (by decide)) ?_
            refine mz_goP 3 (c' := (46, [some (.ref 65), some (.int (nI jxa)), some (.int xb), some (.int xc), none], [.int 1, .ref 65], mz_up w 64 1 ((w 64 1) + 1))) rfl ?_
            refine mz_doPQ (R := mz_r127) (as := [.ref 65, .int 1]) (rest := []) (r1 := some (.int (-1000001))) (m1 := mz_up (mz_up w 64 1 ((w 64 1) + 1)) 68 1 ((w 68 1) + 1)) mz_t127 mz_v127_65 rfl rfl rfl rfl rfl ((ct_err1 (m := mz_up w 64 1 ((w 64 1) + 1))).deep (by decide)) ?_
            refine mz_retP (r := (some (.int ((-1000001))), mz_up (mz_up w 64 1 ((w 64 1) + 1)) 68 1 ((w 68 1) + 1))) rfl ⟨(-1000001), rfl, ?_, rfl⟩
            show sm_I (n + 1) (mz_up (mz_up w 64 1 ((w 64 1) + 1)) 68 1 ((w 68 1) + 1))
            exact sm_I_scr hn hI2 (fun i hi => by
              have hne : ∀ r, sm_scr r = true → i ≠ r := fun r hr e => by
                rw [e, hr] at hi
                cases hi
              simp only [mz_up_ne (hne 64 rfl), mz_up_ne (hne 68 rfl)]) rfl rfl
        · by_cases q7 : xb < 0
          · refine mz_goP 3 (c' := (5, [some (.ref 0), some (.int (nI jxa)), some (.int xb), some (.int xc)], [.int (nI jxa), .ref 60], w)) rfl ?_
            refine mz_doPQ (R := mz_r45) (as := [.ref 60, .int (nI jxa)]) (rest := []) (r1 := some (.int 1)) (m1 := w) mz_t45 mz_v45_60 rfl rfl rfl rfl rfl ⟨?_, rfl⟩ ?_
            · refine mz_go 2 (c' := (if (nI jxa) < 0 then 13 else 4, [some (.ref 60), some (.int (nI jxa))], [], w)) rfl ?_
              refine mz_ifF q1 ?_
              refine mz_go 3 (c' := (if 4 ≤ (nI jxa) then 13 else 9, [some (.ref 60), some (.int (nI jxa))], [], w)) rfl ?_
              refine mz_ifF q2 ?_
              refine mz_go 2 (c' := (14, [some (.ref 60), some (.int (nI jxa))], [.int 1], w)) rfl ?_
              exact mz_ret rfl
            refine mz_goP 4 (c' := (22, [some (.ref 0), some (.int (nI jxa)), some (.int xb), some (.int xc)], [.int (nI jxa), .ref 60], w)) rfl ?_
            refine mz_doPQ (R := mz_r46) (as := [.ref 60, .int (nI jxa)]) (rest := []) (r1 := some (.int 0)) (m1 := w) mz_t46 mz_v46_60 rfl rfl rfl rfl rfl ⟨?_, rfl⟩ ?_
            · refine mz_go 2 (c' := (2, [some (.ref 60), some (.int (nI jxa))], [.int (nI jxa), .ref 60], w)) rfl ?_
              refine mz_doQ (R := mz_r45) (as := [.ref 60, .int (nI jxa)]) (rest := []) (r1 := some (.int 1)) (m1 := w) mz_t45 mz_v45_60 rfl rfl rfl rfl rfl ⟨?_, rfl⟩ ?_
              · refine mz_go 2 (c' := (if (nI jxa) < 0 then 13 else 4, [some (.ref 60), some (.int (nI jxa))], [], w)) rfl ?_
                refine mz_ifF q1 ?_
                refine mz_go 3 (c' := (if 4 ≤ (nI jxa) then 13 else 9, [some (.ref 60), some (.int (nI jxa))], [], w)) rfl ?_
                refine mz_ifF q2 ?_
                refine mz_go 2 (c' := (14, [some (.ref 60), some (.int (nI jxa))], [.int 1], w)) rfl ?_
                exact mz_ret rfl
              refine mz_go 4 (c' := (13, [some (.ref 60), some (.int (nI jxa))], [.int (nI jxa), .ref 61], w)) rfl ?_
              refine mz_arr (c' := (14, [some (.ref 60), some (.int (nI jxa))], [.int (w 61 ((nI jxa).toNatClampNeg))], w)) rfl (show mz_in (nI jxa) 4 = true from sm_inN rfl (show jxa < 4 by omega) (by decide)) ?_
              rw [show (nI jxa : Int32).toNatClampNeg = jxa from sm_clN rfl (show jxa < 2 ^ 31 by omega)]
              rw [o3]
              refine mz_go 2 (c' := (22, [some (.ref 60), some (.int (nI jxa))], [.int 0], w)) rfl ?_
              exact mz_ret rfl
            refine mz_goP 7 (c' := (44, [some (.ref 0), some (.int (nI jxa)), some (.int xb), some (.int xc)], [.int (nI jxa), .ref 62, .int 0, .int xb], w)) rfl ?_
            refine mz_arrP (c' := (45, [some (.ref 0), some (.int (nI jxa)), some (.int xb), some (.int xc)], [.int (w 62 ((nI jxa).toNatClampNeg)), .int 0, .int xb], w)) rfl (show mz_in (nI jxa) 4 = true from sm_inN rfl (show jxa < 4 by omega) (by decide)) ?_
            rw [show (nI jxa : Int32).toNatClampNeg = jxa from sm_clN rfl (show jxa < 2 ^ 31 by omega)]
            rw [ezz4]
            refine mz_goP 2 (c' := (47, [some (.ref 0), some (.int (nI jxa)), some (.int xb), some (.int xc)], [.int ((nI zz4) - 1), .int 0, .int xb], w)) rfl ?_
            refine mz_doPQ (R := mz_r121) (as := [.int xb, .int 0, .int ((nI zz4) - 1)]) (rest := []) (r1 := some (.int 0)) (m1 := w) mz_t121 mz_v121 rfl rfl rfl rfl rfl ((cs_inL (m := w) (v := xb) (a := 0) (b := (nI zz4) - 1) q7).deep (by decide)) ?_
            refine mz_goP 3 (c' := (55, [some (.ref 0), some (.int (nI jxa)), some (.int xb), some (.int xc)], [.int 1, .ref 0], w)) rfl ?_
            refine mz_doPQ (R := mz_r109) (as := [.ref 0, .int 1]) (rest := []) (r1 := some (.int (-1000001))) (m1 := mz_up w 64 1 ((w 64 1) + 1)) mz_t109 mz_v109_0 rfl rfl rfl rfl rfl ((cs_err1 (m := w)).deep (by decide)) ?_
            refine mz_retP (r := (some (.int ((-1000001))), mz_up w 64 1 ((w 64 1) + 1))) rfl ⟨(-1000001), rfl, ?_⟩
            refine mz_goP 1 (c' := (1, [some (.ref 65), some (.int (nI jxa)), some (.int xb), some (.int xc), none], [.int (nI jxa)], mz_up w 64 1 ((w 64 1) + 1))) rfl ?_
            refine mz_doPQ (R := mz_r219) (as := [.int (nI jxa)]) (rest := []) (r1 := some (.int 1)) (m1 := mz_up w 64 1 ((w 64 1) + 1)) mz_t219 mz_v219 rfl rfl rfl rfl rfl ⟨?_, rfl⟩ ?_
            · refine mz_go 3 (c' := (3, [some (.int (nI jxa))], [.int 3, .int 0, .int (nI jxa)], mz_up w 64 1 ((w 64 1) + 1))) rfl ?_
              refine mz_doQ (R := mz_r128) (as := [.int (nI jxa), .int 0, .int 3]) (rest := []) (r1 := some (.int 1)) (m1 := mz_up w 64 1 ((w 64 1) + 1)) mz_t128 mz_v128 rfl rfl rfl rfl rfl ((ct_in1 (m := mz_up w 64 1 ((w 64 1) + 1)) (v := nI jxa) (a := 0) (b := 3) q1 (show ¬ (3 < (nI jxa)) from (sm_nltN rfl rfl (show jxa ≤ 3 by omega) (show 3 < 2 ^ 31 by omega)))).deep (by decide)) ?_
              exact mz_ret rfl
            refine mz_goP 4 (c' := (18, [some (.ref 65), some (.int (nI jxa)), some (.int xb), some (.int xc), none], [.int (nI jxa), .ref 75], mz_up w 64 1 ((w 64 1) + 1))) rfl ?_
            refine mz_arrP (c' := (19, [some (.ref 65), some (.int (nI jxa)), some (.int xb), some (.int xc), none], [.int (w 75 ((nI jxa).toNatClampNeg))], mz_up w 64 1 ((w 64 1) + 1))) rfl (show mz_in (nI jxa) 4 = true from sm_inN rfl (show jxa < 4 by omega) (by decide)) ?_
            rw [show (nI jxa : Int32).toNatClampNeg = jxa from sm_clN rfl (show jxa < 2 ^ 31 by omega)]
            rw [show w 75 jxa = w 61 jxa from (hsh jxa (by omega)).2.2.1]
            rw [o3]
            refine mz_goP 6 (c' := (35, [some (.ref 65), some (.int (nI jxa)), some (.int xb), some (.int xc), none], [.int (nI jxa), .ref 76, .int 0, .int xb], mz_up w 64 1 ((w 64 1) + 1))) rfl ?_
            refine mz_arrP (c' := (36, [some (.ref 65), some (.int (nI jxa)), some (.int xb), some (.int xc), none], [.int (w 76 ((nI jxa).toNatClampNeg)), .int 0, .int xb], mz_up w 64 1 ((w 64 1) + 1))) rfl (show mz_in (nI jxa) 4 = true from sm_inN rfl (show jxa < 4 by omega) (by decide)) ?_
            rw [show (nI jxa : Int32).toNatClampNeg = jxa from sm_clN rfl (show jxa < 2 ^ 31 by omega)]
            rw [show w 76 jxa = w 62 jxa from (hsh jxa (by omega)).2.2.2]
            rw [ezz4]
            refine mz_goP 2 (c' := (38, [some (.ref 65), some (.int (nI jxa)), some (.int xb), some (.int xc), none], [.int ((nI zz4) - 1), .int 0, .int xb], mz_up w 64 1 ((w 64 1) + 1))) rfl ?_
            refine mz_doPQ (R := mz_r128) (as := [.int xb, .int 0, .int ((nI zz4) - 1)]) (rest := []) (r1 := some (.int 0)) (m1 := mz_up w 64 1 ((w 64 1) + 1)) mz_t128 mz_v128 rfl rfl rfl rfl rfl ((ct_inL (m := mz_up w 64 1 ((w 64 1) + 1)) (v := xb) (a := 0) (b := (nI zz4) - 1) q7).deep (by decide)) ?_
            refine mz_goP 3 (c' := (46, [some (.ref 65), some (.int (nI jxa)), some (.int xb), some (.int xc), none], [.int 1, .ref 65], mz_up w 64 1 ((w 64 1) + 1))) rfl ?_
            refine mz_doPQ (R := mz_r127) (as := [.ref 65, .int 1]) (rest := []) (r1 := some (.int (-1000001))) (m1 := mz_up (mz_up w 64 1 ((w 64 1) + 1)) 68 1 ((w 68 1) + 1)) mz_t127 mz_v127_65 rfl rfl rfl rfl rfl ((ct_err1 (m := mz_up w 64 1 ((w 64 1) + 1))).deep (by decide)) ?_
            refine mz_retP (r := (some (.int ((-1000001))), mz_up (mz_up w 64 1 ((w 64 1) + 1)) 68 1 ((w 68 1) + 1))) rfl ⟨(-1000001), rfl, ?_, rfl⟩
            show sm_I (n + 1) (mz_up (mz_up w 64 1 ((w 64 1) + 1)) 68 1 ((w 68 1) + 1))
            exact sm_I_scr hn hI2 (fun i hi => by
              have hne : ∀ r, sm_scr r = true → i ≠ r := fun r hr e => by
                rw [e, hr] at hi
                cases hi
              simp only [mz_up_ne (hne 64 rfl), mz_up_ne (hne 68 rfl)]) rfl rfl
          · obtain ⟨jxb, hjxb, rfl⟩ := nI_of q7
            refine mz_goP 3 (c' := (5, [some (.ref 0), some (.int (nI jxa)), some (.int (nI jxb)), some (.int xc)], [.int (nI jxa), .ref 60], w)) rfl ?_
            refine mz_doPQ (R := mz_r45) (as := [.ref 60, .int (nI jxa)]) (rest := []) (r1 := some (.int 1)) (m1 := w) mz_t45 mz_v45_60 rfl rfl rfl rfl rfl ⟨?_, rfl⟩ ?_
            · refine mz_go 2 (c' := (if (nI jxa) < 0 then 13 else 4, [some (.ref 60), some (.int (nI jxa))], [], w)) rfl ?_
              refine mz_ifF q1 ?_
              refine mz_go 3 (c' := (if 4 ≤ (nI jxa) then 13 else 9, [some (.ref 60), some (.int (nI jxa))], [], w)) rfl ?_
              refine mz_ifF q2 ?_
              refine mz_go 2 (c' := (14, [some (.ref 60), some (.int (nI jxa))], [.int 1], w)) rfl ?_
              exact mz_ret rfl
            refine mz_goP 4 (c' := (22, [some (.ref 0), some (.int (nI jxa)), some (.int (nI jxb)), some (.int xc)], [.int (nI jxa), .ref 60], w)) rfl ?_
            refine mz_doPQ (R := mz_r46) (as := [.ref 60, .int (nI jxa)]) (rest := []) (r1 := some (.int 0)) (m1 := w) mz_t46 mz_v46_60 rfl rfl rfl rfl rfl ⟨?_, rfl⟩ ?_
            · refine mz_go 2 (c' := (2, [some (.ref 60), some (.int (nI jxa))], [.int (nI jxa), .ref 60], w)) rfl ?_
              refine mz_doQ (R := mz_r45) (as := [.ref 60, .int (nI jxa)]) (rest := []) (r1 := some (.int 1)) (m1 := w) mz_t45 mz_v45_60 rfl rfl rfl rfl rfl ⟨?_, rfl⟩ ?_
              · refine mz_go 2 (c' := (if (nI jxa) < 0 then 13 else 4, [some (.ref 60), some (.int (nI jxa))], [], w)) rfl ?_
                refine mz_ifF q1 ?_
                refine mz_go 3 (c' := (if 4 ≤ (nI jxa) then 13 else 9, [some (.ref 60), some (.int (nI jxa))], [], w)) rfl ?_
                refine mz_ifF q2 ?_
                refine mz_go 2 (c' := (14, [some (.ref 60), some (.int (nI jxa))], [.int 1], w)) rfl ?_
                exact mz_ret rfl
              refine mz_go 4 (c' := (13, [some (.ref 60), some (.int (nI jxa))], [.int (nI jxa), .ref 61], w)) rfl ?_
              refine mz_arr (c' := (14, [some (.ref 60), some (.int (nI jxa))], [.int (w 61 ((nI jxa).toNatClampNeg))], w)) rfl (show mz_in (nI jxa) 4 = true from sm_inN rfl (show jxa < 4 by omega) (by decide)) ?_
              rw [show (nI jxa : Int32).toNatClampNeg = jxa from sm_clN rfl (show jxa < 2 ^ 31 by omega)]
              rw [o3]
              refine mz_go 2 (c' := (22, [some (.ref 60), some (.int (nI jxa))], [.int 0], w)) rfl ?_
              exact mz_ret rfl
            refine mz_goP 7 (c' := (44, [some (.ref 0), some (.int (nI jxa)), some (.int (nI jxb)), some (.int xc)], [.int (nI jxa), .ref 62, .int 0, .int (nI jxb)], w)) rfl ?_
            refine mz_arrP (c' := (45, [some (.ref 0), some (.int (nI jxa)), some (.int (nI jxb)), some (.int xc)], [.int (w 62 ((nI jxa).toNatClampNeg)), .int 0, .int (nI jxb)], w)) rfl (show mz_in (nI jxa) 4 = true from sm_inN rfl (show jxa < 4 by omega) (by decide)) ?_
            rw [show (nI jxa : Int32).toNatClampNeg = jxa from sm_clN rfl (show jxa < 2 ^ 31 by omega)]
            rw [ezz4]
            refine mz_goP 2 (c' := (47, [some (.ref 0), some (.int (nI jxa)), some (.int (nI jxb)), some (.int xc)], [.int ((nI zz4) - 1), .int 0, .int (nI jxb)], w)) rfl ?_
            by_cases q8 : (zz4 - 1) < jxb
            · refine mz_doPQ (R := mz_r121) (as := [.int (nI jxb), .int 0, .int ((nI zz4) - 1)]) (rest := []) (r1 := some (.int 0)) (m1 := w) mz_t121 mz_v121 rfl rfl rfl rfl rfl ((cs_inG (m := w) (v := nI jxb) (a := 0) (b := (nI zz4) - 1) q7 (show (((nI zz4) - 1) < (nI jxb)) from (sm_ltN (sm_subN (a := zz4) (b := 1) rfl rfl (by omega)) rfl (show (zz4 - 1) < jxb by omega) (show jxb < 2 ^ 31 by omega)))).deep (by decide)) ?_
              refine mz_goP 3 (c' := (55, [some (.ref 0), some (.int (nI jxa)), some (.int (nI jxb)), some (.int xc)], [.int 1, .ref 0], w)) rfl ?_
              refine mz_doPQ (R := mz_r109) (as := [.ref 0, .int 1]) (rest := []) (r1 := some (.int (-1000001))) (m1 := mz_up w 64 1 ((w 64 1) + 1)) mz_t109 mz_v109_0 rfl rfl rfl rfl rfl ((cs_err1 (m := w)).deep (by decide)) ?_
              refine mz_retP (r := (some (.int ((-1000001))), mz_up w 64 1 ((w 64 1) + 1))) rfl ⟨(-1000001), rfl, ?_⟩
              refine mz_goP 1 (c' := (1, [some (.ref 65), some (.int (nI jxa)), some (.int (nI jxb)), some (.int xc), none], [.int (nI jxa)], mz_up w 64 1 ((w 64 1) + 1))) rfl ?_
              refine mz_doPQ (R := mz_r219) (as := [.int (nI jxa)]) (rest := []) (r1 := some (.int 1)) (m1 := mz_up w 64 1 ((w 64 1) + 1)) mz_t219 mz_v219 rfl rfl rfl rfl rfl ⟨?_, rfl⟩ ?_
              · refine mz_go 3 (c' := (3, [some (.int (nI jxa))], [.int 3, .int 0, .int (nI jxa)], mz_up w 64 1 ((w 64 1) + 1))) rfl ?_
                refine mz_doQ (R := mz_r128) (as := [.int (nI jxa), .int 0, .int 3]) (rest := []) (r1 := some (.int 1)) (m1 := mz_up w 64 1 ((w 64 1) + 1)) mz_t128 mz_v128 rfl rfl rfl rfl rfl ((ct_in1 (m := mz_up w 64 1 ((w 64 1) + 1)) (v := nI jxa) (a := 0) (b := 3) q1 (show ¬ (3 < (nI jxa)) from (sm_nltN rfl rfl (show jxa ≤ 3 by omega) (show 3 < 2 ^ 31 by omega)))).deep (by decide)) ?_
                exact mz_ret rfl
              refine mz_goP 4 (c' := (18, [some (.ref 65), some (.int (nI jxa)), some (.int (nI jxb)), some (.int xc), none], [.int (nI jxa), .ref 75], mz_up w 64 1 ((w 64 1) + 1))) rfl ?_
              refine mz_arrP (c' := (19, [some (.ref 65), some (.int (nI jxa)), some (.int (nI jxb)), some (.int xc), none], [.int (w 75 ((nI jxa).toNatClampNeg))], mz_up w 64 1 ((w 64 1) + 1))) rfl (show mz_in (nI jxa) 4 = true from sm_inN rfl (show jxa < 4 by omega) (by decide)) ?_
              rw [show (nI jxa : Int32).toNatClampNeg = jxa from sm_clN rfl (show jxa < 2 ^ 31 by omega)]
              rw [show w 75 jxa = w 61 jxa from (hsh jxa (by omega)).2.2.1]
              rw [o3]
              refine mz_goP 6 (c' := (35, [some (.ref 65), some (.int (nI jxa)), some (.int (nI jxb)), some (.int xc), none], [.int (nI jxa), .ref 76, .int 0, .int (nI jxb)], mz_up w 64 1 ((w 64 1) + 1))) rfl ?_
              refine mz_arrP (c' := (36, [some (.ref 65), some (.int (nI jxa)), some (.int (nI jxb)), some (.int xc), none], [.int (w 76 ((nI jxa).toNatClampNeg)), .int 0, .int (nI jxb)], mz_up w 64 1 ((w 64 1) + 1))) rfl (show mz_in (nI jxa) 4 = true from sm_inN rfl (show jxa < 4 by omega) (by decide)) ?_
              rw [show (nI jxa : Int32).toNatClampNeg = jxa from sm_clN rfl (show jxa < 2 ^ 31 by omega)]
              rw [show w 76 jxa = w 62 jxa from (hsh jxa (by omega)).2.2.2]
              rw [ezz4]
              refine mz_goP 2 (c' := (38, [some (.ref 65), some (.int (nI jxa)), some (.int (nI jxb)), some (.int xc), none], [.int ((nI zz4) - 1), .int 0, .int (nI jxb)], mz_up w 64 1 ((w 64 1) + 1))) rfl ?_
              refine mz_doPQ (R := mz_r128) (as := [.int (nI jxb), .int 0, .int ((nI zz4) - 1)]) (rest := []) (r1 := some (.int 0)) (m1 := mz_up w 64 1 ((w 64 1) + 1)) mz_t128 mz_v128 rfl rfl rfl rfl rfl ((ct_inG (m := mz_up w 64 1 ((w 64 1) + 1)) (v := nI jxb) (a := 0) (b := (nI zz4) - 1) q7 (show (((nI zz4) - 1) < (nI jxb)) from (sm_ltN (sm_subN (a := zz4) (b := 1) rfl rfl (by omega)) rfl (show (zz4 - 1) < jxb by omega) (show jxb < 2 ^ 31 by omega)))).deep (by decide)) ?_
              refine mz_goP 3 (c' := (46, [some (.ref 65), some (.int (nI jxa)), some (.int (nI jxb)), some (.int xc), none], [.int 1, .ref 65], mz_up w 64 1 ((w 64 1) + 1))) rfl ?_
              refine mz_doPQ (R := mz_r127) (as := [.ref 65, .int 1]) (rest := []) (r1 := some (.int (-1000001))) (m1 := mz_up (mz_up w 64 1 ((w 64 1) + 1)) 68 1 ((w 68 1) + 1)) mz_t127 mz_v127_65 rfl rfl rfl rfl rfl ((ct_err1 (m := mz_up w 64 1 ((w 64 1) + 1))).deep (by decide)) ?_
              refine mz_retP (r := (some (.int ((-1000001))), mz_up (mz_up w 64 1 ((w 64 1) + 1)) 68 1 ((w 68 1) + 1))) rfl ⟨(-1000001), rfl, ?_, rfl⟩
              show sm_I (n + 1) (mz_up (mz_up w 64 1 ((w 64 1) + 1)) 68 1 ((w 68 1) + 1))
              exact sm_I_scr hn hI2 (fun i hi => by
                have hne : ∀ r, sm_scr r = true → i ≠ r := fun r hr e => by
                  rw [e, hr] at hi
                  cases hi
                simp only [mz_up_ne (hne 64 rfl), mz_up_ne (hne 68 rfl)]) rfl rfl
            · refine mz_doPQ (R := mz_r121) (as := [.int (nI jxb), .int 0, .int ((nI zz4) - 1)]) (rest := []) (r1 := some (.int 1)) (m1 := w) mz_t121 mz_v121 rfl rfl rfl rfl rfl ((cs_in1 (m := w) (v := nI jxb) (a := 0) (b := (nI zz4) - 1) q7 (show ¬ (((nI zz4) - 1) < (nI jxb)) from (sm_nltN (sm_subN (a := zz4) (b := 1) rfl rfl (by omega)) rfl (show jxb ≤ (zz4 - 1) by omega) (show (zz4 - 1) < 2 ^ 31 by omega)))).deep (by decide)) ?_
              refine mz_goP 6 (c' := (66, [some (.ref 0), some (.int (nI jxa)), some (.int (nI jxb)), some (.int xc)], [.int xc, .int (nI jxb), .int (nI jxa), .ref 60], w)) rfl ?_
              refine mz_doPQ (R := mz_r50) (as := [.ref 60, .int (nI jxa), .int (nI jxb), .int xc]) (rest := []) (r1 := none) (m1 := mz_up w 63 ((jxa * 24) + jxb) xc.toInt8.toInt32) mz_t50 mz_v50_60 rfl rfl rfl rfl rfl ⟨?_, rfl⟩ ?_
              · refine mz_go 4 (c' := (4, [some (.ref 60), some (.int (nI jxa)), some (.int (nI jxb)), some (.int xc), none], [.int 1, .int (nI jxb), .int (nI jxa), .ref 60], w)) rfl ?_
                refine mz_doQ (R := mz_r48) (as := [.ref 60, .int (nI jxa), .int (nI jxb), .int 1]) (rest := []) (r1 := some (.int 1)) (m1 := w) mz_t48 mz_v48_60 rfl rfl rfl rfl rfl ⟨?_, rfl⟩ ?_
                · refine mz_go 2 (c' := (2, [some (.ref 60), some (.int (nI jxa)), some (.int (nI jxb)), some (.int 1)], [.int (nI jxa), .ref 60], w)) rfl ?_
                  refine mz_doQ (R := mz_r45) (as := [.ref 60, .int (nI jxa)]) (rest := []) (r1 := some (.int 1)) (m1 := w) mz_t45 mz_v45_60 rfl rfl rfl rfl rfl ⟨?_, rfl⟩ ?_
                  · refine mz_go 2 (c' := (if (nI jxa) < 0 then 13 else 4, [some (.ref 60), some (.int (nI jxa))], [], w)) rfl ?_
                    refine mz_ifF q1 ?_
                    refine mz_go 3 (c' := (if 4 ≤ (nI jxa) then 13 else 9, [some (.ref 60), some (.int (nI jxa))], [], w)) rfl ?_
                    refine mz_ifF q2 ?_
                    refine mz_go 2 (c' := (14, [some (.ref 60), some (.int (nI jxa))], [.int 1], w)) rfl ?_
                    exact mz_ret rfl
                  refine mz_go 5 (c' := (if (nI jxb) < 0 then 42 else 16, [some (.ref 60), some (.int (nI jxa)), some (.int (nI jxb)), some (.int 1)], [], w)) rfl ?_
                  refine mz_ifF q7 ?_
                  refine mz_go 4 (c' := (22, [some (.ref 60), some (.int (nI jxa)), some (.int (nI jxb)), some (.int 1)], [.int (nI jxa), .ref 62, .int 1], w)) rfl ?_
                  refine mz_arr (c' := (23, [some (.ref 60), some (.int (nI jxa)), some (.int (nI jxb)), some (.int 1)], [.int (w 62 ((nI jxa).toNatClampNeg)), .int 1], w)) rfl (show mz_in (nI jxa) 4 = true from sm_inN rfl (show jxa < 4 by omega) (by decide)) ?_
                  rw [show (nI jxa : Int32).toNatClampNeg = jxa from sm_clN rfl (show jxa < 2 ^ 31 by omega)]
                  rw [ezz4]
                  refine mz_go 1 (c' := (if (nI zz4) < 1 then 42 else 26, [some (.ref 60), some (.int (nI jxa)), some (.int (nI jxb)), some (.int 1)], [], w)) rfl ?_
                  refine mz_ifF (show ¬ ((nI zz4) < 1) from (sm_nltN rfl rfl (show 1 ≤ zz4 by omega) (show zz4 < 2 ^ 31 by omega))) ?_
                  refine mz_go 4 (c' := (32, [some (.ref 60), some (.int (nI jxa)), some (.int (nI jxb)), some (.int 1)], [.int (nI jxa), .ref 62, .int (nI jxb)], w)) rfl ?_
                  refine mz_arr (c' := (33, [some (.ref 60), some (.int (nI jxa)), some (.int (nI jxb)), some (.int 1)], [.int (w 62 ((nI jxa).toNatClampNeg)), .int (nI jxb)], w)) rfl (show mz_in (nI jxa) 4 = true from sm_inN rfl (show jxa < 4 by omega) (by decide)) ?_
                  rw [show (nI jxa : Int32).toNatClampNeg = jxa from sm_clN rfl (show jxa < 2 ^ 31 by omega)]
                  rw [ezz4]
                  refine mz_go 3 (c' := (if ((nI zz4) - 1) < (nI jxb) then 42 else 38, [some (.ref 60), some (.int (nI jxa)), some (.int (nI jxb)), some (.int 1)], [], w)) rfl ?_
                  refine mz_ifF (show ¬ (((nI zz4) - 1) < (nI jxb)) from (sm_nltN (sm_subN (a := zz4) (b := 1) rfl rfl (by omega)) rfl (show jxb ≤ (zz4 - 1) by omega) (show (zz4 - 1) < 2 ^ 31 by omega))) ?_
                  refine mz_go 2 (c' := (43, [some (.ref 60), some (.int (nI jxa)), some (.int (nI jxb)), some (.int 1)], [.int 1], w)) rfl ?_
                  exact mz_ret rfl
                refine mz_go 4 (c' := (15, [some (.ref 60), some (.int (nI jxa)), some (.int (nI jxb)), some (.int xc), none], [.int (nI jxa), .ref 61], w)) rfl ?_
                refine mz_arr (c' := (16, [some (.ref 60), some (.int (nI jxa)), some (.int (nI jxb)), some (.int xc), none], [.int (w 61 ((nI jxa).toNatClampNeg))], w)) rfl (show mz_in (nI jxa) 4 = true from sm_inN rfl (show jxa < 4 by omega) (by decide)) ?_
                rw [show (nI jxa : Int32).toNatClampNeg = jxa from sm_clN rfl (show jxa < 2 ^ 31 by omega)]
                rw [o3]
                refine mz_go 14 (c' := (53, [some (.ref 60), some (.int (nI jxa)), some (.int (nI jxb)), some (.int xc), some (.int 8)], [.int xc.toInt8.toInt32, .int (((nI jxa) * 24) + (nI jxb)), .ref 63], w)) rfl ?_
                refine mz_arr (c' := (54, [some (.ref 60), some (.int (nI jxa)), some (.int (nI jxb)), some (.int xc), some (.int 8)], [], mz_up w 63 ((((nI jxa) * 24) + (nI jxb)).toNatClampNeg) xc.toInt8.toInt32)) rfl (show mz_in (((nI jxa) * 24) + (nI jxb)) 96 = true from sm_inN (sm_addN (sm_mulN rfl rfl) rfl) (show ((jxa * 24) + jxb) < 96 by omega) (by decide)) ?_
                rw [show (((nI jxa) * 24) + (nI jxb) : Int32).toNatClampNeg = ((jxa * 24) + jxb) from sm_clN (sm_addN (sm_mulN rfl rfl) rfl) (show ((jxa * 24) + jxb) < 2 ^ 31 by omega)]
                exact mz_ret rfl
              refine mz_goP 1 (c' := (70, [some (.ref 0), some (.int (nI jxa)), some (.int (nI jxb)), some (.int xc)], [.int 1], mz_up w 63 ((jxa * 24) + jxb) xc.toInt8.toInt32)) rfl ?_
              refine mz_retP (r := (some (.int (1)), mz_up w 63 ((jxa * 24) + jxb) xc.toInt8.toInt32)) rfl ⟨1, rfl, ?_⟩
              refine mz_goP 1 (c' := (1, [some (.ref 65), some (.int (nI jxa)), some (.int (nI jxb)), some (.int xc), none], [.int (nI jxa)], mz_up w 63 ((jxa * 24) + jxb) xc.toInt8.toInt32)) rfl ?_
              refine mz_doPQ (R := mz_r219) (as := [.int (nI jxa)]) (rest := []) (r1 := some (.int 1)) (m1 := mz_up w 63 ((jxa * 24) + jxb) xc.toInt8.toInt32) mz_t219 mz_v219 rfl rfl rfl rfl rfl ⟨?_, rfl⟩ ?_
              · refine mz_go 3 (c' := (3, [some (.int (nI jxa))], [.int 3, .int 0, .int (nI jxa)], mz_up w 63 ((jxa * 24) + jxb) xc.toInt8.toInt32)) rfl ?_
                refine mz_doQ (R := mz_r128) (as := [.int (nI jxa), .int 0, .int 3]) (rest := []) (r1 := some (.int 1)) (m1 := mz_up w 63 ((jxa * 24) + jxb) xc.toInt8.toInt32) mz_t128 mz_v128 rfl rfl rfl rfl rfl ((ct_in1 (m := mz_up w 63 ((jxa * 24) + jxb) xc.toInt8.toInt32) (v := nI jxa) (a := 0) (b := 3) q1 (show ¬ (3 < (nI jxa)) from (sm_nltN rfl rfl (show jxa ≤ 3 by omega) (show 3 < 2 ^ 31 by omega)))).deep (by decide)) ?_
                exact mz_ret rfl
              refine mz_goP 4 (c' := (18, [some (.ref 65), some (.int (nI jxa)), some (.int (nI jxb)), some (.int xc), none], [.int (nI jxa), .ref 75], mz_up w 63 ((jxa * 24) + jxb) xc.toInt8.toInt32)) rfl ?_
              refine mz_arrP (c' := (19, [some (.ref 65), some (.int (nI jxa)), some (.int (nI jxb)), some (.int xc), none], [.int (w 75 ((nI jxa).toNatClampNeg))], mz_up w 63 ((jxa * 24) + jxb) xc.toInt8.toInt32)) rfl (show mz_in (nI jxa) 4 = true from sm_inN rfl (show jxa < 4 by omega) (by decide)) ?_
              rw [show (nI jxa : Int32).toNatClampNeg = jxa from sm_clN rfl (show jxa < 2 ^ 31 by omega)]
              rw [show w 75 jxa = w 61 jxa from (hsh jxa (by omega)).2.2.1]
              rw [o3]
              refine mz_goP 6 (c' := (35, [some (.ref 65), some (.int (nI jxa)), some (.int (nI jxb)), some (.int xc), none], [.int (nI jxa), .ref 76, .int 0, .int (nI jxb)], mz_up w 63 ((jxa * 24) + jxb) xc.toInt8.toInt32)) rfl ?_
              refine mz_arrP (c' := (36, [some (.ref 65), some (.int (nI jxa)), some (.int (nI jxb)), some (.int xc), none], [.int (w 76 ((nI jxa).toNatClampNeg)), .int 0, .int (nI jxb)], mz_up w 63 ((jxa * 24) + jxb) xc.toInt8.toInt32)) rfl (show mz_in (nI jxa) 4 = true from sm_inN rfl (show jxa < 4 by omega) (by decide)) ?_
              rw [show (nI jxa : Int32).toNatClampNeg = jxa from sm_clN rfl (show jxa < 2 ^ 31 by omega)]
              rw [show w 76 jxa = w 62 jxa from (hsh jxa (by omega)).2.2.2]
              rw [ezz4]
              refine mz_goP 2 (c' := (38, [some (.ref 65), some (.int (nI jxa)), some (.int (nI jxb)), some (.int xc), none], [.int ((nI zz4) - 1), .int 0, .int (nI jxb)], mz_up w 63 ((jxa * 24) + jxb) xc.toInt8.toInt32)) rfl ?_
              refine mz_doPQ (R := mz_r128) (as := [.int (nI jxb), .int 0, .int ((nI zz4) - 1)]) (rest := []) (r1 := some (.int 1)) (m1 := mz_up w 63 ((jxa * 24) + jxb) xc.toInt8.toInt32) mz_t128 mz_v128 rfl rfl rfl rfl rfl ((ct_in1 (m := mz_up w 63 ((jxa * 24) + jxb) xc.toInt8.toInt32) (v := nI jxb) (a := 0) (b := (nI zz4) - 1) q7 (show ¬ (((nI zz4) - 1) < (nI jxb)) from (sm_nltN (sm_subN (a := zz4) (b := 1) rfl rfl (by omega)) rfl (show jxb ≤ (zz4 - 1) by omega) (show (zz4 - 1) < 2 ^ 31 by omega)))).deep (by decide)) ?_
              refine mz_goP 5 (c' := (57, [some (.ref 65), some (.int (nI jxa)), some (.int (nI jxb)), some (.int xc), none], [.int (nI jxa), .ref 75, .int 32], mz_up w 63 ((jxa * 24) + jxb) xc.toInt8.toInt32)) rfl ?_
              refine mz_arrP (c' := (58, [some (.ref 65), some (.int (nI jxa)), some (.int (nI jxb)), some (.int xc), none], [.int (w 75 ((nI jxa).toNatClampNeg)), .int 32], mz_up w 63 ((jxa * 24) + jxb) xc.toInt8.toInt32)) rfl (show mz_in (nI jxa) 4 = true from sm_inN rfl (show jxa < 4 by omega) (by decide)) ?_
              rw [show (nI jxa : Int32).toNatClampNeg = jxa from sm_clN rfl (show jxa < 2 ^ 31 by omega)]
              rw [show w 75 jxa = w 61 jxa from (hsh jxa (by omega)).2.2.1]
              rw [o3]
              refine mz_goP 14 (c' := (78, [some (.ref 65), some (.int (nI jxa)), some (.int (nI jxb)), some (.int xc), some (.int 24)], [.int ((xc <<< ((24 : Int32) &&& 31)) >>> ((24 : Int32) &&& 31)), .int ((24 * (nI jxa)) + (nI jxb)), .ref 77], mz_up w 63 ((jxa * 24) + jxb) xc.toInt8.toInt32)) rfl ?_
              rw [sm_sh8 xc]
              refine mz_arrP (c' := (79, [some (.ref 65), some (.int (nI jxa)), some (.int (nI jxb)), some (.int xc), some (.int 24)], [], mz_up (mz_up w 63 ((jxa * 24) + jxb) xc.toInt8.toInt32) 77 (((24 * (nI jxa)) + (nI jxb)).toNatClampNeg) xc.toInt8.toInt32)) rfl (show mz_in ((24 * (nI jxa)) + (nI jxb)) 96 = true from sm_inN (sm_addN (sm_mulN rfl rfl) rfl) (show ((24 * jxa) + jxb) < 96 by omega) (by decide)) ?_
              rw [show ((24 * (nI jxa)) + (nI jxb) : Int32).toNatClampNeg = ((24 * jxa) + jxb) from sm_clN (sm_addN (sm_mulN rfl rfl) rfl) (show ((24 * jxa) + jxb) < 2 ^ 31 by omega)]
              refine mz_goP 1 (c' := (80, [some (.ref 65), some (.int (nI jxa)), some (.int (nI jxb)), some (.int xc), some (.int 24)], [.int 1], mz_up (mz_up w 63 ((jxa * 24) + jxb) xc.toInt8.toInt32) 77 ((24 * jxa) + jxb) xc.toInt8.toInt32)) rfl ?_
              refine mz_retP (r := (some (.int (1)), mz_up (mz_up w 63 ((jxa * 24) + jxb) xc.toInt8.toInt32) 77 ((24 * jxa) + jxb) xc.toInt8.toInt32)) rfl ⟨1, rfl, ?_, rfl⟩
              show sm_I (n + 1) (mz_up (mz_up w 63 ((jxa * 24) + jxb) xc.toInt8.toInt32) 77 ((24 * jxa) + jxb) xc.toInt8.toInt32)
              obtain ⟨-, ⟨d1, d2, d3, ⟨d4, d4b, d4c⟩, d5, d6, d7, d8⟩, da, db, dc⟩ := hI2
              exact ⟨hn, ⟨d1, d2, d3, ⟨d4, d4b, d4c⟩, d5, d6, d7, d8⟩, ⟨da.1, sm_putted (show ((jxa * 24) + jxb) = ((24 * jxa) + jxb) by omega) da.2 (fun i => by rw [mz_up_ne (show (63 : Nat) ≠ 77 by decide), mz_up_eq]) (fun i => by rw [mz_up_eq, mz_up_ne (show (77 : Nat) ≠ 63 by decide)])⟩, db, sm_cc_of (fun i h1 h2 => by simp only [mz_up_ne (show i ≠ 63 by omega), mz_up_ne (show i ≠ 77 by omega)]) dc⟩
      · obtain ⟨zz9, hzz9, ezz9⟩ := sm_Nof (by decide) (hsh jxa (by omega)).2.1
        by_cases q10 : zz9 = 0
        · refine mz_goP 3 (c' := (5, [some (.ref 0), some (.int (nI jxa)), some (.int xb), some (.int xc)], [.int (nI jxa), .ref 60], w)) rfl ?_
          refine mz_doPQ (R := mz_r45) (as := [.ref 60, .int (nI jxa)]) (rest := []) (r1 := some (.int 1)) (m1 := w) mz_t45 mz_v45_60 rfl rfl rfl rfl rfl ⟨?_, rfl⟩ ?_
          · refine mz_go 2 (c' := (if (nI jxa) < 0 then 13 else 4, [some (.ref 60), some (.int (nI jxa))], [], w)) rfl ?_
            refine mz_ifF q1 ?_
            refine mz_go 3 (c' := (if 4 ≤ (nI jxa) then 13 else 9, [some (.ref 60), some (.int (nI jxa))], [], w)) rfl ?_
            refine mz_ifF q2 ?_
            refine mz_go 2 (c' := (14, [some (.ref 60), some (.int (nI jxa))], [.int 1], w)) rfl ?_
            exact mz_ret rfl
          refine mz_goP 4 (c' := (22, [some (.ref 0), some (.int (nI jxa)), some (.int xb), some (.int xc)], [.int (nI jxa), .ref 60], w)) rfl ?_
          refine mz_doPQ (R := mz_r46) (as := [.ref 60, .int (nI jxa)]) (rest := []) (r1 := some (.int 0)) (m1 := w) mz_t46 mz_v46_60 rfl rfl rfl rfl rfl ⟨?_, rfl⟩ ?_
          · refine mz_go 2 (c' := (2, [some (.ref 60), some (.int (nI jxa))], [.int (nI jxa), .ref 60], w)) rfl ?_
            refine mz_doQ (R := mz_r45) (as := [.ref 60, .int (nI jxa)]) (rest := []) (r1 := some (.int 1)) (m1 := w) mz_t45 mz_v45_60 rfl rfl rfl rfl rfl ⟨?_, rfl⟩ ?_
            · refine mz_go 2 (c' := (if (nI jxa) < 0 then 13 else 4, [some (.ref 60), some (.int (nI jxa))], [], w)) rfl ?_
              refine mz_ifF q1 ?_
              refine mz_go 3 (c' := (if 4 ≤ (nI jxa) then 13 else 9, [some (.ref 60), some (.int (nI jxa))], [], w)) rfl ?_
              refine mz_ifF q2 ?_
              refine mz_go 2 (c' := (14, [some (.ref 60), some (.int (nI jxa))], [.int 1], w)) rfl ?_
              exact mz_ret rfl
            refine mz_go 4 (c' := (13, [some (.ref 60), some (.int (nI jxa))], [.int (nI jxa), .ref 61], w)) rfl ?_
            refine mz_arr (c' := (14, [some (.ref 60), some (.int (nI jxa))], [.int (w 61 ((nI jxa).toNatClampNeg))], w)) rfl (show mz_in (nI jxa) 4 = true from sm_inN rfl (show jxa < 4 by omega) (by decide)) ?_
            rw [show (nI jxa : Int32).toNatClampNeg = jxa from sm_clN rfl (show jxa < 2 ^ 31 by omega)]
            rw [o3]
            refine mz_go 2 (c' := (22, [some (.ref 60), some (.int (nI jxa))], [.int 0], w)) rfl ?_
            exact mz_ret rfl
          refine mz_goP 7 (c' := (44, [some (.ref 0), some (.int (nI jxa)), some (.int xb), some (.int xc)], [.int (nI jxa), .ref 62, .int 0, .int xb], w)) rfl ?_
          refine mz_arrP (c' := (45, [some (.ref 0), some (.int (nI jxa)), some (.int xb), some (.int xc)], [.int (w 62 ((nI jxa).toNatClampNeg)), .int 0, .int xb], w)) rfl (show mz_in (nI jxa) 4 = true from sm_inN rfl (show jxa < 4 by omega) (by decide)) ?_
          rw [show (nI jxa : Int32).toNatClampNeg = jxa from sm_clN rfl (show jxa < 2 ^ 31 by omega)]
          rw [ezz9]
          refine mz_goP 2 (c' := (47, [some (.ref 0), some (.int (nI jxa)), some (.int xb), some (.int xc)], [.int ((nI zz9) - 1), .int 0, .int xb], w)) rfl ?_
          rw [show nI zz9 - 1 = -1 from by rw [show zz9 = 0 by omega]; decide]
          by_cases q11 : xb < 0
          · refine mz_doPQ (R := mz_r121) (as := [.int xb, .int 0, .int (-1)]) (rest := []) (r1 := some (.int 0)) (m1 := w) mz_t121 mz_v121 rfl rfl rfl rfl rfl ((cs_inL (m := w) (v := xb) (a := 0) (b := (-1)) q11).deep (by decide)) ?_
            refine mz_goP 3 (c' := (55, [some (.ref 0), some (.int (nI jxa)), some (.int xb), some (.int xc)], [.int 1, .ref 0], w)) rfl ?_
            refine mz_doPQ (R := mz_r109) (as := [.ref 0, .int 1]) (rest := []) (r1 := some (.int (-1000001))) (m1 := mz_up w 64 1 ((w 64 1) + 1)) mz_t109 mz_v109_0 rfl rfl rfl rfl rfl ((cs_err1 (m := w)).deep (by decide)) ?_
            refine mz_retP (r := (some (.int ((-1000001))), mz_up w 64 1 ((w 64 1) + 1))) rfl ⟨(-1000001), rfl, ?_⟩
            refine mz_goP 1 (c' := (1, [some (.ref 65), some (.int (nI jxa)), some (.int xb), some (.int xc), none], [.int (nI jxa)], mz_up w 64 1 ((w 64 1) + 1))) rfl ?_
            refine mz_doPQ (R := mz_r219) (as := [.int (nI jxa)]) (rest := []) (r1 := some (.int 1)) (m1 := mz_up w 64 1 ((w 64 1) + 1)) mz_t219 mz_v219 rfl rfl rfl rfl rfl ⟨?_, rfl⟩ ?_
            · refine mz_go 3 (c' := (3, [some (.int (nI jxa))], [.int 3, .int 0, .int (nI jxa)], mz_up w 64 1 ((w 64 1) + 1))) rfl ?_
              refine mz_doQ (R := mz_r128) (as := [.int (nI jxa), .int 0, .int 3]) (rest := []) (r1 := some (.int 1)) (m1 := mz_up w 64 1 ((w 64 1) + 1)) mz_t128 mz_v128 rfl rfl rfl rfl rfl ((ct_in1 (m := mz_up w 64 1 ((w 64 1) + 1)) (v := nI jxa) (a := 0) (b := 3) q1 (show ¬ (3 < (nI jxa)) from (sm_nltN rfl rfl (show jxa ≤ 3 by omega) (show 3 < 2 ^ 31 by omega)))).deep (by decide)) ?_
              exact mz_ret rfl
            refine mz_goP 4 (c' := (18, [some (.ref 65), some (.int (nI jxa)), some (.int xb), some (.int xc), none], [.int (nI jxa), .ref 75], mz_up w 64 1 ((w 64 1) + 1))) rfl ?_
            refine mz_arrP (c' := (19, [some (.ref 65), some (.int (nI jxa)), some (.int xb), some (.int xc), none], [.int (w 75 ((nI jxa).toNatClampNeg))], mz_up w 64 1 ((w 64 1) + 1))) rfl (show mz_in (nI jxa) 4 = true from sm_inN rfl (show jxa < 4 by omega) (by decide)) ?_
            rw [show (nI jxa : Int32).toNatClampNeg = jxa from sm_clN rfl (show jxa < 2 ^ 31 by omega)]
            rw [show w 75 jxa = w 61 jxa from (hsh jxa (by omega)).2.2.1]
            rw [o3]
            refine mz_goP 6 (c' := (35, [some (.ref 65), some (.int (nI jxa)), some (.int xb), some (.int xc), none], [.int (nI jxa), .ref 76, .int 0, .int xb], mz_up w 64 1 ((w 64 1) + 1))) rfl ?_
            refine mz_arrP (c' := (36, [some (.ref 65), some (.int (nI jxa)), some (.int xb), some (.int xc), none], [.int (w 76 ((nI jxa).toNatClampNeg)), .int 0, .int xb], mz_up w 64 1 ((w 64 1) + 1))) rfl (show mz_in (nI jxa) 4 = true from sm_inN rfl (show jxa < 4 by omega) (by decide)) ?_
            rw [show (nI jxa : Int32).toNatClampNeg = jxa from sm_clN rfl (show jxa < 2 ^ 31 by omega)]
            rw [show w 76 jxa = w 62 jxa from (hsh jxa (by omega)).2.2.2]
            rw [ezz9]
            refine mz_goP 2 (c' := (38, [some (.ref 65), some (.int (nI jxa)), some (.int xb), some (.int xc), none], [.int ((nI zz9) - 1), .int 0, .int xb], mz_up w 64 1 ((w 64 1) + 1))) rfl ?_
            rw [show nI zz9 - 1 = -1 from by rw [show zz9 = 0 by omega]; decide]
            refine mz_doPQ (R := mz_r128) (as := [.int xb, .int 0, .int (-1)]) (rest := []) (r1 := some (.int 0)) (m1 := mz_up w 64 1 ((w 64 1) + 1)) mz_t128 mz_v128 rfl rfl rfl rfl rfl ((ct_inL (m := mz_up w 64 1 ((w 64 1) + 1)) (v := xb) (a := 0) (b := (-1)) q11).deep (by decide)) ?_
            refine mz_goP 3 (c' := (46, [some (.ref 65), some (.int (nI jxa)), some (.int xb), some (.int xc), none], [.int 1, .ref 65], mz_up w 64 1 ((w 64 1) + 1))) rfl ?_
            refine mz_doPQ (R := mz_r127) (as := [.ref 65, .int 1]) (rest := []) (r1 := some (.int (-1000001))) (m1 := mz_up (mz_up w 64 1 ((w 64 1) + 1)) 68 1 ((w 68 1) + 1)) mz_t127 mz_v127_65 rfl rfl rfl rfl rfl ((ct_err1 (m := mz_up w 64 1 ((w 64 1) + 1))).deep (by decide)) ?_
            refine mz_retP (r := (some (.int ((-1000001))), mz_up (mz_up w 64 1 ((w 64 1) + 1)) 68 1 ((w 68 1) + 1))) rfl ⟨(-1000001), rfl, ?_, rfl⟩
            show sm_I (n + 1) (mz_up (mz_up w 64 1 ((w 64 1) + 1)) 68 1 ((w 68 1) + 1))
            exact sm_I_scr hn hI2 (fun i hi => by
              have hne : ∀ r, sm_scr r = true → i ≠ r := fun r hr e => by
                rw [e, hr] at hi
                cases hi
              simp only [mz_up_ne (hne 64 rfl), mz_up_ne (hne 68 rfl)]) rfl rfl
          · refine mz_doPQ (R := mz_r121) (as := [.int xb, .int 0, .int (-1)]) (rest := []) (r1 := some (.int 0)) (m1 := w) mz_t121 mz_v121 rfl rfl rfl rfl rfl ((cs_inG (m := w) (v := xb) (a := 0) (b := (-1)) q11 (by have hl : (0 : Int) ≤ (xb).toInt := Int32.le_iff_toInt_le.mp (Int32.not_lt.mp q11); exact Int32.lt_iff_toInt_lt.mpr (show (-1 : Int) < (xb).toInt by omega))).deep (by decide)) ?_
            refine mz_goP 3 (c' := (55, [some (.ref 0), some (.int (nI jxa)), some (.int xb), some (.int xc)], [.int 1, .ref 0], w)) rfl ?_
            refine mz_doPQ (R := mz_r109) (as := [.ref 0, .int 1]) (rest := []) (r1 := some (.int (-1000001))) (m1 := mz_up w 64 1 ((w 64 1) + 1)) mz_t109 mz_v109_0 rfl rfl rfl rfl rfl ((cs_err1 (m := w)).deep (by decide)) ?_
            refine mz_retP (r := (some (.int ((-1000001))), mz_up w 64 1 ((w 64 1) + 1))) rfl ⟨(-1000001), rfl, ?_⟩
            refine mz_goP 1 (c' := (1, [some (.ref 65), some (.int (nI jxa)), some (.int xb), some (.int xc), none], [.int (nI jxa)], mz_up w 64 1 ((w 64 1) + 1))) rfl ?_
            refine mz_doPQ (R := mz_r219) (as := [.int (nI jxa)]) (rest := []) (r1 := some (.int 1)) (m1 := mz_up w 64 1 ((w 64 1) + 1)) mz_t219 mz_v219 rfl rfl rfl rfl rfl ⟨?_, rfl⟩ ?_
            · refine mz_go 3 (c' := (3, [some (.int (nI jxa))], [.int 3, .int 0, .int (nI jxa)], mz_up w 64 1 ((w 64 1) + 1))) rfl ?_
              refine mz_doQ (R := mz_r128) (as := [.int (nI jxa), .int 0, .int 3]) (rest := []) (r1 := some (.int 1)) (m1 := mz_up w 64 1 ((w 64 1) + 1)) mz_t128 mz_v128 rfl rfl rfl rfl rfl ((ct_in1 (m := mz_up w 64 1 ((w 64 1) + 1)) (v := nI jxa) (a := 0) (b := 3) q1 (show ¬ (3 < (nI jxa)) from (sm_nltN rfl rfl (show jxa ≤ 3 by omega) (show 3 < 2 ^ 31 by omega)))).deep (by decide)) ?_
              exact mz_ret rfl
            refine mz_goP 4 (c' := (18, [some (.ref 65), some (.int (nI jxa)), some (.int xb), some (.int xc), none], [.int (nI jxa), .ref 75], mz_up w 64 1 ((w 64 1) + 1))) rfl ?_
            refine mz_arrP (c' := (19, [some (.ref 65), some (.int (nI jxa)), some (.int xb), some (.int xc), none], [.int (w 75 ((nI jxa).toNatClampNeg))], mz_up w 64 1 ((w 64 1) + 1))) rfl (show mz_in (nI jxa) 4 = true from sm_inN rfl (show jxa < 4 by omega) (by decide)) ?_
            rw [show (nI jxa : Int32).toNatClampNeg = jxa from sm_clN rfl (show jxa < 2 ^ 31 by omega)]
            rw [show w 75 jxa = w 61 jxa from (hsh jxa (by omega)).2.2.1]
            rw [o3]
            refine mz_goP 6 (c' := (35, [some (.ref 65), some (.int (nI jxa)), some (.int xb), some (.int xc), none], [.int (nI jxa), .ref 76, .int 0, .int xb], mz_up w 64 1 ((w 64 1) + 1))) rfl ?_
            refine mz_arrP (c' := (36, [some (.ref 65), some (.int (nI jxa)), some (.int xb), some (.int xc), none], [.int (w 76 ((nI jxa).toNatClampNeg)), .int 0, .int xb], mz_up w 64 1 ((w 64 1) + 1))) rfl (show mz_in (nI jxa) 4 = true from sm_inN rfl (show jxa < 4 by omega) (by decide)) ?_
            rw [show (nI jxa : Int32).toNatClampNeg = jxa from sm_clN rfl (show jxa < 2 ^ 31 by omega)]
            rw [show w 76 jxa = w 62 jxa from (hsh jxa (by omega)).2.2.2]
            rw [ezz9]
            refine mz_goP 2 (c' := (38, [some (.ref 65), some (.int (nI jxa)), some (.int xb), some (.int xc), none], [.int ((nI zz9) - 1), .int 0, .int xb], mz_up w 64 1 ((w 64 1) + 1))) rfl ?_
            rw [show nI zz9 - 1 = -1 from by rw [show zz9 = 0 by omega]; decide]
            refine mz_doPQ (R := mz_r128) (as := [.int xb, .int 0, .int (-1)]) (rest := []) (r1 := some (.int 0)) (m1 := mz_up w 64 1 ((w 64 1) + 1)) mz_t128 mz_v128 rfl rfl rfl rfl rfl ((ct_inG (m := mz_up w 64 1 ((w 64 1) + 1)) (v := xb) (a := 0) (b := (-1)) q11 (by have hl : (0 : Int) ≤ (xb).toInt := Int32.le_iff_toInt_le.mp (Int32.not_lt.mp q11); exact Int32.lt_iff_toInt_lt.mpr (show (-1 : Int) < (xb).toInt by omega))).deep (by decide)) ?_
            refine mz_goP 3 (c' := (46, [some (.ref 65), some (.int (nI jxa)), some (.int xb), some (.int xc), none], [.int 1, .ref 65], mz_up w 64 1 ((w 64 1) + 1))) rfl ?_
            refine mz_doPQ (R := mz_r127) (as := [.ref 65, .int 1]) (rest := []) (r1 := some (.int (-1000001))) (m1 := mz_up (mz_up w 64 1 ((w 64 1) + 1)) 68 1 ((w 68 1) + 1)) mz_t127 mz_v127_65 rfl rfl rfl rfl rfl ((ct_err1 (m := mz_up w 64 1 ((w 64 1) + 1))).deep (by decide)) ?_
            refine mz_retP (r := (some (.int ((-1000001))), mz_up (mz_up w 64 1 ((w 64 1) + 1)) 68 1 ((w 68 1) + 1))) rfl ⟨(-1000001), rfl, ?_, rfl⟩
            show sm_I (n + 1) (mz_up (mz_up w 64 1 ((w 64 1) + 1)) 68 1 ((w 68 1) + 1))
            exact sm_I_scr hn hI2 (fun i hi => by
              have hne : ∀ r, sm_scr r = true → i ≠ r := fun r hr e => by
                rw [e, hr] at hi
                cases hi
              simp only [mz_up_ne (hne 64 rfl), mz_up_ne (hne 68 rfl)]) rfl rfl
        · by_cases q12 : xb < 0
          · refine mz_goP 3 (c' := (5, [some (.ref 0), some (.int (nI jxa)), some (.int xb), some (.int xc)], [.int (nI jxa), .ref 60], w)) rfl ?_
            refine mz_doPQ (R := mz_r45) (as := [.ref 60, .int (nI jxa)]) (rest := []) (r1 := some (.int 1)) (m1 := w) mz_t45 mz_v45_60 rfl rfl rfl rfl rfl ⟨?_, rfl⟩ ?_
            · refine mz_go 2 (c' := (if (nI jxa) < 0 then 13 else 4, [some (.ref 60), some (.int (nI jxa))], [], w)) rfl ?_
              refine mz_ifF q1 ?_
              refine mz_go 3 (c' := (if 4 ≤ (nI jxa) then 13 else 9, [some (.ref 60), some (.int (nI jxa))], [], w)) rfl ?_
              refine mz_ifF q2 ?_
              refine mz_go 2 (c' := (14, [some (.ref 60), some (.int (nI jxa))], [.int 1], w)) rfl ?_
              exact mz_ret rfl
            refine mz_goP 4 (c' := (22, [some (.ref 0), some (.int (nI jxa)), some (.int xb), some (.int xc)], [.int (nI jxa), .ref 60], w)) rfl ?_
            refine mz_doPQ (R := mz_r46) (as := [.ref 60, .int (nI jxa)]) (rest := []) (r1 := some (.int 0)) (m1 := w) mz_t46 mz_v46_60 rfl rfl rfl rfl rfl ⟨?_, rfl⟩ ?_
            · refine mz_go 2 (c' := (2, [some (.ref 60), some (.int (nI jxa))], [.int (nI jxa), .ref 60], w)) rfl ?_
              refine mz_doQ (R := mz_r45) (as := [.ref 60, .int (nI jxa)]) (rest := []) (r1 := some (.int 1)) (m1 := w) mz_t45 mz_v45_60 rfl rfl rfl rfl rfl ⟨?_, rfl⟩ ?_
              · refine mz_go 2 (c' := (if (nI jxa) < 0 then 13 else 4, [some (.ref 60), some (.int (nI jxa))], [], w)) rfl ?_
                refine mz_ifF q1 ?_
                refine mz_go 3 (c' := (if 4 ≤ (nI jxa) then 13 else 9, [some (.ref 60), some (.int (nI jxa))], [], w)) rfl ?_
                refine mz_ifF q2 ?_
                refine mz_go 2 (c' := (14, [some (.ref 60), some (.int (nI jxa))], [.int 1], w)) rfl ?_
                exact mz_ret rfl
              refine mz_go 4 (c' := (13, [some (.ref 60), some (.int (nI jxa))], [.int (nI jxa), .ref 61], w)) rfl ?_
              refine mz_arr (c' := (14, [some (.ref 60), some (.int (nI jxa))], [.int (w 61 ((nI jxa).toNatClampNeg))], w)) rfl (show mz_in (nI jxa) 4 = true from sm_inN rfl (show jxa < 4 by omega) (by decide)) ?_
              rw [show (nI jxa : Int32).toNatClampNeg = jxa from sm_clN rfl (show jxa < 2 ^ 31 by omega)]
              rw [o3]
              refine mz_go 2 (c' := (22, [some (.ref 60), some (.int (nI jxa))], [.int 0], w)) rfl ?_
              exact mz_ret rfl
            refine mz_goP 7 (c' := (44, [some (.ref 0), some (.int (nI jxa)), some (.int xb), some (.int xc)], [.int (nI jxa), .ref 62, .int 0, .int xb], w)) rfl ?_
            refine mz_arrP (c' := (45, [some (.ref 0), some (.int (nI jxa)), some (.int xb), some (.int xc)], [.int (w 62 ((nI jxa).toNatClampNeg)), .int 0, .int xb], w)) rfl (show mz_in (nI jxa) 4 = true from sm_inN rfl (show jxa < 4 by omega) (by decide)) ?_
            rw [show (nI jxa : Int32).toNatClampNeg = jxa from sm_clN rfl (show jxa < 2 ^ 31 by omega)]
            rw [ezz9]
            refine mz_goP 2 (c' := (47, [some (.ref 0), some (.int (nI jxa)), some (.int xb), some (.int xc)], [.int ((nI zz9) - 1), .int 0, .int xb], w)) rfl ?_
            refine mz_doPQ (R := mz_r121) (as := [.int xb, .int 0, .int ((nI zz9) - 1)]) (rest := []) (r1 := some (.int 0)) (m1 := w) mz_t121 mz_v121 rfl rfl rfl rfl rfl ((cs_inL (m := w) (v := xb) (a := 0) (b := (nI zz9) - 1) q12).deep (by decide)) ?_
            refine mz_goP 3 (c' := (55, [some (.ref 0), some (.int (nI jxa)), some (.int xb), some (.int xc)], [.int 1, .ref 0], w)) rfl ?_
            refine mz_doPQ (R := mz_r109) (as := [.ref 0, .int 1]) (rest := []) (r1 := some (.int (-1000001))) (m1 := mz_up w 64 1 ((w 64 1) + 1)) mz_t109 mz_v109_0 rfl rfl rfl rfl rfl ((cs_err1 (m := w)).deep (by decide)) ?_
            refine mz_retP (r := (some (.int ((-1000001))), mz_up w 64 1 ((w 64 1) + 1))) rfl ⟨(-1000001), rfl, ?_⟩
            refine mz_goP 1 (c' := (1, [some (.ref 65), some (.int (nI jxa)), some (.int xb), some (.int xc), none], [.int (nI jxa)], mz_up w 64 1 ((w 64 1) + 1))) rfl ?_
            refine mz_doPQ (R := mz_r219) (as := [.int (nI jxa)]) (rest := []) (r1 := some (.int 1)) (m1 := mz_up w 64 1 ((w 64 1) + 1)) mz_t219 mz_v219 rfl rfl rfl rfl rfl ⟨?_, rfl⟩ ?_
            · refine mz_go 3 (c' := (3, [some (.int (nI jxa))], [.int 3, .int 0, .int (nI jxa)], mz_up w 64 1 ((w 64 1) + 1))) rfl ?_
              refine mz_doQ (R := mz_r128) (as := [.int (nI jxa), .int 0, .int 3]) (rest := []) (r1 := some (.int 1)) (m1 := mz_up w 64 1 ((w 64 1) + 1)) mz_t128 mz_v128 rfl rfl rfl rfl rfl ((ct_in1 (m := mz_up w 64 1 ((w 64 1) + 1)) (v := nI jxa) (a := 0) (b := 3) q1 (show ¬ (3 < (nI jxa)) from (sm_nltN rfl rfl (show jxa ≤ 3 by omega) (show 3 < 2 ^ 31 by omega)))).deep (by decide)) ?_
              exact mz_ret rfl
            refine mz_goP 4 (c' := (18, [some (.ref 65), some (.int (nI jxa)), some (.int xb), some (.int xc), none], [.int (nI jxa), .ref 75], mz_up w 64 1 ((w 64 1) + 1))) rfl ?_
            refine mz_arrP (c' := (19, [some (.ref 65), some (.int (nI jxa)), some (.int xb), some (.int xc), none], [.int (w 75 ((nI jxa).toNatClampNeg))], mz_up w 64 1 ((w 64 1) + 1))) rfl (show mz_in (nI jxa) 4 = true from sm_inN rfl (show jxa < 4 by omega) (by decide)) ?_
            rw [show (nI jxa : Int32).toNatClampNeg = jxa from sm_clN rfl (show jxa < 2 ^ 31 by omega)]
            rw [show w 75 jxa = w 61 jxa from (hsh jxa (by omega)).2.2.1]
            rw [o3]
            refine mz_goP 6 (c' := (35, [some (.ref 65), some (.int (nI jxa)), some (.int xb), some (.int xc), none], [.int (nI jxa), .ref 76, .int 0, .int xb], mz_up w 64 1 ((w 64 1) + 1))) rfl ?_
            refine mz_arrP (c' := (36, [some (.ref 65), some (.int (nI jxa)), some (.int xb), some (.int xc), none], [.int (w 76 ((nI jxa).toNatClampNeg)), .int 0, .int xb], mz_up w 64 1 ((w 64 1) + 1))) rfl (show mz_in (nI jxa) 4 = true from sm_inN rfl (show jxa < 4 by omega) (by decide)) ?_
            rw [show (nI jxa : Int32).toNatClampNeg = jxa from sm_clN rfl (show jxa < 2 ^ 31 by omega)]
            rw [show w 76 jxa = w 62 jxa from (hsh jxa (by omega)).2.2.2]
            rw [ezz9]
            refine mz_goP 2 (c' := (38, [some (.ref 65), some (.int (nI jxa)), some (.int xb), some (.int xc), none], [.int ((nI zz9) - 1), .int 0, .int xb], mz_up w 64 1 ((w 64 1) + 1))) rfl ?_
            refine mz_doPQ (R := mz_r128) (as := [.int xb, .int 0, .int ((nI zz9) - 1)]) (rest := []) (r1 := some (.int 0)) (m1 := mz_up w 64 1 ((w 64 1) + 1)) mz_t128 mz_v128 rfl rfl rfl rfl rfl ((ct_inL (m := mz_up w 64 1 ((w 64 1) + 1)) (v := xb) (a := 0) (b := (nI zz9) - 1) q12).deep (by decide)) ?_
            refine mz_goP 3 (c' := (46, [some (.ref 65), some (.int (nI jxa)), some (.int xb), some (.int xc), none], [.int 1, .ref 65], mz_up w 64 1 ((w 64 1) + 1))) rfl ?_
            refine mz_doPQ (R := mz_r127) (as := [.ref 65, .int 1]) (rest := []) (r1 := some (.int (-1000001))) (m1 := mz_up (mz_up w 64 1 ((w 64 1) + 1)) 68 1 ((w 68 1) + 1)) mz_t127 mz_v127_65 rfl rfl rfl rfl rfl ((ct_err1 (m := mz_up w 64 1 ((w 64 1) + 1))).deep (by decide)) ?_
            refine mz_retP (r := (some (.int ((-1000001))), mz_up (mz_up w 64 1 ((w 64 1) + 1)) 68 1 ((w 68 1) + 1))) rfl ⟨(-1000001), rfl, ?_, rfl⟩
            show sm_I (n + 1) (mz_up (mz_up w 64 1 ((w 64 1) + 1)) 68 1 ((w 68 1) + 1))
            exact sm_I_scr hn hI2 (fun i hi => by
              have hne : ∀ r, sm_scr r = true → i ≠ r := fun r hr e => by
                rw [e, hr] at hi
                cases hi
              simp only [mz_up_ne (hne 64 rfl), mz_up_ne (hne 68 rfl)]) rfl rfl
          · obtain ⟨jxb, hjxb, rfl⟩ := nI_of q12
            refine mz_goP 3 (c' := (5, [some (.ref 0), some (.int (nI jxa)), some (.int (nI jxb)), some (.int xc)], [.int (nI jxa), .ref 60], w)) rfl ?_
            refine mz_doPQ (R := mz_r45) (as := [.ref 60, .int (nI jxa)]) (rest := []) (r1 := some (.int 1)) (m1 := w) mz_t45 mz_v45_60 rfl rfl rfl rfl rfl ⟨?_, rfl⟩ ?_
            · refine mz_go 2 (c' := (if (nI jxa) < 0 then 13 else 4, [some (.ref 60), some (.int (nI jxa))], [], w)) rfl ?_
              refine mz_ifF q1 ?_
              refine mz_go 3 (c' := (if 4 ≤ (nI jxa) then 13 else 9, [some (.ref 60), some (.int (nI jxa))], [], w)) rfl ?_
              refine mz_ifF q2 ?_
              refine mz_go 2 (c' := (14, [some (.ref 60), some (.int (nI jxa))], [.int 1], w)) rfl ?_
              exact mz_ret rfl
            refine mz_goP 4 (c' := (22, [some (.ref 0), some (.int (nI jxa)), some (.int (nI jxb)), some (.int xc)], [.int (nI jxa), .ref 60], w)) rfl ?_
            refine mz_doPQ (R := mz_r46) (as := [.ref 60, .int (nI jxa)]) (rest := []) (r1 := some (.int 0)) (m1 := w) mz_t46 mz_v46_60 rfl rfl rfl rfl rfl ⟨?_, rfl⟩ ?_
            · refine mz_go 2 (c' := (2, [some (.ref 60), some (.int (nI jxa))], [.int (nI jxa), .ref 60], w)) rfl ?_
              refine mz_doQ (R := mz_r45) (as := [.ref 60, .int (nI jxa)]) (rest := []) (r1 := some (.int 1)) (m1 := w) mz_t45 mz_v45_60 rfl rfl rfl rfl rfl ⟨?_, rfl⟩ ?_
              · refine mz_go 2 (c' := (if (nI jxa) < 0 then 13 else 4, [some (.ref 60), some (.int (nI jxa))], [], w)) rfl ?_
                refine mz_ifF q1 ?_
                refine mz_go 3 (c' := (if 4 ≤ (nI jxa) then 13 else 9, [some (.ref 60), some (.int (nI jxa))], [], w)) rfl ?_
                refine mz_ifF q2 ?_
                refine mz_go 2 (c' := (14, [some (.ref 60), some (.int (nI jxa))], [.int 1], w)) rfl ?_
                exact mz_ret rfl
              refine mz_go 4 (c' := (13, [some (.ref 60), some (.int (nI jxa))], [.int (nI jxa), .ref 61], w)) rfl ?_
              refine mz_arr (c' := (14, [some (.ref 60), some (.int (nI jxa))], [.int (w 61 ((nI jxa).toNatClampNeg))], w)) rfl (show mz_in (nI jxa) 4 = true from sm_inN rfl (show jxa < 4 by omega) (by decide)) ?_
              rw [show (nI jxa : Int32).toNatClampNeg = jxa from sm_clN rfl (show jxa < 2 ^ 31 by omega)]
              rw [o3]
              refine mz_go 2 (c' := (22, [some (.ref 60), some (.int (nI jxa))], [.int 0], w)) rfl ?_
              exact mz_ret rfl
            refine mz_goP 7 (c' := (44, [some (.ref 0), some (.int (nI jxa)), some (.int (nI jxb)), some (.int xc)], [.int (nI jxa), .ref 62, .int 0, .int (nI jxb)], w)) rfl ?_
            refine mz_arrP (c' := (45, [some (.ref 0), some (.int (nI jxa)), some (.int (nI jxb)), some (.int xc)], [.int (w 62 ((nI jxa).toNatClampNeg)), .int 0, .int (nI jxb)], w)) rfl (show mz_in (nI jxa) 4 = true from sm_inN rfl (show jxa < 4 by omega) (by decide)) ?_
            rw [show (nI jxa : Int32).toNatClampNeg = jxa from sm_clN rfl (show jxa < 2 ^ 31 by omega)]
            rw [ezz9]
            refine mz_goP 2 (c' := (47, [some (.ref 0), some (.int (nI jxa)), some (.int (nI jxb)), some (.int xc)], [.int ((nI zz9) - 1), .int 0, .int (nI jxb)], w)) rfl ?_
            by_cases q13 : (zz9 - 1) < jxb
            · refine mz_doPQ (R := mz_r121) (as := [.int (nI jxb), .int 0, .int ((nI zz9) - 1)]) (rest := []) (r1 := some (.int 0)) (m1 := w) mz_t121 mz_v121 rfl rfl rfl rfl rfl ((cs_inG (m := w) (v := nI jxb) (a := 0) (b := (nI zz9) - 1) q12 (show (((nI zz9) - 1) < (nI jxb)) from (sm_ltN (sm_subN (a := zz9) (b := 1) rfl rfl (by omega)) rfl (show (zz9 - 1) < jxb by omega) (show jxb < 2 ^ 31 by omega)))).deep (by decide)) ?_
              refine mz_goP 3 (c' := (55, [some (.ref 0), some (.int (nI jxa)), some (.int (nI jxb)), some (.int xc)], [.int 1, .ref 0], w)) rfl ?_
              refine mz_doPQ (R := mz_r109) (as := [.ref 0, .int 1]) (rest := []) (r1 := some (.int (-1000001))) (m1 := mz_up w 64 1 ((w 64 1) + 1)) mz_t109 mz_v109_0 rfl rfl rfl rfl rfl ((cs_err1 (m := w)).deep (by decide)) ?_
              refine mz_retP (r := (some (.int ((-1000001))), mz_up w 64 1 ((w 64 1) + 1))) rfl ⟨(-1000001), rfl, ?_⟩
              refine mz_goP 1 (c' := (1, [some (.ref 65), some (.int (nI jxa)), some (.int (nI jxb)), some (.int xc), none], [.int (nI jxa)], mz_up w 64 1 ((w 64 1) + 1))) rfl ?_
              refine mz_doPQ (R := mz_r219) (as := [.int (nI jxa)]) (rest := []) (r1 := some (.int 1)) (m1 := mz_up w 64 1 ((w 64 1) + 1)) mz_t219 mz_v219 rfl rfl rfl rfl rfl ⟨?_, rfl⟩ ?_
              · refine mz_go 3 (c' := (3, [some (.int (nI jxa))], [.int 3, .int 0, .int (nI jxa)], mz_up w 64 1 ((w 64 1) + 1))) rfl ?_
                refine mz_doQ (R := mz_r128) (as := [.int (nI jxa), .int 0, .int 3]) (rest := []) (r1 := some (.int 1)) (m1 := mz_up w 64 1 ((w 64 1) + 1)) mz_t128 mz_v128 rfl rfl rfl rfl rfl ((ct_in1 (m := mz_up w 64 1 ((w 64 1) + 1)) (v := nI jxa) (a := 0) (b := 3) q1 (show ¬ (3 < (nI jxa)) from (sm_nltN rfl rfl (show jxa ≤ 3 by omega) (show 3 < 2 ^ 31 by omega)))).deep (by decide)) ?_
                exact mz_ret rfl
              refine mz_goP 4 (c' := (18, [some (.ref 65), some (.int (nI jxa)), some (.int (nI jxb)), some (.int xc), none], [.int (nI jxa), .ref 75], mz_up w 64 1 ((w 64 1) + 1))) rfl ?_
              refine mz_arrP (c' := (19, [some (.ref 65), some (.int (nI jxa)), some (.int (nI jxb)), some (.int xc), none], [.int (w 75 ((nI jxa).toNatClampNeg))], mz_up w 64 1 ((w 64 1) + 1))) rfl (show mz_in (nI jxa) 4 = true from sm_inN rfl (show jxa < 4 by omega) (by decide)) ?_
              rw [show (nI jxa : Int32).toNatClampNeg = jxa from sm_clN rfl (show jxa < 2 ^ 31 by omega)]
              rw [show w 75 jxa = w 61 jxa from (hsh jxa (by omega)).2.2.1]
              rw [o3]
              refine mz_goP 6 (c' := (35, [some (.ref 65), some (.int (nI jxa)), some (.int (nI jxb)), some (.int xc), none], [.int (nI jxa), .ref 76, .int 0, .int (nI jxb)], mz_up w 64 1 ((w 64 1) + 1))) rfl ?_
              refine mz_arrP (c' := (36, [some (.ref 65), some (.int (nI jxa)), some (.int (nI jxb)), some (.int xc), none], [.int (w 76 ((nI jxa).toNatClampNeg)), .int 0, .int (nI jxb)], mz_up w 64 1 ((w 64 1) + 1))) rfl (show mz_in (nI jxa) 4 = true from sm_inN rfl (show jxa < 4 by omega) (by decide)) ?_
              rw [show (nI jxa : Int32).toNatClampNeg = jxa from sm_clN rfl (show jxa < 2 ^ 31 by omega)]
              rw [show w 76 jxa = w 62 jxa from (hsh jxa (by omega)).2.2.2]
              rw [ezz9]
              refine mz_goP 2 (c' := (38, [some (.ref 65), some (.int (nI jxa)), some (.int (nI jxb)), some (.int xc), none], [.int ((nI zz9) - 1), .int 0, .int (nI jxb)], mz_up w 64 1 ((w 64 1) + 1))) rfl ?_
              refine mz_doPQ (R := mz_r128) (as := [.int (nI jxb), .int 0, .int ((nI zz9) - 1)]) (rest := []) (r1 := some (.int 0)) (m1 := mz_up w 64 1 ((w 64 1) + 1)) mz_t128 mz_v128 rfl rfl rfl rfl rfl ((ct_inG (m := mz_up w 64 1 ((w 64 1) + 1)) (v := nI jxb) (a := 0) (b := (nI zz9) - 1) q12 (show (((nI zz9) - 1) < (nI jxb)) from (sm_ltN (sm_subN (a := zz9) (b := 1) rfl rfl (by omega)) rfl (show (zz9 - 1) < jxb by omega) (show jxb < 2 ^ 31 by omega)))).deep (by decide)) ?_
              refine mz_goP 3 (c' := (46, [some (.ref 65), some (.int (nI jxa)), some (.int (nI jxb)), some (.int xc), none], [.int 1, .ref 65], mz_up w 64 1 ((w 64 1) + 1))) rfl ?_
              refine mz_doPQ (R := mz_r127) (as := [.ref 65, .int 1]) (rest := []) (r1 := some (.int (-1000001))) (m1 := mz_up (mz_up w 64 1 ((w 64 1) + 1)) 68 1 ((w 68 1) + 1)) mz_t127 mz_v127_65 rfl rfl rfl rfl rfl ((ct_err1 (m := mz_up w 64 1 ((w 64 1) + 1))).deep (by decide)) ?_
              refine mz_retP (r := (some (.int ((-1000001))), mz_up (mz_up w 64 1 ((w 64 1) + 1)) 68 1 ((w 68 1) + 1))) rfl ⟨(-1000001), rfl, ?_, rfl⟩
              show sm_I (n + 1) (mz_up (mz_up w 64 1 ((w 64 1) + 1)) 68 1 ((w 68 1) + 1))
              exact sm_I_scr hn hI2 (fun i hi => by
                have hne : ∀ r, sm_scr r = true → i ≠ r := fun r hr e => by
                  rw [e, hr] at hi
                  cases hi
                simp only [mz_up_ne (hne 64 rfl), mz_up_ne (hne 68 rfl)]) rfl rfl
            · refine mz_doPQ (R := mz_r121) (as := [.int (nI jxb), .int 0, .int ((nI zz9) - 1)]) (rest := []) (r1 := some (.int 1)) (m1 := w) mz_t121 mz_v121 rfl rfl rfl rfl rfl ((cs_in1 (m := w) (v := nI jxb) (a := 0) (b := (nI zz9) - 1) q12 (show ¬ (((nI zz9) - 1) < (nI jxb)) from (sm_nltN (sm_subN (a := zz9) (b := 1) rfl rfl (by omega)) rfl (show jxb ≤ (zz9 - 1) by omega) (show (zz9 - 1) < 2 ^ 31 by omega)))).deep (by decide)) ?_
              refine mz_goP 6 (c' := (66, [some (.ref 0), some (.int (nI jxa)), some (.int (nI jxb)), some (.int xc)], [.int xc, .int (nI jxb), .int (nI jxa), .ref 60], w)) rfl ?_
              refine mz_doPQ (R := mz_r50) (as := [.ref 60, .int (nI jxa), .int (nI jxb), .int xc]) (rest := []) (r1 := none) (m1 := mz_up w 63 ((jxa * 24) + jxb) xc.toInt16.toInt32) mz_t50 mz_v50_60 rfl rfl rfl rfl rfl ⟨?_, rfl⟩ ?_
              · refine mz_go 4 (c' := (4, [some (.ref 60), some (.int (nI jxa)), some (.int (nI jxb)), some (.int xc), none], [.int 1, .int (nI jxb), .int (nI jxa), .ref 60], w)) rfl ?_
                refine mz_doQ (R := mz_r48) (as := [.ref 60, .int (nI jxa), .int (nI jxb), .int 1]) (rest := []) (r1 := some (.int 1)) (m1 := w) mz_t48 mz_v48_60 rfl rfl rfl rfl rfl ⟨?_, rfl⟩ ?_
                · refine mz_go 2 (c' := (2, [some (.ref 60), some (.int (nI jxa)), some (.int (nI jxb)), some (.int 1)], [.int (nI jxa), .ref 60], w)) rfl ?_
                  refine mz_doQ (R := mz_r45) (as := [.ref 60, .int (nI jxa)]) (rest := []) (r1 := some (.int 1)) (m1 := w) mz_t45 mz_v45_60 rfl rfl rfl rfl rfl ⟨?_, rfl⟩ ?_
                  · refine mz_go 2 (c' := (if (nI jxa) < 0 then 13 else 4, [some (.ref 60), some (.int (nI jxa))], [], w)) rfl ?_
                    refine mz_ifF q1 ?_
                    refine mz_go 3 (c' := (if 4 ≤ (nI jxa) then 13 else 9, [some (.ref 60), some (.int (nI jxa))], [], w)) rfl ?_
                    refine mz_ifF q2 ?_
                    refine mz_go 2 (c' := (14, [some (.ref 60), some (.int (nI jxa))], [.int 1], w)) rfl ?_
                    exact mz_ret rfl
                  refine mz_go 5 (c' := (if (nI jxb) < 0 then 42 else 16, [some (.ref 60), some (.int (nI jxa)), some (.int (nI jxb)), some (.int 1)], [], w)) rfl ?_
                  refine mz_ifF q12 ?_
                  refine mz_go 4 (c' := (22, [some (.ref 60), some (.int (nI jxa)), some (.int (nI jxb)), some (.int 1)], [.int (nI jxa), .ref 62, .int 1], w)) rfl ?_
                  refine mz_arr (c' := (23, [some (.ref 60), some (.int (nI jxa)), some (.int (nI jxb)), some (.int 1)], [.int (w 62 ((nI jxa).toNatClampNeg)), .int 1], w)) rfl (show mz_in (nI jxa) 4 = true from sm_inN rfl (show jxa < 4 by omega) (by decide)) ?_
                  rw [show (nI jxa : Int32).toNatClampNeg = jxa from sm_clN rfl (show jxa < 2 ^ 31 by omega)]
                  rw [ezz9]
                  refine mz_go 1 (c' := (if (nI zz9) < 1 then 42 else 26, [some (.ref 60), some (.int (nI jxa)), some (.int (nI jxb)), some (.int 1)], [], w)) rfl ?_
                  refine mz_ifF (show ¬ ((nI zz9) < 1) from (sm_nltN rfl rfl (show 1 ≤ zz9 by omega) (show zz9 < 2 ^ 31 by omega))) ?_
                  refine mz_go 4 (c' := (32, [some (.ref 60), some (.int (nI jxa)), some (.int (nI jxb)), some (.int 1)], [.int (nI jxa), .ref 62, .int (nI jxb)], w)) rfl ?_
                  refine mz_arr (c' := (33, [some (.ref 60), some (.int (nI jxa)), some (.int (nI jxb)), some (.int 1)], [.int (w 62 ((nI jxa).toNatClampNeg)), .int (nI jxb)], w)) rfl (show mz_in (nI jxa) 4 = true from sm_inN rfl (show jxa < 4 by omega) (by decide)) ?_
                  rw [show (nI jxa : Int32).toNatClampNeg = jxa from sm_clN rfl (show jxa < 2 ^ 31 by omega)]
                  rw [ezz9]
                  refine mz_go 3 (c' := (if ((nI zz9) - 1) < (nI jxb) then 42 else 38, [some (.ref 60), some (.int (nI jxa)), some (.int (nI jxb)), some (.int 1)], [], w)) rfl ?_
                  refine mz_ifF (show ¬ (((nI zz9) - 1) < (nI jxb)) from (sm_nltN (sm_subN (a := zz9) (b := 1) rfl rfl (by omega)) rfl (show jxb ≤ (zz9 - 1) by omega) (show (zz9 - 1) < 2 ^ 31 by omega))) ?_
                  refine mz_go 2 (c' := (43, [some (.ref 60), some (.int (nI jxa)), some (.int (nI jxb)), some (.int 1)], [.int 1], w)) rfl ?_
                  exact mz_ret rfl
                refine mz_go 4 (c' := (15, [some (.ref 60), some (.int (nI jxa)), some (.int (nI jxb)), some (.int xc), none], [.int (nI jxa), .ref 61], w)) rfl ?_
                refine mz_arr (c' := (16, [some (.ref 60), some (.int (nI jxa)), some (.int (nI jxb)), some (.int xc), none], [.int (w 61 ((nI jxa).toNatClampNeg))], w)) rfl (show mz_in (nI jxa) 4 = true from sm_inN rfl (show jxa < 4 by omega) (by decide)) ?_
                rw [show (nI jxa : Int32).toNatClampNeg = jxa from sm_clN rfl (show jxa < 2 ^ 31 by omega)]
                rw [o3]
                refine mz_go 17 (c' := (53, [some (.ref 60), some (.int (nI jxa)), some (.int (nI jxb)), some (.int xc), some (.int 16)], [.int xc.toInt16.toInt32, .int (((nI jxa) * 24) + (nI jxb)), .ref 63], w)) rfl ?_
                refine mz_arr (c' := (54, [some (.ref 60), some (.int (nI jxa)), some (.int (nI jxb)), some (.int xc), some (.int 16)], [], mz_up w 63 ((((nI jxa) * 24) + (nI jxb)).toNatClampNeg) xc.toInt16.toInt32)) rfl (show mz_in (((nI jxa) * 24) + (nI jxb)) 96 = true from sm_inN (sm_addN (sm_mulN rfl rfl) rfl) (show ((jxa * 24) + jxb) < 96 by omega) (by decide)) ?_
                rw [show (((nI jxa) * 24) + (nI jxb) : Int32).toNatClampNeg = ((jxa * 24) + jxb) from sm_clN (sm_addN (sm_mulN rfl rfl) rfl) (show ((jxa * 24) + jxb) < 2 ^ 31 by omega)]
                exact mz_ret rfl
              refine mz_goP 1 (c' := (70, [some (.ref 0), some (.int (nI jxa)), some (.int (nI jxb)), some (.int xc)], [.int 1], mz_up w 63 ((jxa * 24) + jxb) xc.toInt16.toInt32)) rfl ?_
              refine mz_retP (r := (some (.int (1)), mz_up w 63 ((jxa * 24) + jxb) xc.toInt16.toInt32)) rfl ⟨1, rfl, ?_⟩
              refine mz_goP 1 (c' := (1, [some (.ref 65), some (.int (nI jxa)), some (.int (nI jxb)), some (.int xc), none], [.int (nI jxa)], mz_up w 63 ((jxa * 24) + jxb) xc.toInt16.toInt32)) rfl ?_
              refine mz_doPQ (R := mz_r219) (as := [.int (nI jxa)]) (rest := []) (r1 := some (.int 1)) (m1 := mz_up w 63 ((jxa * 24) + jxb) xc.toInt16.toInt32) mz_t219 mz_v219 rfl rfl rfl rfl rfl ⟨?_, rfl⟩ ?_
              · refine mz_go 3 (c' := (3, [some (.int (nI jxa))], [.int 3, .int 0, .int (nI jxa)], mz_up w 63 ((jxa * 24) + jxb) xc.toInt16.toInt32)) rfl ?_
                refine mz_doQ (R := mz_r128) (as := [.int (nI jxa), .int 0, .int 3]) (rest := []) (r1 := some (.int 1)) (m1 := mz_up w 63 ((jxa * 24) + jxb) xc.toInt16.toInt32) mz_t128 mz_v128 rfl rfl rfl rfl rfl ((ct_in1 (m := mz_up w 63 ((jxa * 24) + jxb) xc.toInt16.toInt32) (v := nI jxa) (a := 0) (b := 3) q1 (show ¬ (3 < (nI jxa)) from (sm_nltN rfl rfl (show jxa ≤ 3 by omega) (show 3 < 2 ^ 31 by omega)))).deep (by decide)) ?_
                exact mz_ret rfl
              refine mz_goP 4 (c' := (18, [some (.ref 65), some (.int (nI jxa)), some (.int (nI jxb)), some (.int xc), none], [.int (nI jxa), .ref 75], mz_up w 63 ((jxa * 24) + jxb) xc.toInt16.toInt32)) rfl ?_
              refine mz_arrP (c' := (19, [some (.ref 65), some (.int (nI jxa)), some (.int (nI jxb)), some (.int xc), none], [.int (w 75 ((nI jxa).toNatClampNeg))], mz_up w 63 ((jxa * 24) + jxb) xc.toInt16.toInt32)) rfl (show mz_in (nI jxa) 4 = true from sm_inN rfl (show jxa < 4 by omega) (by decide)) ?_
              rw [show (nI jxa : Int32).toNatClampNeg = jxa from sm_clN rfl (show jxa < 2 ^ 31 by omega)]
              rw [show w 75 jxa = w 61 jxa from (hsh jxa (by omega)).2.2.1]
              rw [o3]
              refine mz_goP 6 (c' := (35, [some (.ref 65), some (.int (nI jxa)), some (.int (nI jxb)), some (.int xc), none], [.int (nI jxa), .ref 76, .int 0, .int (nI jxb)], mz_up w 63 ((jxa * 24) + jxb) xc.toInt16.toInt32)) rfl ?_
              refine mz_arrP (c' := (36, [some (.ref 65), some (.int (nI jxa)), some (.int (nI jxb)), some (.int xc), none], [.int (w 76 ((nI jxa).toNatClampNeg)), .int 0, .int (nI jxb)], mz_up w 63 ((jxa * 24) + jxb) xc.toInt16.toInt32)) rfl (show mz_in (nI jxa) 4 = true from sm_inN rfl (show jxa < 4 by omega) (by decide)) ?_
              rw [show (nI jxa : Int32).toNatClampNeg = jxa from sm_clN rfl (show jxa < 2 ^ 31 by omega)]
              rw [show w 76 jxa = w 62 jxa from (hsh jxa (by omega)).2.2.2]
              rw [ezz9]
              refine mz_goP 2 (c' := (38, [some (.ref 65), some (.int (nI jxa)), some (.int (nI jxb)), some (.int xc), none], [.int ((nI zz9) - 1), .int 0, .int (nI jxb)], mz_up w 63 ((jxa * 24) + jxb) xc.toInt16.toInt32)) rfl ?_
              refine mz_doPQ (R := mz_r128) (as := [.int (nI jxb), .int 0, .int ((nI zz9) - 1)]) (rest := []) (r1 := some (.int 1)) (m1 := mz_up w 63 ((jxa * 24) + jxb) xc.toInt16.toInt32) mz_t128 mz_v128 rfl rfl rfl rfl rfl ((ct_in1 (m := mz_up w 63 ((jxa * 24) + jxb) xc.toInt16.toInt32) (v := nI jxb) (a := 0) (b := (nI zz9) - 1) q12 (show ¬ (((nI zz9) - 1) < (nI jxb)) from (sm_nltN (sm_subN (a := zz9) (b := 1) rfl rfl (by omega)) rfl (show jxb ≤ (zz9 - 1) by omega) (show (zz9 - 1) < 2 ^ 31 by omega)))).deep (by decide)) ?_
              refine mz_goP 5 (c' := (57, [some (.ref 65), some (.int (nI jxa)), some (.int (nI jxb)), some (.int xc), none], [.int (nI jxa), .ref 75, .int 32], mz_up w 63 ((jxa * 24) + jxb) xc.toInt16.toInt32)) rfl ?_
              refine mz_arrP (c' := (58, [some (.ref 65), some (.int (nI jxa)), some (.int (nI jxb)), some (.int xc), none], [.int (w 75 ((nI jxa).toNatClampNeg)), .int 32], mz_up w 63 ((jxa * 24) + jxb) xc.toInt16.toInt32)) rfl (show mz_in (nI jxa) 4 = true from sm_inN rfl (show jxa < 4 by omega) (by decide)) ?_
              rw [show (nI jxa : Int32).toNatClampNeg = jxa from sm_clN rfl (show jxa < 2 ^ 31 by omega)]
              rw [show w 75 jxa = w 61 jxa from (hsh jxa (by omega)).2.2.1]
              rw [o3]
              refine mz_goP 14 (c' := (78, [some (.ref 65), some (.int (nI jxa)), some (.int (nI jxb)), some (.int xc), some (.int 16)], [.int ((xc <<< ((16 : Int32) &&& 31)) >>> ((16 : Int32) &&& 31)), .int ((24 * (nI jxa)) + (nI jxb)), .ref 77], mz_up w 63 ((jxa * 24) + jxb) xc.toInt16.toInt32)) rfl ?_
              rw [sm_sh16 xc]
              refine mz_arrP (c' := (79, [some (.ref 65), some (.int (nI jxa)), some (.int (nI jxb)), some (.int xc), some (.int 16)], [], mz_up (mz_up w 63 ((jxa * 24) + jxb) xc.toInt16.toInt32) 77 (((24 * (nI jxa)) + (nI jxb)).toNatClampNeg) xc.toInt16.toInt32)) rfl (show mz_in ((24 * (nI jxa)) + (nI jxb)) 96 = true from sm_inN (sm_addN (sm_mulN rfl rfl) rfl) (show ((24 * jxa) + jxb) < 96 by omega) (by decide)) ?_
              rw [show ((24 * (nI jxa)) + (nI jxb) : Int32).toNatClampNeg = ((24 * jxa) + jxb) from sm_clN (sm_addN (sm_mulN rfl rfl) rfl) (show ((24 * jxa) + jxb) < 2 ^ 31 by omega)]
              refine mz_goP 1 (c' := (80, [some (.ref 65), some (.int (nI jxa)), some (.int (nI jxb)), some (.int xc), some (.int 16)], [.int 1], mz_up (mz_up w 63 ((jxa * 24) + jxb) xc.toInt16.toInt32) 77 ((24 * jxa) + jxb) xc.toInt16.toInt32)) rfl ?_
              refine mz_retP (r := (some (.int (1)), mz_up (mz_up w 63 ((jxa * 24) + jxb) xc.toInt16.toInt32) 77 ((24 * jxa) + jxb) xc.toInt16.toInt32)) rfl ⟨1, rfl, ?_, rfl⟩
              show sm_I (n + 1) (mz_up (mz_up w 63 ((jxa * 24) + jxb) xc.toInt16.toInt32) 77 ((24 * jxa) + jxb) xc.toInt16.toInt32)
              obtain ⟨-, ⟨d1, d2, d3, ⟨d4, d4b, d4c⟩, d5, d6, d7, d8⟩, da, db, dc⟩ := hI2
              exact ⟨hn, ⟨d1, d2, d3, ⟨d4, d4b, d4c⟩, d5, d6, d7, d8⟩, ⟨da.1, sm_putted (show ((jxa * 24) + jxb) = ((24 * jxa) + jxb) by omega) da.2 (fun i => by rw [mz_up_ne (show (63 : Nat) ≠ 77 by decide), mz_up_eq]) (fun i => by rw [mz_up_eq, mz_up_ne (show (77 : Nat) ≠ 63 by decide)])⟩, db, sm_cc_of (fun i h1 h2 => by simp only [mz_up_ne (show i ≠ 63 by omega), mz_up_ne (show i ≠ 77 by omega)]) dc⟩
      · obtain ⟨zz14, hzz14, ezz14⟩ := sm_Nof (by decide) (hsh jxa (by omega)).2.1
        by_cases q15 : zz14 = 0
        · refine mz_goP 3 (c' := (5, [some (.ref 0), some (.int (nI jxa)), some (.int xb), some (.int xc)], [.int (nI jxa), .ref 60], w)) rfl ?_
          refine mz_doPQ (R := mz_r45) (as := [.ref 60, .int (nI jxa)]) (rest := []) (r1 := some (.int 1)) (m1 := w) mz_t45 mz_v45_60 rfl rfl rfl rfl rfl ⟨?_, rfl⟩ ?_
          · refine mz_go 2 (c' := (if (nI jxa) < 0 then 13 else 4, [some (.ref 60), some (.int (nI jxa))], [], w)) rfl ?_
            refine mz_ifF q1 ?_
            refine mz_go 3 (c' := (if 4 ≤ (nI jxa) then 13 else 9, [some (.ref 60), some (.int (nI jxa))], [], w)) rfl ?_
            refine mz_ifF q2 ?_
            refine mz_go 2 (c' := (14, [some (.ref 60), some (.int (nI jxa))], [.int 1], w)) rfl ?_
            exact mz_ret rfl
          refine mz_goP 4 (c' := (22, [some (.ref 0), some (.int (nI jxa)), some (.int xb), some (.int xc)], [.int (nI jxa), .ref 60], w)) rfl ?_
          refine mz_doPQ (R := mz_r46) (as := [.ref 60, .int (nI jxa)]) (rest := []) (r1 := some (.int 0)) (m1 := w) mz_t46 mz_v46_60 rfl rfl rfl rfl rfl ⟨?_, rfl⟩ ?_
          · refine mz_go 2 (c' := (2, [some (.ref 60), some (.int (nI jxa))], [.int (nI jxa), .ref 60], w)) rfl ?_
            refine mz_doQ (R := mz_r45) (as := [.ref 60, .int (nI jxa)]) (rest := []) (r1 := some (.int 1)) (m1 := w) mz_t45 mz_v45_60 rfl rfl rfl rfl rfl ⟨?_, rfl⟩ ?_
            · refine mz_go 2 (c' := (if (nI jxa) < 0 then 13 else 4, [some (.ref 60), some (.int (nI jxa))], [], w)) rfl ?_
              refine mz_ifF q1 ?_
              refine mz_go 3 (c' := (if 4 ≤ (nI jxa) then 13 else 9, [some (.ref 60), some (.int (nI jxa))], [], w)) rfl ?_
              refine mz_ifF q2 ?_
              refine mz_go 2 (c' := (14, [some (.ref 60), some (.int (nI jxa))], [.int 1], w)) rfl ?_
              exact mz_ret rfl
            refine mz_go 4 (c' := (13, [some (.ref 60), some (.int (nI jxa))], [.int (nI jxa), .ref 61], w)) rfl ?_
            refine mz_arr (c' := (14, [some (.ref 60), some (.int (nI jxa))], [.int (w 61 ((nI jxa).toNatClampNeg))], w)) rfl (show mz_in (nI jxa) 4 = true from sm_inN rfl (show jxa < 4 by omega) (by decide)) ?_
            rw [show (nI jxa : Int32).toNatClampNeg = jxa from sm_clN rfl (show jxa < 2 ^ 31 by omega)]
            rw [o3]
            refine mz_go 2 (c' := (22, [some (.ref 60), some (.int (nI jxa))], [.int 0], w)) rfl ?_
            exact mz_ret rfl
          refine mz_goP 7 (c' := (44, [some (.ref 0), some (.int (nI jxa)), some (.int xb), some (.int xc)], [.int (nI jxa), .ref 62, .int 0, .int xb], w)) rfl ?_
          refine mz_arrP (c' := (45, [some (.ref 0), some (.int (nI jxa)), some (.int xb), some (.int xc)], [.int (w 62 ((nI jxa).toNatClampNeg)), .int 0, .int xb], w)) rfl (show mz_in (nI jxa) 4 = true from sm_inN rfl (show jxa < 4 by omega) (by decide)) ?_
          rw [show (nI jxa : Int32).toNatClampNeg = jxa from sm_clN rfl (show jxa < 2 ^ 31 by omega)]
          rw [ezz14]
          refine mz_goP 2 (c' := (47, [some (.ref 0), some (.int (nI jxa)), some (.int xb), some (.int xc)], [.int ((nI zz14) - 1), .int 0, .int xb], w)) rfl ?_
          rw [show nI zz14 - 1 = -1 from by rw [show zz14 = 0 by omega]; decide]
          by_cases q16 : xb < 0
          · refine mz_doPQ (R := mz_r121) (as := [.int xb, .int 0, .int (-1)]) (rest := []) (r1 := some (.int 0)) (m1 := w) mz_t121 mz_v121 rfl rfl rfl rfl rfl ((cs_inL (m := w) (v := xb) (a := 0) (b := (-1)) q16).deep (by decide)) ?_
            refine mz_goP 3 (c' := (55, [some (.ref 0), some (.int (nI jxa)), some (.int xb), some (.int xc)], [.int 1, .ref 0], w)) rfl ?_
            refine mz_doPQ (R := mz_r109) (as := [.ref 0, .int 1]) (rest := []) (r1 := some (.int (-1000001))) (m1 := mz_up w 64 1 ((w 64 1) + 1)) mz_t109 mz_v109_0 rfl rfl rfl rfl rfl ((cs_err1 (m := w)).deep (by decide)) ?_
            refine mz_retP (r := (some (.int ((-1000001))), mz_up w 64 1 ((w 64 1) + 1))) rfl ⟨(-1000001), rfl, ?_⟩
            refine mz_goP 1 (c' := (1, [some (.ref 65), some (.int (nI jxa)), some (.int xb), some (.int xc), none], [.int (nI jxa)], mz_up w 64 1 ((w 64 1) + 1))) rfl ?_
            refine mz_doPQ (R := mz_r219) (as := [.int (nI jxa)]) (rest := []) (r1 := some (.int 1)) (m1 := mz_up w 64 1 ((w 64 1) + 1)) mz_t219 mz_v219 rfl rfl rfl rfl rfl ⟨?_, rfl⟩ ?_
            · refine mz_go 3 (c' := (3, [some (.int (nI jxa))], [.int 3, .int 0, .int (nI jxa)], mz_up w 64 1 ((w 64 1) + 1))) rfl ?_
              refine mz_doQ (R := mz_r128) (as := [.int (nI jxa), .int 0, .int 3]) (rest := []) (r1 := some (.int 1)) (m1 := mz_up w 64 1 ((w 64 1) + 1)) mz_t128 mz_v128 rfl rfl rfl rfl rfl ((ct_in1 (m := mz_up w 64 1 ((w 64 1) + 1)) (v := nI jxa) (a := 0) (b := 3) q1 (show ¬ (3 < (nI jxa)) from (sm_nltN rfl rfl (show jxa ≤ 3 by omega) (show 3 < 2 ^ 31 by omega)))).deep (by decide)) ?_
              exact mz_ret rfl
            refine mz_goP 4 (c' := (18, [some (.ref 65), some (.int (nI jxa)), some (.int xb), some (.int xc), none], [.int (nI jxa), .ref 75], mz_up w 64 1 ((w 64 1) + 1))) rfl ?_
            refine mz_arrP (c' := (19, [some (.ref 65), some (.int (nI jxa)), some (.int xb), some (.int xc), none], [.int (w 75 ((nI jxa).toNatClampNeg))], mz_up w 64 1 ((w 64 1) + 1))) rfl (show mz_in (nI jxa) 4 = true from sm_inN rfl (show jxa < 4 by omega) (by decide)) ?_
            rw [show (nI jxa : Int32).toNatClampNeg = jxa from sm_clN rfl (show jxa < 2 ^ 31 by omega)]
            rw [show w 75 jxa = w 61 jxa from (hsh jxa (by omega)).2.2.1]
            rw [o3]
            refine mz_goP 6 (c' := (35, [some (.ref 65), some (.int (nI jxa)), some (.int xb), some (.int xc), none], [.int (nI jxa), .ref 76, .int 0, .int xb], mz_up w 64 1 ((w 64 1) + 1))) rfl ?_
            refine mz_arrP (c' := (36, [some (.ref 65), some (.int (nI jxa)), some (.int xb), some (.int xc), none], [.int (w 76 ((nI jxa).toNatClampNeg)), .int 0, .int xb], mz_up w 64 1 ((w 64 1) + 1))) rfl (show mz_in (nI jxa) 4 = true from sm_inN rfl (show jxa < 4 by omega) (by decide)) ?_
            rw [show (nI jxa : Int32).toNatClampNeg = jxa from sm_clN rfl (show jxa < 2 ^ 31 by omega)]
            rw [show w 76 jxa = w 62 jxa from (hsh jxa (by omega)).2.2.2]
            rw [ezz14]
            refine mz_goP 2 (c' := (38, [some (.ref 65), some (.int (nI jxa)), some (.int xb), some (.int xc), none], [.int ((nI zz14) - 1), .int 0, .int xb], mz_up w 64 1 ((w 64 1) + 1))) rfl ?_
            rw [show nI zz14 - 1 = -1 from by rw [show zz14 = 0 by omega]; decide]
            refine mz_doPQ (R := mz_r128) (as := [.int xb, .int 0, .int (-1)]) (rest := []) (r1 := some (.int 0)) (m1 := mz_up w 64 1 ((w 64 1) + 1)) mz_t128 mz_v128 rfl rfl rfl rfl rfl ((ct_inL (m := mz_up w 64 1 ((w 64 1) + 1)) (v := xb) (a := 0) (b := (-1)) q16).deep (by decide)) ?_
            refine mz_goP 3 (c' := (46, [some (.ref 65), some (.int (nI jxa)), some (.int xb), some (.int xc), none], [.int 1, .ref 65], mz_up w 64 1 ((w 64 1) + 1))) rfl ?_
            refine mz_doPQ (R := mz_r127) (as := [.ref 65, .int 1]) (rest := []) (r1 := some (.int (-1000001))) (m1 := mz_up (mz_up w 64 1 ((w 64 1) + 1)) 68 1 ((w 68 1) + 1)) mz_t127 mz_v127_65 rfl rfl rfl rfl rfl ((ct_err1 (m := mz_up w 64 1 ((w 64 1) + 1))).deep (by decide)) ?_
            refine mz_retP (r := (some (.int ((-1000001))), mz_up (mz_up w 64 1 ((w 64 1) + 1)) 68 1 ((w 68 1) + 1))) rfl ⟨(-1000001), rfl, ?_, rfl⟩
            show sm_I (n + 1) (mz_up (mz_up w 64 1 ((w 64 1) + 1)) 68 1 ((w 68 1) + 1))
            exact sm_I_scr hn hI2 (fun i hi => by
              have hne : ∀ r, sm_scr r = true → i ≠ r := fun r hr e => by
                rw [e, hr] at hi
                cases hi
              simp only [mz_up_ne (hne 64 rfl), mz_up_ne (hne 68 rfl)]) rfl rfl
          · refine mz_doPQ (R := mz_r121) (as := [.int xb, .int 0, .int (-1)]) (rest := []) (r1 := some (.int 0)) (m1 := w) mz_t121 mz_v121 rfl rfl rfl rfl rfl ((cs_inG (m := w) (v := xb) (a := 0) (b := (-1)) q16 (by have hl : (0 : Int) ≤ (xb).toInt := Int32.le_iff_toInt_le.mp (Int32.not_lt.mp q16); exact Int32.lt_iff_toInt_lt.mpr (show (-1 : Int) < (xb).toInt by omega))).deep (by decide)) ?_
            refine mz_goP 3 (c' := (55, [some (.ref 0), some (.int (nI jxa)), some (.int xb), some (.int xc)], [.int 1, .ref 0], w)) rfl ?_
            refine mz_doPQ (R := mz_r109) (as := [.ref 0, .int 1]) (rest := []) (r1 := some (.int (-1000001))) (m1 := mz_up w 64 1 ((w 64 1) + 1)) mz_t109 mz_v109_0 rfl rfl rfl rfl rfl ((cs_err1 (m := w)).deep (by decide)) ?_
            refine mz_retP (r := (some (.int ((-1000001))), mz_up w 64 1 ((w 64 1) + 1))) rfl ⟨(-1000001), rfl, ?_⟩
            refine mz_goP 1 (c' := (1, [some (.ref 65), some (.int (nI jxa)), some (.int xb), some (.int xc), none], [.int (nI jxa)], mz_up w 64 1 ((w 64 1) + 1))) rfl ?_
            refine mz_doPQ (R := mz_r219) (as := [.int (nI jxa)]) (rest := []) (r1 := some (.int 1)) (m1 := mz_up w 64 1 ((w 64 1) + 1)) mz_t219 mz_v219 rfl rfl rfl rfl rfl ⟨?_, rfl⟩ ?_
            · refine mz_go 3 (c' := (3, [some (.int (nI jxa))], [.int 3, .int 0, .int (nI jxa)], mz_up w 64 1 ((w 64 1) + 1))) rfl ?_
              refine mz_doQ (R := mz_r128) (as := [.int (nI jxa), .int 0, .int 3]) (rest := []) (r1 := some (.int 1)) (m1 := mz_up w 64 1 ((w 64 1) + 1)) mz_t128 mz_v128 rfl rfl rfl rfl rfl ((ct_in1 (m := mz_up w 64 1 ((w 64 1) + 1)) (v := nI jxa) (a := 0) (b := 3) q1 (show ¬ (3 < (nI jxa)) from (sm_nltN rfl rfl (show jxa ≤ 3 by omega) (show 3 < 2 ^ 31 by omega)))).deep (by decide)) ?_
              exact mz_ret rfl
            refine mz_goP 4 (c' := (18, [some (.ref 65), some (.int (nI jxa)), some (.int xb), some (.int xc), none], [.int (nI jxa), .ref 75], mz_up w 64 1 ((w 64 1) + 1))) rfl ?_
            refine mz_arrP (c' := (19, [some (.ref 65), some (.int (nI jxa)), some (.int xb), some (.int xc), none], [.int (w 75 ((nI jxa).toNatClampNeg))], mz_up w 64 1 ((w 64 1) + 1))) rfl (show mz_in (nI jxa) 4 = true from sm_inN rfl (show jxa < 4 by omega) (by decide)) ?_
            rw [show (nI jxa : Int32).toNatClampNeg = jxa from sm_clN rfl (show jxa < 2 ^ 31 by omega)]
            rw [show w 75 jxa = w 61 jxa from (hsh jxa (by omega)).2.2.1]
            rw [o3]
            refine mz_goP 6 (c' := (35, [some (.ref 65), some (.int (nI jxa)), some (.int xb), some (.int xc), none], [.int (nI jxa), .ref 76, .int 0, .int xb], mz_up w 64 1 ((w 64 1) + 1))) rfl ?_
            refine mz_arrP (c' := (36, [some (.ref 65), some (.int (nI jxa)), some (.int xb), some (.int xc), none], [.int (w 76 ((nI jxa).toNatClampNeg)), .int 0, .int xb], mz_up w 64 1 ((w 64 1) + 1))) rfl (show mz_in (nI jxa) 4 = true from sm_inN rfl (show jxa < 4 by omega) (by decide)) ?_
            rw [show (nI jxa : Int32).toNatClampNeg = jxa from sm_clN rfl (show jxa < 2 ^ 31 by omega)]
            rw [show w 76 jxa = w 62 jxa from (hsh jxa (by omega)).2.2.2]
            rw [ezz14]
            refine mz_goP 2 (c' := (38, [some (.ref 65), some (.int (nI jxa)), some (.int xb), some (.int xc), none], [.int ((nI zz14) - 1), .int 0, .int xb], mz_up w 64 1 ((w 64 1) + 1))) rfl ?_
            rw [show nI zz14 - 1 = -1 from by rw [show zz14 = 0 by omega]; decide]
            refine mz_doPQ (R := mz_r128) (as := [.int xb, .int 0, .int (-1)]) (rest := []) (r1 := some (.int 0)) (m1 := mz_up w 64 1 ((w 64 1) + 1)) mz_t128 mz_v128 rfl rfl rfl rfl rfl ((ct_inG (m := mz_up w 64 1 ((w 64 1) + 1)) (v := xb) (a := 0) (b := (-1)) q16 (by have hl : (0 : Int) ≤ (xb).toInt := Int32.le_iff_toInt_le.mp (Int32.not_lt.mp q16); exact Int32.lt_iff_toInt_lt.mpr (show (-1 : Int) < (xb).toInt by omega))).deep (by decide)) ?_
            refine mz_goP 3 (c' := (46, [some (.ref 65), some (.int (nI jxa)), some (.int xb), some (.int xc), none], [.int 1, .ref 65], mz_up w 64 1 ((w 64 1) + 1))) rfl ?_
            refine mz_doPQ (R := mz_r127) (as := [.ref 65, .int 1]) (rest := []) (r1 := some (.int (-1000001))) (m1 := mz_up (mz_up w 64 1 ((w 64 1) + 1)) 68 1 ((w 68 1) + 1)) mz_t127 mz_v127_65 rfl rfl rfl rfl rfl ((ct_err1 (m := mz_up w 64 1 ((w 64 1) + 1))).deep (by decide)) ?_
            refine mz_retP (r := (some (.int ((-1000001))), mz_up (mz_up w 64 1 ((w 64 1) + 1)) 68 1 ((w 68 1) + 1))) rfl ⟨(-1000001), rfl, ?_, rfl⟩
            show sm_I (n + 1) (mz_up (mz_up w 64 1 ((w 64 1) + 1)) 68 1 ((w 68 1) + 1))
            exact sm_I_scr hn hI2 (fun i hi => by
              have hne : ∀ r, sm_scr r = true → i ≠ r := fun r hr e => by
                rw [e, hr] at hi
                cases hi
              simp only [mz_up_ne (hne 64 rfl), mz_up_ne (hne 68 rfl)]) rfl rfl
        · by_cases q17 : xb < 0
          · refine mz_goP 3 (c' := (5, [some (.ref 0), some (.int (nI jxa)), some (.int xb), some (.int xc)], [.int (nI jxa), .ref 60], w)) rfl ?_
            refine mz_doPQ (R := mz_r45) (as := [.ref 60, .int (nI jxa)]) (rest := []) (r1 := some (.int 1)) (m1 := w) mz_t45 mz_v45_60 rfl rfl rfl rfl rfl ⟨?_, rfl⟩ ?_
            · refine mz_go 2 (c' := (if (nI jxa) < 0 then 13 else 4, [some (.ref 60), some (.int (nI jxa))], [], w)) rfl ?_
              refine mz_ifF q1 ?_
              refine mz_go 3 (c' := (if 4 ≤ (nI jxa) then 13 else 9, [some (.ref 60), some (.int (nI jxa))], [], w)) rfl ?_
              refine mz_ifF q2 ?_
              refine mz_go 2 (c' := (14, [some (.ref 60), some (.int (nI jxa))], [.int 1], w)) rfl ?_
              exact mz_ret rfl
            refine mz_goP 4 (c' := (22, [some (.ref 0), some (.int (nI jxa)), some (.int xb), some (.int xc)], [.int (nI jxa), .ref 60], w)) rfl ?_
            refine mz_doPQ (R := mz_r46) (as := [.ref 60, .int (nI jxa)]) (rest := []) (r1 := some (.int 0)) (m1 := w) mz_t46 mz_v46_60 rfl rfl rfl rfl rfl ⟨?_, rfl⟩ ?_
            · refine mz_go 2 (c' := (2, [some (.ref 60), some (.int (nI jxa))], [.int (nI jxa), .ref 60], w)) rfl ?_
              refine mz_doQ (R := mz_r45) (as := [.ref 60, .int (nI jxa)]) (rest := []) (r1 := some (.int 1)) (m1 := w) mz_t45 mz_v45_60 rfl rfl rfl rfl rfl ⟨?_, rfl⟩ ?_
              · refine mz_go 2 (c' := (if (nI jxa) < 0 then 13 else 4, [some (.ref 60), some (.int (nI jxa))], [], w)) rfl ?_
                refine mz_ifF q1 ?_
                refine mz_go 3 (c' := (if 4 ≤ (nI jxa) then 13 else 9, [some (.ref 60), some (.int (nI jxa))], [], w)) rfl ?_
                refine mz_ifF q2 ?_
                refine mz_go 2 (c' := (14, [some (.ref 60), some (.int (nI jxa))], [.int 1], w)) rfl ?_
                exact mz_ret rfl
              refine mz_go 4 (c' := (13, [some (.ref 60), some (.int (nI jxa))], [.int (nI jxa), .ref 61], w)) rfl ?_
              refine mz_arr (c' := (14, [some (.ref 60), some (.int (nI jxa))], [.int (w 61 ((nI jxa).toNatClampNeg))], w)) rfl (show mz_in (nI jxa) 4 = true from sm_inN rfl (show jxa < 4 by omega) (by decide)) ?_
              rw [show (nI jxa : Int32).toNatClampNeg = jxa from sm_clN rfl (show jxa < 2 ^ 31 by omega)]
              rw [o3]
              refine mz_go 2 (c' := (22, [some (.ref 60), some (.int (nI jxa))], [.int 0], w)) rfl ?_
              exact mz_ret rfl
            refine mz_goP 7 (c' := (44, [some (.ref 0), some (.int (nI jxa)), some (.int xb), some (.int xc)], [.int (nI jxa), .ref 62, .int 0, .int xb], w)) rfl ?_
            refine mz_arrP (c' := (45, [some (.ref 0), some (.int (nI jxa)), some (.int xb), some (.int xc)], [.int (w 62 ((nI jxa).toNatClampNeg)), .int 0, .int xb], w)) rfl (show mz_in (nI jxa) 4 = true from sm_inN rfl (show jxa < 4 by omega) (by decide)) ?_
            rw [show (nI jxa : Int32).toNatClampNeg = jxa from sm_clN rfl (show jxa < 2 ^ 31 by omega)]
            rw [ezz14]
            refine mz_goP 2 (c' := (47, [some (.ref 0), some (.int (nI jxa)), some (.int xb), some (.int xc)], [.int ((nI zz14) - 1), .int 0, .int xb], w)) rfl ?_
            refine mz_doPQ (R := mz_r121) (as := [.int xb, .int 0, .int ((nI zz14) - 1)]) (rest := []) (r1 := some (.int 0)) (m1 := w) mz_t121 mz_v121 rfl rfl rfl rfl rfl ((cs_inL (m := w) (v := xb) (a := 0) (b := (nI zz14) - 1) q17).deep (by decide)) ?_
            refine mz_goP 3 (c' := (55, [some (.ref 0), some (.int (nI jxa)), some (.int xb), some (.int xc)], [.int 1, .ref 0], w)) rfl ?_
            refine mz_doPQ (R := mz_r109) (as := [.ref 0, .int 1]) (rest := []) (r1 := some (.int (-1000001))) (m1 := mz_up w 64 1 ((w 64 1) + 1)) mz_t109 mz_v109_0 rfl rfl rfl rfl rfl ((cs_err1 (m := w)).deep (by decide)) ?_
            refine mz_retP (r := (some (.int ((-1000001))), mz_up w 64 1 ((w 64 1) + 1))) rfl ⟨(-1000001), rfl, ?_⟩
            refine mz_goP 1 (c' := (1, [some (.ref 65), some (.int (nI jxa)), some (.int xb), some (.int xc), none], [.int (nI jxa)], mz_up w 64 1 ((w 64 1) + 1))) rfl ?_
            refine mz_doPQ (R := mz_r219) (as := [.int (nI jxa)]) (rest := []) (r1 := some (.int 1)) (m1 := mz_up w 64 1 ((w 64 1) + 1)) mz_t219 mz_v219 rfl rfl rfl rfl rfl ⟨?_, rfl⟩ ?_
            · refine mz_go 3 (c' := (3, [some (.int (nI jxa))], [.int 3, .int 0, .int (nI jxa)], mz_up w 64 1 ((w 64 1) + 1))) rfl ?_
              refine mz_doQ (R := mz_r128) (as := [.int (nI jxa), .int 0, .int 3]) (rest := []) (r1 := some (.int 1)) (m1 := mz_up w 64 1 ((w 64 1) + 1)) mz_t128 mz_v128 rfl rfl rfl rfl rfl ((ct_in1 (m := mz_up w 64 1 ((w 64 1) + 1)) (v := nI jxa) (a := 0) (b := 3) q1 (show ¬ (3 < (nI jxa)) from (sm_nltN rfl rfl (show jxa ≤ 3 by omega) (show 3 < 2 ^ 31 by omega)))).deep (by decide)) ?_
              exact mz_ret rfl
            refine mz_goP 4 (c' := (18, [some (.ref 65), some (.int (nI jxa)), some (.int xb), some (.int xc), none], [.int (nI jxa), .ref 75], mz_up w 64 1 ((w 64 1) + 1))) rfl ?_
            refine mz_arrP (c' := (19, [some (.ref 65), some (.int (nI jxa)), some (.int xb), some (.int xc), none], [.int (w 75 ((nI jxa).toNatClampNeg))], mz_up w 64 1 ((w 64 1) + 1))) rfl (show mz_in (nI jxa) 4 = true from sm_inN rfl (show jxa < 4 by omega) (by decide)) ?_
            rw [show (nI jxa : Int32).toNatClampNeg = jxa from sm_clN rfl (show jxa < 2 ^ 31 by omega)]
            rw [show w 75 jxa = w 61 jxa from (hsh jxa (by omega)).2.2.1]
            rw [o3]
            refine mz_goP 6 (c' := (35, [some (.ref 65), some (.int (nI jxa)), some (.int xb), some (.int xc), none], [.int (nI jxa), .ref 76, .int 0, .int xb], mz_up w 64 1 ((w 64 1) + 1))) rfl ?_
            refine mz_arrP (c' := (36, [some (.ref 65), some (.int (nI jxa)), some (.int xb), some (.int xc), none], [.int (w 76 ((nI jxa).toNatClampNeg)), .int 0, .int xb], mz_up w 64 1 ((w 64 1) + 1))) rfl (show mz_in (nI jxa) 4 = true from sm_inN rfl (show jxa < 4 by omega) (by decide)) ?_
            rw [show (nI jxa : Int32).toNatClampNeg = jxa from sm_clN rfl (show jxa < 2 ^ 31 by omega)]
            rw [show w 76 jxa = w 62 jxa from (hsh jxa (by omega)).2.2.2]
            rw [ezz14]
            refine mz_goP 2 (c' := (38, [some (.ref 65), some (.int (nI jxa)), some (.int xb), some (.int xc), none], [.int ((nI zz14) - 1), .int 0, .int xb], mz_up w 64 1 ((w 64 1) + 1))) rfl ?_
            refine mz_doPQ (R := mz_r128) (as := [.int xb, .int 0, .int ((nI zz14) - 1)]) (rest := []) (r1 := some (.int 0)) (m1 := mz_up w 64 1 ((w 64 1) + 1)) mz_t128 mz_v128 rfl rfl rfl rfl rfl ((ct_inL (m := mz_up w 64 1 ((w 64 1) + 1)) (v := xb) (a := 0) (b := (nI zz14) - 1) q17).deep (by decide)) ?_
            refine mz_goP 3 (c' := (46, [some (.ref 65), some (.int (nI jxa)), some (.int xb), some (.int xc), none], [.int 1, .ref 65], mz_up w 64 1 ((w 64 1) + 1))) rfl ?_
            refine mz_doPQ (R := mz_r127) (as := [.ref 65, .int 1]) (rest := []) (r1 := some (.int (-1000001))) (m1 := mz_up (mz_up w 64 1 ((w 64 1) + 1)) 68 1 ((w 68 1) + 1)) mz_t127 mz_v127_65 rfl rfl rfl rfl rfl ((ct_err1 (m := mz_up w 64 1 ((w 64 1) + 1))).deep (by decide)) ?_
            refine mz_retP (r := (some (.int ((-1000001))), mz_up (mz_up w 64 1 ((w 64 1) + 1)) 68 1 ((w 68 1) + 1))) rfl ⟨(-1000001), rfl, ?_, rfl⟩
            show sm_I (n + 1) (mz_up (mz_up w 64 1 ((w 64 1) + 1)) 68 1 ((w 68 1) + 1))
            exact sm_I_scr hn hI2 (fun i hi => by
              have hne : ∀ r, sm_scr r = true → i ≠ r := fun r hr e => by
                rw [e, hr] at hi
                cases hi
              simp only [mz_up_ne (hne 64 rfl), mz_up_ne (hne 68 rfl)]) rfl rfl
          · obtain ⟨jxb, hjxb, rfl⟩ := nI_of q17
            refine mz_goP 3 (c' := (5, [some (.ref 0), some (.int (nI jxa)), some (.int (nI jxb)), some (.int xc)], [.int (nI jxa), .ref 60], w)) rfl ?_
            refine mz_doPQ (R := mz_r45) (as := [.ref 60, .int (nI jxa)]) (rest := []) (r1 := some (.int 1)) (m1 := w) mz_t45 mz_v45_60 rfl rfl rfl rfl rfl ⟨?_, rfl⟩ ?_
            · refine mz_go 2 (c' := (if (nI jxa) < 0 then 13 else 4, [some (.ref 60), some (.int (nI jxa))], [], w)) rfl ?_
              refine mz_ifF q1 ?_
              refine mz_go 3 (c' := (if 4 ≤ (nI jxa) then 13 else 9, [some (.ref 60), some (.int (nI jxa))], [], w)) rfl ?_
              refine mz_ifF q2 ?_
              refine mz_go 2 (c' := (14, [some (.ref 60), some (.int (nI jxa))], [.int 1], w)) rfl ?_
              exact mz_ret rfl
            refine mz_goP 4 (c' := (22, [some (.ref 0), some (.int (nI jxa)), some (.int (nI jxb)), some (.int xc)], [.int (nI jxa), .ref 60], w)) rfl ?_
            refine mz_doPQ (R := mz_r46) (as := [.ref 60, .int (nI jxa)]) (rest := []) (r1 := some (.int 0)) (m1 := w) mz_t46 mz_v46_60 rfl rfl rfl rfl rfl ⟨?_, rfl⟩ ?_
            · refine mz_go 2 (c' := (2, [some (.ref 60), some (.int (nI jxa))], [.int (nI jxa), .ref 60], w)) rfl ?_
              refine mz_doQ (R := mz_r45) (as := [.ref 60, .int (nI jxa)]) (rest := []) (r1 := some (.int 1)) (m1 := w) mz_t45 mz_v45_60 rfl rfl rfl rfl rfl ⟨?_, rfl⟩ ?_
              · refine mz_go 2 (c' := (if (nI jxa) < 0 then 13 else 4, [some (.ref 60), some (.int (nI jxa))], [], w)) rfl ?_
                refine mz_ifF q1 ?_
                refine mz_go 3 (c' := (if 4 ≤ (nI jxa) then 13 else 9, [some (.ref 60), some (.int (nI jxa))], [], w)) rfl ?_
                refine mz_ifF q2 ?_
                refine mz_go 2 (c' := (14, [some (.ref 60), some (.int (nI jxa))], [.int 1], w)) rfl ?_
                exact mz_ret rfl
              refine mz_go 4 (c' := (13, [some (.ref 60), some (.int (nI jxa))], [.int (nI jxa), .ref 61], w)) rfl ?_
              refine mz_arr (c' := (14, [some (.ref 60), some (.int (nI jxa))], [.int (w 61 ((nI jxa).toNatClampNeg))], w)) rfl (show mz_in (nI jxa) 4 = true from sm_inN rfl (show jxa < 4 by omega) (by decide)) ?_
              rw [show (nI jxa : Int32).toNatClampNeg = jxa from sm_clN rfl (show jxa < 2 ^ 31 by omega)]
              rw [o3]
              refine mz_go 2 (c' := (22, [some (.ref 60), some (.int (nI jxa))], [.int 0], w)) rfl ?_
              exact mz_ret rfl
            refine mz_goP 7 (c' := (44, [some (.ref 0), some (.int (nI jxa)), some (.int (nI jxb)), some (.int xc)], [.int (nI jxa), .ref 62, .int 0, .int (nI jxb)], w)) rfl ?_
            refine mz_arrP (c' := (45, [some (.ref 0), some (.int (nI jxa)), some (.int (nI jxb)), some (.int xc)], [.int (w 62 ((nI jxa).toNatClampNeg)), .int 0, .int (nI jxb)], w)) rfl (show mz_in (nI jxa) 4 = true from sm_inN rfl (show jxa < 4 by omega) (by decide)) ?_
            rw [show (nI jxa : Int32).toNatClampNeg = jxa from sm_clN rfl (show jxa < 2 ^ 31 by omega)]
            rw [ezz14]
            refine mz_goP 2 (c' := (47, [some (.ref 0), some (.int (nI jxa)), some (.int (nI jxb)), some (.int xc)], [.int ((nI zz14) - 1), .int 0, .int (nI jxb)], w)) rfl ?_
            by_cases q18 : (zz14 - 1) < jxb
            · refine mz_doPQ (R := mz_r121) (as := [.int (nI jxb), .int 0, .int ((nI zz14) - 1)]) (rest := []) (r1 := some (.int 0)) (m1 := w) mz_t121 mz_v121 rfl rfl rfl rfl rfl ((cs_inG (m := w) (v := nI jxb) (a := 0) (b := (nI zz14) - 1) q17 (show (((nI zz14) - 1) < (nI jxb)) from (sm_ltN (sm_subN (a := zz14) (b := 1) rfl rfl (by omega)) rfl (show (zz14 - 1) < jxb by omega) (show jxb < 2 ^ 31 by omega)))).deep (by decide)) ?_
              refine mz_goP 3 (c' := (55, [some (.ref 0), some (.int (nI jxa)), some (.int (nI jxb)), some (.int xc)], [.int 1, .ref 0], w)) rfl ?_
              refine mz_doPQ (R := mz_r109) (as := [.ref 0, .int 1]) (rest := []) (r1 := some (.int (-1000001))) (m1 := mz_up w 64 1 ((w 64 1) + 1)) mz_t109 mz_v109_0 rfl rfl rfl rfl rfl ((cs_err1 (m := w)).deep (by decide)) ?_
              refine mz_retP (r := (some (.int ((-1000001))), mz_up w 64 1 ((w 64 1) + 1))) rfl ⟨(-1000001), rfl, ?_⟩
              refine mz_goP 1 (c' := (1, [some (.ref 65), some (.int (nI jxa)), some (.int (nI jxb)), some (.int xc), none], [.int (nI jxa)], mz_up w 64 1 ((w 64 1) + 1))) rfl ?_
              refine mz_doPQ (R := mz_r219) (as := [.int (nI jxa)]) (rest := []) (r1 := some (.int 1)) (m1 := mz_up w 64 1 ((w 64 1) + 1)) mz_t219 mz_v219 rfl rfl rfl rfl rfl ⟨?_, rfl⟩ ?_
              · refine mz_go 3 (c' := (3, [some (.int (nI jxa))], [.int 3, .int 0, .int (nI jxa)], mz_up w 64 1 ((w 64 1) + 1))) rfl ?_
                refine mz_doQ (R := mz_r128) (as := [.int (nI jxa), .int 0, .int 3]) (rest := []) (r1 := some (.int 1)) (m1 := mz_up w 64 1 ((w 64 1) + 1)) mz_t128 mz_v128 rfl rfl rfl rfl rfl ((ct_in1 (m := mz_up w 64 1 ((w 64 1) + 1)) (v := nI jxa) (a := 0) (b := 3) q1 (show ¬ (3 < (nI jxa)) from (sm_nltN rfl rfl (show jxa ≤ 3 by omega) (show 3 < 2 ^ 31 by omega)))).deep (by decide)) ?_
                exact mz_ret rfl
              refine mz_goP 4 (c' := (18, [some (.ref 65), some (.int (nI jxa)), some (.int (nI jxb)), some (.int xc), none], [.int (nI jxa), .ref 75], mz_up w 64 1 ((w 64 1) + 1))) rfl ?_
              refine mz_arrP (c' := (19, [some (.ref 65), some (.int (nI jxa)), some (.int (nI jxb)), some (.int xc), none], [.int (w 75 ((nI jxa).toNatClampNeg))], mz_up w 64 1 ((w 64 1) + 1))) rfl (show mz_in (nI jxa) 4 = true from sm_inN rfl (show jxa < 4 by omega) (by decide)) ?_
              rw [show (nI jxa : Int32).toNatClampNeg = jxa from sm_clN rfl (show jxa < 2 ^ 31 by omega)]
              rw [show w 75 jxa = w 61 jxa from (hsh jxa (by omega)).2.2.1]
              rw [o3]
              refine mz_goP 6 (c' := (35, [some (.ref 65), some (.int (nI jxa)), some (.int (nI jxb)), some (.int xc), none], [.int (nI jxa), .ref 76, .int 0, .int (nI jxb)], mz_up w 64 1 ((w 64 1) + 1))) rfl ?_
              refine mz_arrP (c' := (36, [some (.ref 65), some (.int (nI jxa)), some (.int (nI jxb)), some (.int xc), none], [.int (w 76 ((nI jxa).toNatClampNeg)), .int 0, .int (nI jxb)], mz_up w 64 1 ((w 64 1) + 1))) rfl (show mz_in (nI jxa) 4 = true from sm_inN rfl (show jxa < 4 by omega) (by decide)) ?_
              rw [show (nI jxa : Int32).toNatClampNeg = jxa from sm_clN rfl (show jxa < 2 ^ 31 by omega)]
              rw [show w 76 jxa = w 62 jxa from (hsh jxa (by omega)).2.2.2]
              rw [ezz14]
              refine mz_goP 2 (c' := (38, [some (.ref 65), some (.int (nI jxa)), some (.int (nI jxb)), some (.int xc), none], [.int ((nI zz14) - 1), .int 0, .int (nI jxb)], mz_up w 64 1 ((w 64 1) + 1))) rfl ?_
              refine mz_doPQ (R := mz_r128) (as := [.int (nI jxb), .int 0, .int ((nI zz14) - 1)]) (rest := []) (r1 := some (.int 0)) (m1 := mz_up w 64 1 ((w 64 1) + 1)) mz_t128 mz_v128 rfl rfl rfl rfl rfl ((ct_inG (m := mz_up w 64 1 ((w 64 1) + 1)) (v := nI jxb) (a := 0) (b := (nI zz14) - 1) q17 (show (((nI zz14) - 1) < (nI jxb)) from (sm_ltN (sm_subN (a := zz14) (b := 1) rfl rfl (by omega)) rfl (show (zz14 - 1) < jxb by omega) (show jxb < 2 ^ 31 by omega)))).deep (by decide)) ?_
              refine mz_goP 3 (c' := (46, [some (.ref 65), some (.int (nI jxa)), some (.int (nI jxb)), some (.int xc), none], [.int 1, .ref 65], mz_up w 64 1 ((w 64 1) + 1))) rfl ?_
              refine mz_doPQ (R := mz_r127) (as := [.ref 65, .int 1]) (rest := []) (r1 := some (.int (-1000001))) (m1 := mz_up (mz_up w 64 1 ((w 64 1) + 1)) 68 1 ((w 68 1) + 1)) mz_t127 mz_v127_65 rfl rfl rfl rfl rfl ((ct_err1 (m := mz_up w 64 1 ((w 64 1) + 1))).deep (by decide)) ?_
              refine mz_retP (r := (some (.int ((-1000001))), mz_up (mz_up w 64 1 ((w 64 1) + 1)) 68 1 ((w 68 1) + 1))) rfl ⟨(-1000001), rfl, ?_, rfl⟩
              show sm_I (n + 1) (mz_up (mz_up w 64 1 ((w 64 1) + 1)) 68 1 ((w 68 1) + 1))
              exact sm_I_scr hn hI2 (fun i hi => by
                have hne : ∀ r, sm_scr r = true → i ≠ r := fun r hr e => by
                  rw [e, hr] at hi
                  cases hi
                simp only [mz_up_ne (hne 64 rfl), mz_up_ne (hne 68 rfl)]) rfl rfl
            · refine mz_doPQ (R := mz_r121) (as := [.int (nI jxb), .int 0, .int ((nI zz14) - 1)]) (rest := []) (r1 := some (.int 1)) (m1 := w) mz_t121 mz_v121 rfl rfl rfl rfl rfl ((cs_in1 (m := w) (v := nI jxb) (a := 0) (b := (nI zz14) - 1) q17 (show ¬ (((nI zz14) - 1) < (nI jxb)) from (sm_nltN (sm_subN (a := zz14) (b := 1) rfl rfl (by omega)) rfl (show jxb ≤ (zz14 - 1) by omega) (show (zz14 - 1) < 2 ^ 31 by omega)))).deep (by decide)) ?_
              refine mz_goP 6 (c' := (66, [some (.ref 0), some (.int (nI jxa)), some (.int (nI jxb)), some (.int xc)], [.int xc, .int (nI jxb), .int (nI jxa), .ref 60], w)) rfl ?_
              refine mz_doPQ (R := mz_r50) (as := [.ref 60, .int (nI jxa), .int (nI jxb), .int xc]) (rest := []) (r1 := none) (m1 := mz_up w 63 ((jxa * 24) + jxb) xc) mz_t50 mz_v50_60 rfl rfl rfl rfl rfl ⟨?_, rfl⟩ ?_
              · refine mz_go 4 (c' := (4, [some (.ref 60), some (.int (nI jxa)), some (.int (nI jxb)), some (.int xc), none], [.int 1, .int (nI jxb), .int (nI jxa), .ref 60], w)) rfl ?_
                refine mz_doQ (R := mz_r48) (as := [.ref 60, .int (nI jxa), .int (nI jxb), .int 1]) (rest := []) (r1 := some (.int 1)) (m1 := w) mz_t48 mz_v48_60 rfl rfl rfl rfl rfl ⟨?_, rfl⟩ ?_
                · refine mz_go 2 (c' := (2, [some (.ref 60), some (.int (nI jxa)), some (.int (nI jxb)), some (.int 1)], [.int (nI jxa), .ref 60], w)) rfl ?_
                  refine mz_doQ (R := mz_r45) (as := [.ref 60, .int (nI jxa)]) (rest := []) (r1 := some (.int 1)) (m1 := w) mz_t45 mz_v45_60 rfl rfl rfl rfl rfl ⟨?_, rfl⟩ ?_
                  · refine mz_go 2 (c' := (if (nI jxa) < 0 then 13 else 4, [some (.ref 60), some (.int (nI jxa))], [], w)) rfl ?_
                    refine mz_ifF q1 ?_
                    refine mz_go 3 (c' := (if 4 ≤ (nI jxa) then 13 else 9, [some (.ref 60), some (.int (nI jxa))], [], w)) rfl ?_
                    refine mz_ifF q2 ?_
                    refine mz_go 2 (c' := (14, [some (.ref 60), some (.int (nI jxa))], [.int 1], w)) rfl ?_
                    exact mz_ret rfl
                  refine mz_go 5 (c' := (if (nI jxb) < 0 then 42 else 16, [some (.ref 60), some (.int (nI jxa)), some (.int (nI jxb)), some (.int 1)], [], w)) rfl ?_
                  refine mz_ifF q17 ?_
                  refine mz_go 4 (c' := (22, [some (.ref 60), some (.int (nI jxa)), some (.int (nI jxb)), some (.int 1)], [.int (nI jxa), .ref 62, .int 1], w)) rfl ?_
                  refine mz_arr (c' := (23, [some (.ref 60), some (.int (nI jxa)), some (.int (nI jxb)), some (.int 1)], [.int (w 62 ((nI jxa).toNatClampNeg)), .int 1], w)) rfl (show mz_in (nI jxa) 4 = true from sm_inN rfl (show jxa < 4 by omega) (by decide)) ?_
                  rw [show (nI jxa : Int32).toNatClampNeg = jxa from sm_clN rfl (show jxa < 2 ^ 31 by omega)]
                  rw [ezz14]
                  refine mz_go 1 (c' := (if (nI zz14) < 1 then 42 else 26, [some (.ref 60), some (.int (nI jxa)), some (.int (nI jxb)), some (.int 1)], [], w)) rfl ?_
                  refine mz_ifF (show ¬ ((nI zz14) < 1) from (sm_nltN rfl rfl (show 1 ≤ zz14 by omega) (show zz14 < 2 ^ 31 by omega))) ?_
                  refine mz_go 4 (c' := (32, [some (.ref 60), some (.int (nI jxa)), some (.int (nI jxb)), some (.int 1)], [.int (nI jxa), .ref 62, .int (nI jxb)], w)) rfl ?_
                  refine mz_arr (c' := (33, [some (.ref 60), some (.int (nI jxa)), some (.int (nI jxb)), some (.int 1)], [.int (w 62 ((nI jxa).toNatClampNeg)), .int (nI jxb)], w)) rfl (show mz_in (nI jxa) 4 = true from sm_inN rfl (show jxa < 4 by omega) (by decide)) ?_
                  rw [show (nI jxa : Int32).toNatClampNeg = jxa from sm_clN rfl (show jxa < 2 ^ 31 by omega)]
                  rw [ezz14]
                  refine mz_go 3 (c' := (if ((nI zz14) - 1) < (nI jxb) then 42 else 38, [some (.ref 60), some (.int (nI jxa)), some (.int (nI jxb)), some (.int 1)], [], w)) rfl ?_
                  refine mz_ifF (show ¬ (((nI zz14) - 1) < (nI jxb)) from (sm_nltN (sm_subN (a := zz14) (b := 1) rfl rfl (by omega)) rfl (show jxb ≤ (zz14 - 1) by omega) (show (zz14 - 1) < 2 ^ 31 by omega))) ?_
                  refine mz_go 2 (c' := (43, [some (.ref 60), some (.int (nI jxa)), some (.int (nI jxb)), some (.int 1)], [.int 1], w)) rfl ?_
                  exact mz_ret rfl
                refine mz_go 4 (c' := (15, [some (.ref 60), some (.int (nI jxa)), some (.int (nI jxb)), some (.int xc), none], [.int (nI jxa), .ref 61], w)) rfl ?_
                refine mz_arr (c' := (16, [some (.ref 60), some (.int (nI jxa)), some (.int (nI jxb)), some (.int xc), none], [.int (w 61 ((nI jxa).toNatClampNeg))], w)) rfl (show mz_in (nI jxa) 4 = true from sm_inN rfl (show jxa < 4 by omega) (by decide)) ?_
                rw [show (nI jxa : Int32).toNatClampNeg = jxa from sm_clN rfl (show jxa < 2 ^ 31 by omega)]
                rw [o3]
                refine mz_go 15 (c' := (53, [some (.ref 60), some (.int (nI jxa)), some (.int (nI jxb)), some (.int xc), some (.int 32)], [.int xc, .int (((nI jxa) * 24) + (nI jxb)), .ref 63], w)) rfl ?_
                refine mz_arr (c' := (54, [some (.ref 60), some (.int (nI jxa)), some (.int (nI jxb)), some (.int xc), some (.int 32)], [], mz_up w 63 ((((nI jxa) * 24) + (nI jxb)).toNatClampNeg) xc)) rfl (show mz_in (((nI jxa) * 24) + (nI jxb)) 96 = true from sm_inN (sm_addN (sm_mulN rfl rfl) rfl) (show ((jxa * 24) + jxb) < 96 by omega) (by decide)) ?_
                rw [show (((nI jxa) * 24) + (nI jxb) : Int32).toNatClampNeg = ((jxa * 24) + jxb) from sm_clN (sm_addN (sm_mulN rfl rfl) rfl) (show ((jxa * 24) + jxb) < 2 ^ 31 by omega)]
                exact mz_ret rfl
              refine mz_goP 1 (c' := (70, [some (.ref 0), some (.int (nI jxa)), some (.int (nI jxb)), some (.int xc)], [.int 1], mz_up w 63 ((jxa * 24) + jxb) xc)) rfl ?_
              refine mz_retP (r := (some (.int (1)), mz_up w 63 ((jxa * 24) + jxb) xc)) rfl ⟨1, rfl, ?_⟩
              refine mz_goP 1 (c' := (1, [some (.ref 65), some (.int (nI jxa)), some (.int (nI jxb)), some (.int xc), none], [.int (nI jxa)], mz_up w 63 ((jxa * 24) + jxb) xc)) rfl ?_
              refine mz_doPQ (R := mz_r219) (as := [.int (nI jxa)]) (rest := []) (r1 := some (.int 1)) (m1 := mz_up w 63 ((jxa * 24) + jxb) xc) mz_t219 mz_v219 rfl rfl rfl rfl rfl ⟨?_, rfl⟩ ?_
              · refine mz_go 3 (c' := (3, [some (.int (nI jxa))], [.int 3, .int 0, .int (nI jxa)], mz_up w 63 ((jxa * 24) + jxb) xc)) rfl ?_
                refine mz_doQ (R := mz_r128) (as := [.int (nI jxa), .int 0, .int 3]) (rest := []) (r1 := some (.int 1)) (m1 := mz_up w 63 ((jxa * 24) + jxb) xc) mz_t128 mz_v128 rfl rfl rfl rfl rfl ((ct_in1 (m := mz_up w 63 ((jxa * 24) + jxb) xc) (v := nI jxa) (a := 0) (b := 3) q1 (show ¬ (3 < (nI jxa)) from (sm_nltN rfl rfl (show jxa ≤ 3 by omega) (show 3 < 2 ^ 31 by omega)))).deep (by decide)) ?_
                exact mz_ret rfl
              refine mz_goP 4 (c' := (18, [some (.ref 65), some (.int (nI jxa)), some (.int (nI jxb)), some (.int xc), none], [.int (nI jxa), .ref 75], mz_up w 63 ((jxa * 24) + jxb) xc)) rfl ?_
              refine mz_arrP (c' := (19, [some (.ref 65), some (.int (nI jxa)), some (.int (nI jxb)), some (.int xc), none], [.int (w 75 ((nI jxa).toNatClampNeg))], mz_up w 63 ((jxa * 24) + jxb) xc)) rfl (show mz_in (nI jxa) 4 = true from sm_inN rfl (show jxa < 4 by omega) (by decide)) ?_
              rw [show (nI jxa : Int32).toNatClampNeg = jxa from sm_clN rfl (show jxa < 2 ^ 31 by omega)]
              rw [show w 75 jxa = w 61 jxa from (hsh jxa (by omega)).2.2.1]
              rw [o3]
              refine mz_goP 6 (c' := (35, [some (.ref 65), some (.int (nI jxa)), some (.int (nI jxb)), some (.int xc), none], [.int (nI jxa), .ref 76, .int 0, .int (nI jxb)], mz_up w 63 ((jxa * 24) + jxb) xc)) rfl ?_
              refine mz_arrP (c' := (36, [some (.ref 65), some (.int (nI jxa)), some (.int (nI jxb)), some (.int xc), none], [.int (w 76 ((nI jxa).toNatClampNeg)), .int 0, .int (nI jxb)], mz_up w 63 ((jxa * 24) + jxb) xc)) rfl (show mz_in (nI jxa) 4 = true from sm_inN rfl (show jxa < 4 by omega) (by decide)) ?_
              rw [show (nI jxa : Int32).toNatClampNeg = jxa from sm_clN rfl (show jxa < 2 ^ 31 by omega)]
              rw [show w 76 jxa = w 62 jxa from (hsh jxa (by omega)).2.2.2]
              rw [ezz14]
              refine mz_goP 2 (c' := (38, [some (.ref 65), some (.int (nI jxa)), some (.int (nI jxb)), some (.int xc), none], [.int ((nI zz14) - 1), .int 0, .int (nI jxb)], mz_up w 63 ((jxa * 24) + jxb) xc)) rfl ?_
              refine mz_doPQ (R := mz_r128) (as := [.int (nI jxb), .int 0, .int ((nI zz14) - 1)]) (rest := []) (r1 := some (.int 1)) (m1 := mz_up w 63 ((jxa * 24) + jxb) xc) mz_t128 mz_v128 rfl rfl rfl rfl rfl ((ct_in1 (m := mz_up w 63 ((jxa * 24) + jxb) xc) (v := nI jxb) (a := 0) (b := (nI zz14) - 1) q17 (show ¬ (((nI zz14) - 1) < (nI jxb)) from (sm_nltN (sm_subN (a := zz14) (b := 1) rfl rfl (by omega)) rfl (show jxb ≤ (zz14 - 1) by omega) (show (zz14 - 1) < 2 ^ 31 by omega)))).deep (by decide)) ?_
              refine mz_goP 5 (c' := (57, [some (.ref 65), some (.int (nI jxa)), some (.int (nI jxb)), some (.int xc), none], [.int (nI jxa), .ref 75, .int 32], mz_up w 63 ((jxa * 24) + jxb) xc)) rfl ?_
              refine mz_arrP (c' := (58, [some (.ref 65), some (.int (nI jxa)), some (.int (nI jxb)), some (.int xc), none], [.int (w 75 ((nI jxa).toNatClampNeg)), .int 32], mz_up w 63 ((jxa * 24) + jxb) xc)) rfl (show mz_in (nI jxa) 4 = true from sm_inN rfl (show jxa < 4 by omega) (by decide)) ?_
              rw [show (nI jxa : Int32).toNatClampNeg = jxa from sm_clN rfl (show jxa < 2 ^ 31 by omega)]
              rw [show w 75 jxa = w 61 jxa from (hsh jxa (by omega)).2.2.1]
              rw [o3]
              refine mz_goP 14 (c' := (78, [some (.ref 65), some (.int (nI jxa)), some (.int (nI jxb)), some (.int xc), some (.int 0)], [.int ((xc <<< ((0 : Int32) &&& 31)) >>> ((0 : Int32) &&& 31)), .int ((24 * (nI jxa)) + (nI jxb)), .ref 77], mz_up w 63 ((jxa * 24) + jxb) xc)) rfl ?_
              rw [sm_sh0 xc]
              refine mz_arrP (c' := (79, [some (.ref 65), some (.int (nI jxa)), some (.int (nI jxb)), some (.int xc), some (.int 0)], [], mz_up (mz_up w 63 ((jxa * 24) + jxb) xc) 77 (((24 * (nI jxa)) + (nI jxb)).toNatClampNeg) xc)) rfl (show mz_in ((24 * (nI jxa)) + (nI jxb)) 96 = true from sm_inN (sm_addN (sm_mulN rfl rfl) rfl) (show ((24 * jxa) + jxb) < 96 by omega) (by decide)) ?_
              rw [show ((24 * (nI jxa)) + (nI jxb) : Int32).toNatClampNeg = ((24 * jxa) + jxb) from sm_clN (sm_addN (sm_mulN rfl rfl) rfl) (show ((24 * jxa) + jxb) < 2 ^ 31 by omega)]
              refine mz_goP 1 (c' := (80, [some (.ref 65), some (.int (nI jxa)), some (.int (nI jxb)), some (.int xc), some (.int 0)], [.int 1], mz_up (mz_up w 63 ((jxa * 24) + jxb) xc) 77 ((24 * jxa) + jxb) xc)) rfl ?_
              refine mz_retP (r := (some (.int (1)), mz_up (mz_up w 63 ((jxa * 24) + jxb) xc) 77 ((24 * jxa) + jxb) xc)) rfl ⟨1, rfl, ?_, rfl⟩
              show sm_I (n + 1) (mz_up (mz_up w 63 ((jxa * 24) + jxb) xc) 77 ((24 * jxa) + jxb) xc)
              obtain ⟨-, ⟨d1, d2, d3, ⟨d4, d4b, d4c⟩, d5, d6, d7, d8⟩, da, db, dc⟩ := hI2
              exact ⟨hn, ⟨d1, d2, d3, ⟨d4, d4b, d4c⟩, d5, d6, d7, d8⟩, ⟨da.1, sm_putted (show ((jxa * 24) + jxb) = ((24 * jxa) + jxb) by omega) da.2 (fun i => by rw [mz_up_ne (show (63 : Nat) ≠ 77 by decide), mz_up_eq]) (fun i => by rw [mz_up_eq, mz_up_ne (show (77 : Nat) ≠ 63 by decide)])⟩, db, sm_cc_of (fun i h1 h2 => by simp only [mz_up_ne (show i ≠ 63 by omega), mz_up_ne (show i ≠ 77 by omega)]) dc⟩
