set_option maxHeartbeats 4000000 in
set_option maxRecDepth 100000 in
theorem sw_share {n : Nat} {w : mz_M} (hI : sm_I n w) (xa : Int32) : ∃ v m', mz_Me 100 mz_r87 [.ref 0, .int xa] w (some (.int v)) m' ∧ sm_Sc w m' := by
  have hI2 := hI
  obtain ⟨hn0, ⟨-, ⟨hr80, hr5, hrr⟩, ⟨⟨TT, hTT, h81, h661⟩, htp⟩, ⟨⟨T0, hT0, hU0, hV0, -⟩, ⟨T1, hT1, hU1, hV1, -⟩, ⟨T2, hT2, hU2, hV2, -⟩⟩, ⟨hbx, hby, hbl⟩, ⟨⟨WW, HH, hWW, hHH, hWH, h202, h203, h6660, h6661⟩, h6662, h6663, h6664, hpc⟩, ⟨hth, h66160, hthr⟩, ⟨⟨AA, hAA, h111, h662⟩, h663, hwt⟩⟩, ⟨hsh, hsn⟩, ⟨hcb1, hcb2⟩, ⟨JJ, hJJ, h07, h652, hkept⟩⟩ := hI
  obtain ⟨N, hw, hr2, h660, -, -, h6615⟩ := sm_world hI2
  have hw2 := hw
  obtain ⟨hN, h4, hpb, -, -⟩ := hw2
  have hT60a := sm_T60 hV0
  have hT60b := sm_T60 hV1
  have hT60c := sm_T60 hV2
  obtain ⟨B1, hB1, e571⟩ := sm_Nof (by decide) hcb1
  obtain ⟨B2, hB2, e6519⟩ := sm_Nof (by decide) hcb2
  exact xw_share hw hN h4 hr5 hr80 hWW hHH hWH h202 h203 hT2 hV2 xa
set_option maxHeartbeats 4000000 in
set_option maxRecDepth 100000 in
theorem sr_share {n : Nat} {w : mz_M} (hI : sm_I n w) (xa : Int32) : ∃ v m', mz_Me 100 mz_r194 [.ref 65, .int xa] w (some (.int v)) m' ∧ sm_Sc w m' := by
  have hI2 := hI
  obtain ⟨hn0, ⟨-, ⟨hr80, hr5, hrr⟩, ⟨⟨TT, hTT, h81, h661⟩, htp⟩, ⟨⟨T0, hT0, hU0, hV0, -⟩, ⟨T1, hT1, hU1, hV1, -⟩, ⟨T2, hT2, hU2, hV2, -⟩⟩, ⟨hbx, hby, hbl⟩, ⟨⟨WW, HH, hWW, hHH, hWH, h202, h203, h6660, h6661⟩, h6662, h6663, h6664, hpc⟩, ⟨hth, h66160, hthr⟩, ⟨⟨AA, hAA, h111, h662⟩, h663, hwt⟩⟩, ⟨hsh, hsn⟩, ⟨hcb1, hcb2⟩, ⟨JJ, hJJ, h07, h652, hkept⟩⟩ := hI
  obtain ⟨N, hw, hr2, h660, -, -, h6615⟩ := sm_world hI2
  have hw2 := hw
  obtain ⟨hN, h4, hpb, -, -⟩ := hw2
  have hT60a := sm_T60 hV0
  have hT60b := sm_T60 hV1
  have hT60c := sm_T60 hV2
  obtain ⟨B1, hB1, e571⟩ := sm_Nof (by decide) hcb1
  obtain ⟨B2, hB2, e6519⟩ := sm_Nof (by decide) hcb2
  exact xr_share hw hN hr5 hr80 hr2 h660 h6615 hWW hHH hWH h6660 h6661 hT2 hU2 hV2 xa
set_option maxHeartbeats 4000000 in
set_option maxRecDepth 100000 in
theorem sc_share {n : Nat} (hn : n < 64) {w : mz_M} (hI : sm_I n w) (xa : Int32) : ∃ v1 v2 m1 m2, mz_Me 100 mz_r87 [.ref 0, .int xa] w (some (.int v1)) m1 ∧ mz_Me 100 mz_r194 [.ref 65, .int xa] m1 (some (.int v2)) m2 ∧ sm_I (n + 1) m2 := by
  obtain ⟨v1, m1, E1, S1⟩ := sw_share hI xa
  obtain ⟨v2, m2, E2, S2⟩ := sr_share (sm_I_Sc hI S1) xa
  exact ⟨v1, v2, m1, m2, E1, E2, sm_I_Sc1 hn hI (sm_Sc_tr S1 S2)⟩
set_option maxHeartbeats 4000000 in
set_option maxRecDepth 100000 in
theorem sw_edge {n : Nat} {w : mz_M} (hI : sm_I n w) (xa : Int32) (xb : Int32) : ∃ v m', mz_Me 100 mz_r88 [.ref 0, .int xa, .int xb] w (some (.int v)) m' ∧ sm_Sc w m' := by
  have hI2 := hI
  obtain ⟨hn0, ⟨-, ⟨hr80, hr5, hrr⟩, ⟨⟨TT, hTT, h81, h661⟩, htp⟩, ⟨⟨T0, hT0, hU0, hV0, -⟩, ⟨T1, hT1, hU1, hV1, -⟩, ⟨T2, hT2, hU2, hV2, -⟩⟩, ⟨hbx, hby, hbl⟩, ⟨⟨WW, HH, hWW, hHH, hWH, h202, h203, h6660, h6661⟩, h6662, h6663, h6664, hpc⟩, ⟨hth, h66160, hthr⟩, ⟨⟨AA, hAA, h111, h662⟩, h663, hwt⟩⟩, ⟨hsh, hsn⟩, ⟨hcb1, hcb2⟩, ⟨JJ, hJJ, h07, h652, hkept⟩⟩ := hI
  obtain ⟨N, hw, hr2, h660, -, -, h6615⟩ := sm_world hI2
  have hw2 := hw
  obtain ⟨hN, h4, hpb, -, -⟩ := hw2
  have hT60a := sm_T60 hV0
  have hT60b := sm_T60 hV1
  have hT60c := sm_T60 hV2
  obtain ⟨B1, hB1, e571⟩ := sm_Nof (by decide) hcb1
  obtain ⟨B2, hB2, e6519⟩ := sm_Nof (by decide) hcb2
  exact xw_edge hw hN h4 hr5 hr80 hWW hHH hWH h202 h203 hT2 hV2 xa xb
set_option maxHeartbeats 4000000 in
set_option maxRecDepth 100000 in
theorem sr_edge {n : Nat} {w : mz_M} (hI : sm_I n w) (xa : Int32) (xb : Int32) : ∃ v m', mz_Me 100 mz_r197 [.ref 65, .int xa, .int xb] w (some (.int v)) m' ∧ sm_Sc w m' := by
  have hI2 := hI
  obtain ⟨hn0, ⟨-, ⟨hr80, hr5, hrr⟩, ⟨⟨TT, hTT, h81, h661⟩, htp⟩, ⟨⟨T0, hT0, hU0, hV0, -⟩, ⟨T1, hT1, hU1, hV1, -⟩, ⟨T2, hT2, hU2, hV2, -⟩⟩, ⟨hbx, hby, hbl⟩, ⟨⟨WW, HH, hWW, hHH, hWH, h202, h203, h6660, h6661⟩, h6662, h6663, h6664, hpc⟩, ⟨hth, h66160, hthr⟩, ⟨⟨AA, hAA, h111, h662⟩, h663, hwt⟩⟩, ⟨hsh, hsn⟩, ⟨hcb1, hcb2⟩, ⟨JJ, hJJ, h07, h652, hkept⟩⟩ := hI
  obtain ⟨N, hw, hr2, h660, -, -, h6615⟩ := sm_world hI2
  have hw2 := hw
  obtain ⟨hN, h4, hpb, -, -⟩ := hw2
  have hT60a := sm_T60 hV0
  have hT60b := sm_T60 hV1
  have hT60c := sm_T60 hV2
  obtain ⟨B1, hB1, e571⟩ := sm_Nof (by decide) hcb1
  obtain ⟨B2, hB2, e6519⟩ := sm_Nof (by decide) hcb2
  exact xr_edge hw hN hr5 hr80 hr2 h660 h6615 hWW hHH hWH h6660 h6661 hT2 hU2 hV2 xa xb
set_option maxHeartbeats 4000000 in
set_option maxRecDepth 100000 in
theorem sc_edge {n : Nat} (hn : n < 64) {w : mz_M} (hI : sm_I n w) (xa : Int32) (xb : Int32) : ∃ v1 v2 m1 m2, mz_Me 100 mz_r88 [.ref 0, .int xa, .int xb] w (some (.int v1)) m1 ∧ mz_Me 100 mz_r197 [.ref 65, .int xa, .int xb] m1 (some (.int v2)) m2 ∧ sm_I (n + 1) m2 := by
  obtain ⟨v1, m1, E1, S1⟩ := sw_edge hI xa xb
  obtain ⟨v2, m2, E2, S2⟩ := sr_edge (sm_I_Sc hI S1) xa xb
  exact ⟨v1, v2, m1, m2, E1, E2, sm_I_Sc1 hn hI (sm_Sc_tr S1 S2)⟩
set_option maxHeartbeats 4000000 in
set_option maxRecDepth 100000 in
theorem sw_seen {n : Nat} {w : mz_M} (hI : sm_I n w) (xa : Int32) : ∃ v m', mz_Me 100 mz_r89 [.ref 0, .int xa] w (some (.int v)) m' ∧ sm_Sc w m' := by
  have hI2 := hI
  obtain ⟨hn0, ⟨-, ⟨hr80, hr5, hrr⟩, ⟨⟨TT, hTT, h81, h661⟩, htp⟩, ⟨⟨T0, hT0, hU0, hV0, -⟩, ⟨T1, hT1, hU1, hV1, -⟩, ⟨T2, hT2, hU2, hV2, -⟩⟩, ⟨hbx, hby, hbl⟩, ⟨⟨WW, HH, hWW, hHH, hWH, h202, h203, h6660, h6661⟩, h6662, h6663, h6664, hpc⟩, ⟨hth, h66160, hthr⟩, ⟨⟨AA, hAA, h111, h662⟩, h663, hwt⟩⟩, ⟨hsh, hsn⟩, ⟨hcb1, hcb2⟩, ⟨JJ, hJJ, h07, h652, hkept⟩⟩ := hI
  obtain ⟨N, hw, hr2, h660, -, -, h6615⟩ := sm_world hI2
  have hw2 := hw
  obtain ⟨hN, h4, hpb, -, -⟩ := hw2
  have hT60a := sm_T60 hV0
  have hT60b := sm_T60 hV1
  have hT60c := sm_T60 hV2
  obtain ⟨B1, hB1, e571⟩ := sm_Nof (by decide) hcb1
  obtain ⟨B2, hB2, e6519⟩ := sm_Nof (by decide) hcb2
  exact xw_seen hw hN h4 hr5 hr80 hWW hHH hWH h202 h203 hT2 hV2 xa
set_option maxHeartbeats 4000000 in
set_option maxRecDepth 100000 in
theorem sr_seen {n : Nat} {w : mz_M} (hI : sm_I n w) (xa : Int32) : ∃ v m', mz_Me 100 mz_r199 [.ref 65, .int xa] w (some (.int v)) m' ∧ sm_Sc w m' := by
  have hI2 := hI
  obtain ⟨hn0, ⟨-, ⟨hr80, hr5, hrr⟩, ⟨⟨TT, hTT, h81, h661⟩, htp⟩, ⟨⟨T0, hT0, hU0, hV0, -⟩, ⟨T1, hT1, hU1, hV1, -⟩, ⟨T2, hT2, hU2, hV2, -⟩⟩, ⟨hbx, hby, hbl⟩, ⟨⟨WW, HH, hWW, hHH, hWH, h202, h203, h6660, h6661⟩, h6662, h6663, h6664, hpc⟩, ⟨hth, h66160, hthr⟩, ⟨⟨AA, hAA, h111, h662⟩, h663, hwt⟩⟩, ⟨hsh, hsn⟩, ⟨hcb1, hcb2⟩, ⟨JJ, hJJ, h07, h652, hkept⟩⟩ := hI
  obtain ⟨N, hw, hr2, h660, -, -, h6615⟩ := sm_world hI2
  have hw2 := hw
  obtain ⟨hN, h4, hpb, -, -⟩ := hw2
  have hT60a := sm_T60 hV0
  have hT60b := sm_T60 hV1
  have hT60c := sm_T60 hV2
  obtain ⟨B1, hB1, e571⟩ := sm_Nof (by decide) hcb1
  obtain ⟨B2, hB2, e6519⟩ := sm_Nof (by decide) hcb2
  exact xr_seen hw hN hr5 hr80 hr2 h660 h6615 hWW hHH hWH h6660 h6661 hT2 hU2 hV2 xa
set_option maxHeartbeats 4000000 in
set_option maxRecDepth 100000 in
theorem sc_seen {n : Nat} (hn : n < 64) {w : mz_M} (hI : sm_I n w) (xa : Int32) : ∃ v1 v2 m1 m2, mz_Me 100 mz_r89 [.ref 0, .int xa] w (some (.int v1)) m1 ∧ mz_Me 100 mz_r199 [.ref 65, .int xa] m1 (some (.int v2)) m2 ∧ sm_I (n + 1) m2 := by
  obtain ⟨v1, m1, E1, S1⟩ := sw_seen hI xa
  obtain ⟨v2, m2, E2, S2⟩ := sr_seen (sm_I_Sc hI S1) xa
  exact ⟨v1, v2, m1, m2, E1, E2, sm_I_Sc1 hn hI (sm_Sc_tr S1 S2)⟩
set_option maxHeartbeats 4000000 in
set_option maxRecDepth 100000 in
theorem sw_sure {n : Nat} {w : mz_M} (hI : sm_I n w) (xa : Int32) (xb : Int32) (xc : Int32) : ∃ v m', mz_Me 100 mz_r90 [.ref 0, .int xa, .int xb, .int xc] w (some (.int v)) m' ∧ sm_Sc w m' := by
  have hI2 := hI
  obtain ⟨hn0, ⟨-, ⟨hr80, hr5, hrr⟩, ⟨⟨TT, hTT, h81, h661⟩, htp⟩, ⟨⟨T0, hT0, hU0, hV0, -⟩, ⟨T1, hT1, hU1, hV1, -⟩, ⟨T2, hT2, hU2, hV2, -⟩⟩, ⟨hbx, hby, hbl⟩, ⟨⟨WW, HH, hWW, hHH, hWH, h202, h203, h6660, h6661⟩, h6662, h6663, h6664, hpc⟩, ⟨hth, h66160, hthr⟩, ⟨⟨AA, hAA, h111, h662⟩, h663, hwt⟩⟩, ⟨hsh, hsn⟩, ⟨hcb1, hcb2⟩, ⟨JJ, hJJ, h07, h652, hkept⟩⟩ := hI
  obtain ⟨N, hw, hr2, h660, -, -, h6615⟩ := sm_world hI2
  have hw2 := hw
  obtain ⟨hN, h4, hpb, -, -⟩ := hw2
  have hT60a := sm_T60 hV0
  have hT60b := sm_T60 hV1
  have hT60c := sm_T60 hV2
  obtain ⟨B1, hB1, e571⟩ := sm_Nof (by decide) hcb1
  obtain ⟨B2, hB2, e6519⟩ := sm_Nof (by decide) hcb2
  exact xw_sure hw hN h4 hr5 hr80 hWW hHH hWH h202 h203 hT2 hV2 xa xb xc
set_option maxHeartbeats 4000000 in
set_option maxRecDepth 100000 in
theorem sr_sure {n : Nat} {w : mz_M} (hI : sm_I n w) (xa : Int32) (xb : Int32) (xc : Int32) : ∃ v m', mz_Me 100 mz_r200 [.ref 65, .int xa, .int xb, .int xc] w (some (.int v)) m' ∧ sm_Sc w m' := by
  have hI2 := hI
  obtain ⟨hn0, ⟨-, ⟨hr80, hr5, hrr⟩, ⟨⟨TT, hTT, h81, h661⟩, htp⟩, ⟨⟨T0, hT0, hU0, hV0, -⟩, ⟨T1, hT1, hU1, hV1, -⟩, ⟨T2, hT2, hU2, hV2, -⟩⟩, ⟨hbx, hby, hbl⟩, ⟨⟨WW, HH, hWW, hHH, hWH, h202, h203, h6660, h6661⟩, h6662, h6663, h6664, hpc⟩, ⟨hth, h66160, hthr⟩, ⟨⟨AA, hAA, h111, h662⟩, h663, hwt⟩⟩, ⟨hsh, hsn⟩, ⟨hcb1, hcb2⟩, ⟨JJ, hJJ, h07, h652, hkept⟩⟩ := hI
  obtain ⟨N, hw, hr2, h660, -, -, h6615⟩ := sm_world hI2
  have hw2 := hw
  obtain ⟨hN, h4, hpb, -, -⟩ := hw2
  have hT60a := sm_T60 hV0
  have hT60b := sm_T60 hV1
  have hT60c := sm_T60 hV2
  obtain ⟨B1, hB1, e571⟩ := sm_Nof (by decide) hcb1
  obtain ⟨B2, hB2, e6519⟩ := sm_Nof (by decide) hcb2
  exact xr_sure hw hN hr5 hr80 hr2 h660 h6615 hWW hHH hWH h6660 h6661 hT2 hU2 hV2 xa xb xc
set_option maxHeartbeats 4000000 in
set_option maxRecDepth 100000 in
theorem sc_sure {n : Nat} (hn : n < 64) {w : mz_M} (hI : sm_I n w) (xa : Int32) (xb : Int32) (xc : Int32) : ∃ v1 v2 m1 m2, mz_Me 100 mz_r90 [.ref 0, .int xa, .int xb, .int xc] w (some (.int v1)) m1 ∧ mz_Me 100 mz_r200 [.ref 65, .int xa, .int xb, .int xc] m1 (some (.int v2)) m2 ∧ sm_I (n + 1) m2 := by
  obtain ⟨v1, m1, E1, S1⟩ := sw_sure hI xa xb xc
  obtain ⟨v2, m2, E2, S2⟩ := sr_sure (sm_I_Sc hI S1) xa xb xc
  exact ⟨v1, v2, m1, m2, E1, E2, sm_I_Sc1 hn hI (sm_Sc_tr S1 S2)⟩
set_option maxHeartbeats 4000000 in
set_option maxRecDepth 100000 in
theorem sw_fair {n : Nat} {w : mz_M} (hI : sm_I n w) (xa : Int32) : ∃ v m', mz_Me 100 mz_r92 [.ref 0, .int xa] w (some (.int v)) m' ∧ sm_Sc w m' := by
  have hI2 := hI
  obtain ⟨hn0, ⟨-, ⟨hr80, hr5, hrr⟩, ⟨⟨TT, hTT, h81, h661⟩, htp⟩, ⟨⟨T0, hT0, hU0, hV0, -⟩, ⟨T1, hT1, hU1, hV1, -⟩, ⟨T2, hT2, hU2, hV2, -⟩⟩, ⟨hbx, hby, hbl⟩, ⟨⟨WW, HH, hWW, hHH, hWH, h202, h203, h6660, h6661⟩, h6662, h6663, h6664, hpc⟩, ⟨hth, h66160, hthr⟩, ⟨⟨AA, hAA, h111, h662⟩, h663, hwt⟩⟩, ⟨hsh, hsn⟩, ⟨hcb1, hcb2⟩, ⟨JJ, hJJ, h07, h652, hkept⟩⟩ := hI
  obtain ⟨N, hw, hr2, h660, -, -, h6615⟩ := sm_world hI2
  have hw2 := hw
  obtain ⟨hN, h4, hpb, -, -⟩ := hw2
  have hT60a := sm_T60 hV0
  have hT60b := sm_T60 hV1
  have hT60c := sm_T60 hV2
  obtain ⟨B1, hB1, e571⟩ := sm_Nof (by decide) hcb1
  obtain ⟨B2, hB2, e6519⟩ := sm_Nof (by decide) hcb2
  exact xw_fair hw hN h4 hr5 hr80 hWW hHH hWH h202 h203 hT2 hV2 xa
set_option maxHeartbeats 4000000 in
set_option maxRecDepth 100000 in
theorem sr_fair {n : Nat} {w : mz_M} (hI : sm_I n w) (xa : Int32) : ∃ v m', mz_Me 100 mz_r202 [.ref 65, .int xa] w (some (.int v)) m' ∧ sm_Sc w m' := by
  have hI2 := hI
  obtain ⟨hn0, ⟨-, ⟨hr80, hr5, hrr⟩, ⟨⟨TT, hTT, h81, h661⟩, htp⟩, ⟨⟨T0, hT0, hU0, hV0, -⟩, ⟨T1, hT1, hU1, hV1, -⟩, ⟨T2, hT2, hU2, hV2, -⟩⟩, ⟨hbx, hby, hbl⟩, ⟨⟨WW, HH, hWW, hHH, hWH, h202, h203, h6660, h6661⟩, h6662, h6663, h6664, hpc⟩, ⟨hth, h66160, hthr⟩, ⟨⟨AA, hAA, h111, h662⟩, h663, hwt⟩⟩, ⟨hsh, hsn⟩, ⟨hcb1, hcb2⟩, ⟨JJ, hJJ, h07, h652, hkept⟩⟩ := hI
  obtain ⟨N, hw, hr2, h660, -, -, h6615⟩ := sm_world hI2
  have hw2 := hw
  obtain ⟨hN, h4, hpb, -, -⟩ := hw2
  have hT60a := sm_T60 hV0
  have hT60b := sm_T60 hV1
  have hT60c := sm_T60 hV2
  obtain ⟨B1, hB1, e571⟩ := sm_Nof (by decide) hcb1
  obtain ⟨B2, hB2, e6519⟩ := sm_Nof (by decide) hcb2
  exact xr_fair hw hN hr5 hr80 hr2 h660 h6615 hWW hHH hWH h6660 h6661 hT2 hU2 hV2 xa
set_option maxHeartbeats 4000000 in
set_option maxRecDepth 100000 in
theorem sc_fair {n : Nat} (hn : n < 64) {w : mz_M} (hI : sm_I n w) (xa : Int32) : ∃ v1 v2 m1 m2, mz_Me 100 mz_r92 [.ref 0, .int xa] w (some (.int v1)) m1 ∧ mz_Me 100 mz_r202 [.ref 65, .int xa] m1 (some (.int v2)) m2 ∧ sm_I (n + 1) m2 := by
  obtain ⟨v1, m1, E1, S1⟩ := sw_fair hI xa
  obtain ⟨v2, m2, E2, S2⟩ := sr_fair (sm_I_Sc hI S1) xa
  exact ⟨v1, v2, m1, m2, E1, E2, sm_I_Sc1 hn hI (sm_Sc_tr S1 S2)⟩
set_option maxHeartbeats 4000000 in
set_option maxRecDepth 100000 in
theorem sw_want {n : Nat} {w : mz_M} (hI : sm_I n w) (xa : Int32) : ∃ v m', mz_Me 100 mz_r93 [.ref 0, .int xa] w (some (.int v)) m' ∧ sm_Sc w m' := by
  have hI2 := hI
  obtain ⟨hn0, ⟨-, ⟨hr80, hr5, hrr⟩, ⟨⟨TT, hTT, h81, h661⟩, htp⟩, ⟨⟨T0, hT0, hU0, hV0, -⟩, ⟨T1, hT1, hU1, hV1, -⟩, ⟨T2, hT2, hU2, hV2, -⟩⟩, ⟨hbx, hby, hbl⟩, ⟨⟨WW, HH, hWW, hHH, hWH, h202, h203, h6660, h6661⟩, h6662, h6663, h6664, hpc⟩, ⟨hth, h66160, hthr⟩, ⟨⟨AA, hAA, h111, h662⟩, h663, hwt⟩⟩, ⟨hsh, hsn⟩, ⟨hcb1, hcb2⟩, ⟨JJ, hJJ, h07, h652, hkept⟩⟩ := hI
  obtain ⟨N, hw, hr2, h660, -, -, h6615⟩ := sm_world hI2
  have hw2 := hw
  obtain ⟨hN, h4, hpb, -, -⟩ := hw2
  have hT60a := sm_T60 hV0
  have hT60b := sm_T60 hV1
  have hT60c := sm_T60 hV2
  obtain ⟨B1, hB1, e571⟩ := sm_Nof (by decide) hcb1
  obtain ⟨B2, hB2, e6519⟩ := sm_Nof (by decide) hcb2
  exact xw_want hw hN h4 hr5 hr80 hWW hHH hWH h202 h203 hT2 hV2 xa
set_option maxHeartbeats 4000000 in
set_option maxRecDepth 100000 in
theorem sr_want {n : Nat} {w : mz_M} (hI : sm_I n w) (xa : Int32) : ∃ v m', mz_Me 100 mz_r204 [.ref 65, .int xa] w (some (.int v)) m' ∧ sm_Sc w m' := by
  have hI2 := hI
  obtain ⟨hn0, ⟨-, ⟨hr80, hr5, hrr⟩, ⟨⟨TT, hTT, h81, h661⟩, htp⟩, ⟨⟨T0, hT0, hU0, hV0, -⟩, ⟨T1, hT1, hU1, hV1, -⟩, ⟨T2, hT2, hU2, hV2, -⟩⟩, ⟨hbx, hby, hbl⟩, ⟨⟨WW, HH, hWW, hHH, hWH, h202, h203, h6660, h6661⟩, h6662, h6663, h6664, hpc⟩, ⟨hth, h66160, hthr⟩, ⟨⟨AA, hAA, h111, h662⟩, h663, hwt⟩⟩, ⟨hsh, hsn⟩, ⟨hcb1, hcb2⟩, ⟨JJ, hJJ, h07, h652, hkept⟩⟩ := hI
  obtain ⟨N, hw, hr2, h660, -, -, h6615⟩ := sm_world hI2
  have hw2 := hw
  obtain ⟨hN, h4, hpb, -, -⟩ := hw2
  have hT60a := sm_T60 hV0
  have hT60b := sm_T60 hV1
  have hT60c := sm_T60 hV2
  obtain ⟨B1, hB1, e571⟩ := sm_Nof (by decide) hcb1
  obtain ⟨B2, hB2, e6519⟩ := sm_Nof (by decide) hcb2
  exact xr_want hw hN hr5 hr80 hr2 h660 h6615 hWW hHH hWH h6660 h6661 hT2 hU2 hV2 xa
set_option maxHeartbeats 4000000 in
set_option maxRecDepth 100000 in
theorem sc_want {n : Nat} (hn : n < 64) {w : mz_M} (hI : sm_I n w) (xa : Int32) : ∃ v1 v2 m1 m2, mz_Me 100 mz_r93 [.ref 0, .int xa] w (some (.int v1)) m1 ∧ mz_Me 100 mz_r204 [.ref 65, .int xa] m1 (some (.int v2)) m2 ∧ sm_I (n + 1) m2 := by
  obtain ⟨v1, m1, E1, S1⟩ := sw_want hI xa
  obtain ⟨v2, m2, E2, S2⟩ := sr_want (sm_I_Sc hI S1) xa
  exact ⟨v1, v2, m1, m2, E1, E2, sm_I_Sc1 hn hI (sm_Sc_tr S1 S2)⟩
set_option maxHeartbeats 4000000 in
set_option maxRecDepth 100000 in
theorem sw_turned {n : Nat} {w : mz_M} (hI : sm_I n w) (xa : Int32) : ∃ v m', mz_Me 100 mz_r91 [.ref 0, .int xa] w (some (.int v)) m' ∧ sm_Sc w m' := by
  have hI2 := hI
  obtain ⟨hn0, ⟨-, ⟨hr80, hr5, hrr⟩, ⟨⟨TT, hTT, h81, h661⟩, htp⟩, ⟨⟨T0, hT0, hU0, hV0, -⟩, ⟨T1, hT1, hU1, hV1, -⟩, ⟨T2, hT2, hU2, hV2, -⟩⟩, ⟨hbx, hby, hbl⟩, ⟨⟨WW, HH, hWW, hHH, hWH, h202, h203, h6660, h6661⟩, h6662, h6663, h6664, hpc⟩, ⟨hth, h66160, hthr⟩, ⟨⟨AA, hAA, h111, h662⟩, h663, hwt⟩⟩, ⟨hsh, hsn⟩, ⟨hcb1, hcb2⟩, ⟨JJ, hJJ, h07, h652, hkept⟩⟩ := hI
  obtain ⟨N, hw, hr2, h660, -, -, h6615⟩ := sm_world hI2
  have hw2 := hw
  obtain ⟨hN, h4, hpb, -, -⟩ := hw2
  have hT60a := sm_T60 hV0
  have hT60b := sm_T60 hV1
  have hT60c := sm_T60 hV2
  obtain ⟨B1, hB1, e571⟩ := sm_Nof (by decide) hcb1
  obtain ⟨B2, hB2, e6519⟩ := sm_Nof (by decide) hcb2
  exact xw_turned hw hN h4 hr5 hr80 hWW hHH hWH h202 h203 hT2 hV2 xa
set_option maxHeartbeats 4000000 in
set_option maxRecDepth 100000 in
theorem sr_turned {n : Nat} {w : mz_M} (hI : sm_I n w) (xa : Int32) : ∃ v m', mz_Me 100 mz_r201 [.ref 65, .int xa] w (some (.int v)) m' ∧ sm_Sc w m' := by
  have hI2 := hI
  obtain ⟨hn0, ⟨-, ⟨hr80, hr5, hrr⟩, ⟨⟨TT, hTT, h81, h661⟩, htp⟩, ⟨⟨T0, hT0, hU0, hV0, -⟩, ⟨T1, hT1, hU1, hV1, -⟩, ⟨T2, hT2, hU2, hV2, -⟩⟩, ⟨hbx, hby, hbl⟩, ⟨⟨WW, HH, hWW, hHH, hWH, h202, h203, h6660, h6661⟩, h6662, h6663, h6664, hpc⟩, ⟨hth, h66160, hthr⟩, ⟨⟨AA, hAA, h111, h662⟩, h663, hwt⟩⟩, ⟨hsh, hsn⟩, ⟨hcb1, hcb2⟩, ⟨JJ, hJJ, h07, h652, hkept⟩⟩ := hI
  obtain ⟨N, hw, hr2, h660, -, -, h6615⟩ := sm_world hI2
  have hw2 := hw
  obtain ⟨hN, h4, hpb, -, -⟩ := hw2
  have hT60a := sm_T60 hV0
  have hT60b := sm_T60 hV1
  have hT60c := sm_T60 hV2
  obtain ⟨B1, hB1, e571⟩ := sm_Nof (by decide) hcb1
  obtain ⟨B2, hB2, e6519⟩ := sm_Nof (by decide) hcb2
  exact xr_turned hw hN hr5 hr80 hr2 h660 h6615 hWW hHH hWH h6660 h6661 hT2 hU2 hV2 (fun i hi => by rw [(hpc i hi).2.1]; exact (hpc i hi).1) xa
set_option maxHeartbeats 4000000 in
set_option maxRecDepth 100000 in
theorem sc_turned {n : Nat} (hn : n < 64) {w : mz_M} (hI : sm_I n w) (xa : Int32) : ∃ v1 v2 m1 m2, mz_Me 100 mz_r91 [.ref 0, .int xa] w (some (.int v1)) m1 ∧ mz_Me 100 mz_r201 [.ref 65, .int xa] m1 (some (.int v2)) m2 ∧ sm_I (n + 1) m2 := by
  obtain ⟨v1, m1, E1, S1⟩ := sw_turned hI xa
  obtain ⟨v2, m2, E2, S2⟩ := sr_turned (sm_I_Sc hI S1) xa
  exact ⟨v1, v2, m1, m2, E1, E2, sm_I_Sc1 hn hI (sm_Sc_tr S1 S2)⟩
