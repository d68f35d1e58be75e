set_option maxHeartbeats 4000000 in
set_option maxRecDepth 100000 in
theorem xr_share {w : mz_M} {N : Nat} (hw : sm_W w N) (hN : N ≤ 6) (hr5 : w 7 5 = 1 ∨ w 7 5 = 2) (hr80 : sm_N 80 (w 7 2)) (hr2 : sm_HR w (w 66)) (h660 : w 66 0 = nI N) (h6615 : w 66 15 = w 7 5) {WW HH : Nat} (hWW : WW ≤ 6) (hHH : HH ≤ 6) (hWH : WW = 0 ↔ HH = 0) (h6660 : w 66 60 = nI WW) (h6661 : w 66 61 = nI HH) {T2 : Nat} (hT2 : w 16 2 = nI T2) (hU2 : w 66 420 = nI T2) (hV2 : T2 = 0 ∨ sm_wf T2 5 (w 17) (w 18)) (xa : Int32) : ∃ v m', mz_Me 100 mz_r194 [.ref 65, .int xa] w (some (.int v)) m' ∧ sm_Sc w m' := by
  have hT60c := sm_T60 hV2
  by_cases q1 : (sm_bI (sm_in xa 0 5)) = 0
  · by_cases q2 : xa = 9
    · by_cases q3 : WW ≤ 0
      · refine ⟨(-1000002), mz_up w 68 2 ((w 68 2) + 1), ⟨?_, rfl⟩, ⟨fun i hi => (by simp only [mz_up_ne (sm_scne hi (r := 68) rfl)]), rfl, rfl⟩⟩
        refine mz_go 1 (c' := (1, [some (.ref 65), some (.int xa)], [.int xa], w)) rfl ?_
        refine mz_doQ (R := mz_r188) (as := [.int xa]) (rest := []) (r1 := some (.int 1)) (m1 := w) mz_t188 mz_v188 rfl rfl rfl rfl rfl ⟨?_, rfl⟩ ?_
        · refine mz_go 3 (c' := (3, [some (.int xa)], [.int 5, .int 0, .int xa], w)) rfl ?_
          refine mz_doQ (R := mz_r128) (as := [.int xa, .int 0, .int 5]) (rest := []) (r1 := some (.int (sm_bI (sm_in xa 0 5)))) (m1 := w) mz_t128 mz_v128 rfl rfl rfl rfl rfl ((ct_in (m := w) xa 0 5).deep (by decide)) ?_
          refine mz_go 1 (c' := (if (sm_bI (sm_in xa 0 5)) = 0 then 9 else 15, [some (.int xa)], [], w)) rfl ?_
          refine mz_ifT q1 ?_
          refine mz_go 3 (c' := (if xa = 9 then 15 else 19, [some (.int xa)], [], w)) rfl ?_
          refine mz_ifT q2 ?_
          refine mz_go 2 (c' := (20, [some (.int xa)], [.int 1], w)) rfl ?_
          exact mz_ret rfl
        refine mz_go 2 (c' := (14, [some (.ref 65), some (.int xa)], [.ref 65], w)) rfl ?_
        refine mz_doQ (R := mz_r185) (as := [.ref 65]) (rest := []) (r1 := some (.int 0)) (m1 := w) mz_t185 mz_v185_65 rfl rfl rfl rfl rfl ⟨?_, rfl⟩ ?_
        · refine mz_go 1 (c' := (1, [some (.ref 65)], [.ref 65], w)) rfl ?_
          refine mz_doQ (R := mz_r183) (as := [.ref 65]) (rest := []) (r1 := some (.int (nI WW))) (m1 := w) mz_t183 mz_v183_65 rfl rfl rfl rfl rfl ⟨?_, rfl⟩ ?_
          · refine mz_go 4 (c' := (7, [some (.ref 65)], [.int (w 66 60)], w)) rfl ?_
            rw [h6660]
            exact mz_ret rfl
          refine mz_go 1 (c' := (if (nI WW) ≤ 0 then 11 else 7, [some (.ref 65)], [], w)) rfl ?_
          refine mz_ifT (show ((nI WW) ≤ 0) from (sm_leN rfl rfl (show WW ≤ 0 by omega) (show 0 < 2 ^ 31 by omega))) ?_
          refine mz_go 1 (c' := (12, [some (.ref 65)], [.int 0], w)) rfl ?_
          exact mz_ret rfl
        refine mz_go 3 (c' := (30, [some (.ref 65), some (.int xa)], [.int 2, .ref 65], w)) rfl ?_
        refine mz_doQ (R := mz_r127) (as := [.ref 65, .int 2]) (rest := []) (r1 := some (.int (-1000002))) (m1 := mz_up w 68 2 ((w 68 2) + 1)) mz_t127 mz_v127_65 rfl rfl rfl rfl rfl ((ct_err2 (m := w)).deep (by decide)) ?_
        exact mz_ret rfl
      · obtain ⟨ve1, Ee1⟩ := xr_sof (m := w) hWW hHH hWH h6660 h6661 xa
        refine ⟨ve1, w, ⟨?_, rfl⟩, ⟨fun _ _ => rfl, rfl, rfl⟩⟩
        refine mz_go 1 (c' := (1, [some (.ref 65), some (.int xa)], [.int xa], w)) rfl ?_
        refine mz_doQ (R := mz_r188) (as := [.int xa]) (rest := []) (r1 := some (.int 1)) (m1 := w) mz_t188 mz_v188 rfl rfl rfl rfl rfl ⟨?_, rfl⟩ ?_
        · refine mz_go 3 (c' := (3, [some (.int xa)], [.int 5, .int 0, .int xa], w)) rfl ?_
          refine mz_doQ (R := mz_r128) (as := [.int xa, .int 0, .int 5]) (rest := []) (r1 := some (.int (sm_bI (sm_in xa 0 5)))) (m1 := w) mz_t128 mz_v128 rfl rfl rfl rfl rfl ((ct_in (m := w) xa 0 5).deep (by decide)) ?_
          refine mz_go 1 (c' := (if (sm_bI (sm_in xa 0 5)) = 0 then 9 else 15, [some (.int xa)], [], w)) rfl ?_
          refine mz_ifT q1 ?_
          refine mz_go 3 (c' := (if xa = 9 then 15 else 19, [some (.int xa)], [], w)) rfl ?_
          refine mz_ifT q2 ?_
          refine mz_go 2 (c' := (20, [some (.int xa)], [.int 1], w)) rfl ?_
          exact mz_ret rfl
        refine mz_go 2 (c' := (14, [some (.ref 65), some (.int xa)], [.ref 65], w)) rfl ?_
        refine mz_doQ (R := mz_r185) (as := [.ref 65]) (rest := []) (r1 := some (.int 1)) (m1 := w) mz_t185 mz_v185_65 rfl rfl rfl rfl rfl ⟨?_, rfl⟩ ?_
        · refine mz_go 1 (c' := (1, [some (.ref 65)], [.ref 65], w)) rfl ?_
          refine mz_doQ (R := mz_r183) (as := [.ref 65]) (rest := []) (r1 := some (.int (nI WW))) (m1 := w) mz_t183 mz_v183_65 rfl rfl rfl rfl rfl ⟨?_, rfl⟩ ?_
          · refine mz_go 4 (c' := (7, [some (.ref 65)], [.int (w 66 60)], w)) rfl ?_
            rw [h6660]
            exact mz_ret rfl
          refine mz_go 1 (c' := (if (nI WW) ≤ 0 then 11 else 7, [some (.ref 65)], [], w)) rfl ?_
          refine mz_ifF (show ¬ ((nI WW) ≤ 0) from (sm_nleN rfl rfl (show 0 < WW by omega) (show WW < 2 ^ 31 by omega))) ?_
          refine mz_go 2 (c' := (12, [some (.ref 65)], [.int 1], w)) rfl ?_
          exact mz_ret rfl
        refine mz_go 3 (c' := (22, [some (.ref 65), some (.int xa)], [.int xa, .ref 65], w)) rfl ?_
        refine mz_doQ (R := mz_r193) (as := [.ref 65, .int xa]) (rest := []) (r1 := some (.int ve1)) (m1 := w) mz_t193 mz_v193_65 rfl rfl rfl rfl rfl (Ee1.deep (by decide)) ?_
        refine mz_go 1 (c' := (33, [some (.ref 65), some (.int xa)], [.int ve1], w)) rfl ?_
        exact mz_ret rfl
    · refine ⟨(-1000001), mz_up w 68 1 ((w 68 1) + 1), ⟨?_, rfl⟩, ⟨fun i hi => (by simp only [mz_up_ne (sm_scne hi (r := 68) rfl)]), rfl, rfl⟩⟩
      refine mz_go 1 (c' := (1, [some (.ref 65), some (.int xa)], [.int xa], w)) rfl ?_
      refine mz_doQ (R := mz_r188) (as := [.int xa]) (rest := []) (r1 := some (.int 0)) (m1 := w) mz_t188 mz_v188 rfl rfl rfl rfl rfl ⟨?_, rfl⟩ ?_
      · refine mz_go 3 (c' := (3, [some (.int xa)], [.int 5, .int 0, .int xa], w)) rfl ?_
        refine mz_doQ (R := mz_r128) (as := [.int xa, .int 0, .int 5]) (rest := []) (r1 := some (.int (sm_bI (sm_in xa 0 5)))) (m1 := w) mz_t128 mz_v128 rfl rfl rfl rfl rfl ((ct_in (m := w) xa 0 5).deep (by decide)) ?_
        refine mz_go 1 (c' := (if (sm_bI (sm_in xa 0 5)) = 0 then 9 else 15, [some (.int xa)], [], w)) rfl ?_
        refine mz_ifT q1 ?_
        refine mz_go 3 (c' := (if xa = 9 then 15 else 19, [some (.int xa)], [], w)) rfl ?_
        refine mz_ifF q2 ?_
        refine mz_go 1 (c' := (20, [some (.int xa)], [.int 0], w)) rfl ?_
        exact mz_ret rfl
      refine mz_go 3 (c' := (9, [some (.ref 65), some (.int xa)], [.int 1, .ref 65], w)) rfl ?_
      refine mz_doQ (R := mz_r127) (as := [.ref 65, .int 1]) (rest := []) (r1 := some (.int (-1000001))) (m1 := mz_up w 68 1 ((w 68 1) + 1)) mz_t127 mz_v127_65 rfl rfl rfl rfl rfl ((ct_err1 (m := w)).deep (by decide)) ?_
      exact mz_ret rfl
  · by_cases q4 : WW ≤ 0
    · refine ⟨(-1000002), mz_up w 68 2 ((w 68 2) + 1), ⟨?_, rfl⟩, ⟨fun i hi => (by simp only [mz_up_ne (sm_scne hi (r := 68) rfl)]), rfl, rfl⟩⟩
      refine mz_go 1 (c' := (1, [some (.ref 65), some (.int xa)], [.int xa], w)) rfl ?_
      refine mz_doQ (R := mz_r188) (as := [.int xa]) (rest := []) (r1 := some (.int 1)) (m1 := w) mz_t188 mz_v188 rfl rfl rfl rfl rfl ⟨?_, rfl⟩ ?_
      · refine mz_go 3 (c' := (3, [some (.int xa)], [.int 5, .int 0, .int xa], w)) rfl ?_
        refine mz_doQ (R := mz_r128) (as := [.int xa, .int 0, .int 5]) (rest := []) (r1 := some (.int 1)) (m1 := w) mz_t128 mz_v128 rfl rfl rfl rfl rfl ((ct_in1 (m := w) (v := xa) (a := 0) (b := 5) (show ¬ (xa < 0) from (sm_in_lo q1)) (show ¬ (5 < xa) from (sm_in_hi q1))).deep (by decide)) ?_
        refine mz_go 3 (c' := (20, [some (.int xa)], [.int 1], w)) rfl ?_
        exact mz_ret rfl
      refine mz_go 2 (c' := (14, [some (.ref 65), some (.int xa)], [.ref 65], w)) rfl ?_
      refine mz_doQ (R := mz_r185) (as := [.ref 65]) (rest := []) (r1 := some (.int 0)) (m1 := w) mz_t185 mz_v185_65 rfl rfl rfl rfl rfl ⟨?_, rfl⟩ ?_
      · refine mz_go 1 (c' := (1, [some (.ref 65)], [.ref 65], w)) rfl ?_
        refine mz_doQ (R := mz_r183) (as := [.ref 65]) (rest := []) (r1 := some (.int (nI WW))) (m1 := w) mz_t183 mz_v183_65 rfl rfl rfl rfl rfl ⟨?_, rfl⟩ ?_
        · refine mz_go 4 (c' := (7, [some (.ref 65)], [.int (w 66 60)], w)) rfl ?_
          rw [h6660]
          exact mz_ret rfl
        refine mz_go 1 (c' := (if (nI WW) ≤ 0 then 11 else 7, [some (.ref 65)], [], w)) rfl ?_
        refine mz_ifT (show ((nI WW) ≤ 0) from (sm_leN rfl rfl (show WW ≤ 0 by omega) (show 0 < 2 ^ 31 by omega))) ?_
        refine mz_go 1 (c' := (12, [some (.ref 65)], [.int 0], w)) rfl ?_
        exact mz_ret rfl
      refine mz_go 3 (c' := (30, [some (.ref 65), some (.int xa)], [.int 2, .ref 65], w)) rfl ?_
      refine mz_doQ (R := mz_r127) (as := [.ref 65, .int 2]) (rest := []) (r1 := some (.int (-1000002))) (m1 := mz_up w 68 2 ((w 68 2) + 1)) mz_t127 mz_v127_65 rfl rfl rfl rfl rfl ((ct_err2 (m := w)).deep (by decide)) ?_
      exact mz_ret rfl
    · obtain ⟨ve1, Ee1⟩ := xr_sof (m := w) hWW hHH hWH h6660 h6661 xa
      refine ⟨ve1, w, ⟨?_, rfl⟩, ⟨fun _ _ => rfl, rfl, rfl⟩⟩
      refine mz_go 1 (c' := (1, [some (.ref 65), some (.int xa)], [.int xa], w)) rfl ?_
      refine mz_doQ (R := mz_r188) (as := [.int xa]) (rest := []) (r1 := some (.int 1)) (m1 := w) mz_t188 mz_v188 rfl rfl rfl rfl rfl ⟨?_, rfl⟩ ?_
      · refine mz_go 3 (c' := (3, [some (.int xa)], [.int 5, .int 0, .int xa], w)) rfl ?_
        refine mz_doQ (R := mz_r128) (as := [.int xa, .int 0, .int 5]) (rest := []) (r1 := some (.int 1)) (m1 := w) mz_t128 mz_v128 rfl rfl rfl rfl rfl ((ct_in1 (m := w) (v := xa) (a := 0) (b := 5) (show ¬ (xa < 0) from (sm_in_lo q1)) (show ¬ (5 < xa) from (sm_in_hi q1))).deep (by decide)) ?_
        refine mz_go 3 (c' := (20, [some (.int xa)], [.int 1], w)) rfl ?_
        exact mz_ret rfl
      refine mz_go 2 (c' := (14, [some (.ref 65), some (.int xa)], [.ref 65], w)) rfl ?_
      refine mz_doQ (R := mz_r185) (as := [.ref 65]) (rest := []) (r1 := some (.int 1)) (m1 := w) mz_t185 mz_v185_65 rfl rfl rfl rfl rfl ⟨?_, rfl⟩ ?_
      · refine mz_go 1 (c' := (1, [some (.ref 65)], [.ref 65], w)) rfl ?_
        refine mz_doQ (R := mz_r183) (as := [.ref 65]) (rest := []) (r1 := some (.int (nI WW))) (m1 := w) mz_t183 mz_v183_65 rfl rfl rfl rfl rfl ⟨?_, rfl⟩ ?_
        · refine mz_go 4 (c' := (7, [some (.ref 65)], [.int (w 66 60)], w)) rfl ?_
          rw [h6660]
          exact mz_ret rfl
        refine mz_go 1 (c' := (if (nI WW) ≤ 0 then 11 else 7, [some (.ref 65)], [], w)) rfl ?_
        refine mz_ifF (show ¬ ((nI WW) ≤ 0) from (sm_nleN rfl rfl (show 0 < WW by omega) (show WW < 2 ^ 31 by omega))) ?_
        refine mz_go 2 (c' := (12, [some (.ref 65)], [.int 1], w)) rfl ?_
        exact mz_ret rfl
      refine mz_go 3 (c' := (22, [some (.ref 65), some (.int xa)], [.int xa, .ref 65], w)) rfl ?_
      refine mz_doQ (R := mz_r193) (as := [.ref 65, .int xa]) (rest := []) (r1 := some (.int ve1)) (m1 := w) mz_t193 mz_v193_65 rfl rfl rfl rfl rfl (Ee1.deep (by decide)) ?_
      refine mz_go 1 (c' := (33, [some (.ref 65), some (.int xa)], [.int ve1], w)) rfl ?_
      exact mz_ret rfl
set_option maxHeartbeats 4000000 in
set_option maxRecDepth 100000 in
theorem xr_edge {w : mz_M} {N : Nat} (hw : sm_W w N) (hN : N ≤ 6) (hr5 : w 7 5 = 1 ∨ w 7 5 = 2) (hr80 : sm_N 80 (w 7 2)) (hr2 : sm_HR w (w 66)) (h660 : w 66 0 = nI N) (h6615 : w 66 15 = w 7 5) {WW HH : Nat} (hWW : WW ≤ 6) (hHH : HH ≤ 6) (hWH : WW = 0 ↔ HH = 0) (h6660 : w 66 60 = nI WW) (h6661 : w 66 61 = nI HH) {T2 : Nat} (hT2 : w 16 2 = nI T2) (hU2 : w 66 420 = nI T2) (hV2 : T2 = 0 ∨ sm_wf T2 5 (w 17) (w 18)) (xa xb : Int32) : ∃ v m', mz_Me 100 mz_r197 [.ref 65, .int xa, .int xb] w (some (.int v)) m' ∧ sm_Sc w m' := by
  have hT60c := sm_T60 hV2
  by_cases q1 : WW ≤ 0
  · refine ⟨(-1000002), mz_up w 68 2 ((w 68 2) + 1), ⟨?_, rfl⟩, ⟨fun i hi => (by simp only [mz_up_ne (sm_scne hi (r := 68) rfl)]), rfl, rfl⟩⟩
    refine mz_go 1 (c' := (1, [some (.ref 65), some (.int xa), some (.int xb)], [.ref 65], w)) rfl ?_
    refine mz_doQ (R := mz_r185) (as := [.ref 65]) (rest := []) (r1 := some (.int 0)) (m1 := w) mz_t185 mz_v185_65 rfl rfl rfl rfl rfl ⟨?_, rfl⟩ ?_
    · refine mz_go 1 (c' := (1, [some (.ref 65)], [.ref 65], w)) rfl ?_
      refine mz_doQ (R := mz_r183) (as := [.ref 65]) (rest := []) (r1 := some (.int (nI WW))) (m1 := w) mz_t183 mz_v183_65 rfl rfl rfl rfl rfl ⟨?_, rfl⟩ ?_
      · refine mz_go 4 (c' := (7, [some (.ref 65)], [.int (w 66 60)], w)) rfl ?_
        rw [h6660]
        exact mz_ret rfl
      refine mz_go 1 (c' := (if (nI WW) ≤ 0 then 11 else 7, [some (.ref 65)], [], w)) rfl ?_
      refine mz_ifT (show ((nI WW) ≤ 0) from (sm_leN rfl rfl (show WW ≤ 0 by omega) (show 0 < 2 ^ 31 by omega))) ?_
      refine mz_go 1 (c' := (12, [some (.ref 65)], [.int 0], w)) rfl ?_
      exact mz_ret rfl
    refine mz_go 3 (c' := (9, [some (.ref 65), some (.int xa), some (.int xb)], [.int 2, .ref 65], w)) rfl ?_
    refine mz_doQ (R := mz_r127) (as := [.ref 65, .int 2]) (rest := []) (r1 := some (.int (-1000002))) (m1 := mz_up w 68 2 ((w 68 2) + 1)) mz_t127 mz_v127_65 rfl rfl rfl rfl rfl ((ct_err2 (m := w)).deep (by decide)) ?_
    exact mz_ret rfl
  · by_cases q2 : xa < 0
    · refine ⟨(-1000001), mz_up w 68 1 ((w 68 1) + 1), ⟨?_, rfl⟩, ⟨fun i hi => (by simp only [mz_up_ne (sm_scne hi (r := 68) rfl)]), rfl, rfl⟩⟩
      refine mz_go 1 (c' := (1, [some (.ref 65), some (.int xa), some (.int xb)], [.ref 65], w)) rfl ?_
      refine mz_doQ (R := mz_r185) (as := [.ref 65]) (rest := []) (r1 := some (.int 1)) (m1 := w) mz_t185 mz_v185_65 rfl rfl rfl rfl rfl ⟨?_, rfl⟩ ?_
      · refine mz_go 1 (c' := (1, [some (.ref 65)], [.ref 65], w)) rfl ?_
        refine mz_doQ (R := mz_r183) (as := [.ref 65]) (rest := []) (r1 := some (.int (nI WW))) (m1 := w) mz_t183 mz_v183_65 rfl rfl rfl rfl rfl ⟨?_, rfl⟩ ?_
        · refine mz_go 4 (c' := (7, [some (.ref 65)], [.int (w 66 60)], w)) rfl ?_
          rw [h6660]
          exact mz_ret rfl
        refine mz_go 1 (c' := (if (nI WW) ≤ 0 then 11 else 7, [some (.ref 65)], [], w)) rfl ?_
        refine mz_ifF (show ¬ ((nI WW) ≤ 0) from (sm_nleN rfl rfl (show 0 < WW by omega) (show WW < 2 ^ 31 by omega))) ?_
        refine mz_go 2 (c' := (12, [some (.ref 65)], [.int 1], w)) rfl ?_
        exact mz_ret rfl
      refine mz_go 4 (c' := (16, [some (.ref 65), some (.int xa), some (.int xb)], [.int xb, .int xa, .ref 65], w)) rfl ?_
      refine mz_doQ (R := mz_r187) (as := [.ref 65, .int xa, .int xb]) (rest := []) (r1 := some (.int 0)) (m1 := w) mz_t187 mz_v187_65 rfl rfl rfl rfl rfl ⟨?_, rfl⟩ ?_
      · refine mz_go 3 (c' := (3, [some (.ref 65), some (.int xa), some (.int xb)], [.ref 65, .int 0, .int xa], w)) rfl ?_
        refine mz_doQ (R := mz_r183) (as := [.ref 65]) (rest := [.int 0, .int xa]) (r1 := some (.int (nI WW))) (m1 := w) mz_t183 mz_v183_65 rfl rfl rfl rfl rfl ⟨?_, rfl⟩ ?_
        · refine mz_go 4 (c' := (7, [some (.ref 65)], [.int (w 66 60)], w)) rfl ?_
          rw [h6660]
          exact mz_ret rfl
        refine mz_go 2 (c' := (8, [some (.ref 65), some (.int xa), some (.int xb)], [.int ((nI WW) - 1), .int 0, .int xa], w)) rfl ?_
        refine mz_doQ (R := mz_r128) (as := [.int xa, .int 0, .int ((nI WW) - 1)]) (rest := []) (r1 := some (.int 0)) (m1 := w) mz_t128 mz_v128 rfl rfl rfl rfl rfl ((ct_inL (m := w) (v := xa) (a := 0) (b := (nI WW) - 1) q2).deep (by decide)) ?_
        refine mz_go 2 (c' := (33, [some (.ref 65), some (.int xa), some (.int xb)], [.int 0], w)) rfl ?_
        exact mz_ret rfl
      refine mz_go 3 (c' := (24, [some (.ref 65), some (.int xa), some (.int xb)], [.int 1, .ref 65], w)) rfl ?_
      refine mz_doQ (R := mz_r127) (as := [.ref 65, .int 1]) (rest := []) (r1 := some (.int (-1000001))) (m1 := mz_up w 68 1 ((w 68 1) + 1)) mz_t127 mz_v127_65 rfl rfl rfl rfl rfl ((ct_err1 (m := w)).deep (by decide)) ?_
      refine mz_go 1 (c' := (44, [some (.ref 65), some (.int xa), some (.int xb)], [.int (-1000001)], mz_up w 68 1 ((w 68 1) + 1))) rfl ?_
      exact mz_ret rfl
    · obtain ⟨jxa, hjxa, rfl⟩ := nI_of q2
      by_cases q3 : (WW - 1) < jxa
      · refine ⟨(-1000001), mz_up w 68 1 ((w 68 1) + 1), ⟨?_, rfl⟩, ⟨fun i hi => (by simp only [mz_up_ne (sm_scne hi (r := 68) rfl)]), rfl, rfl⟩⟩
        refine mz_go 1 (c' := (1, [some (.ref 65), some (.int (nI jxa)), some (.int xb)], [.ref 65], w)) rfl ?_
        refine mz_doQ (R := mz_r185) (as := [.ref 65]) (rest := []) (r1 := some (.int 1)) (m1 := w) mz_t185 mz_v185_65 rfl rfl rfl rfl rfl ⟨?_, rfl⟩ ?_
        · refine mz_go 1 (c' := (1, [some (.ref 65)], [.ref 65], w)) rfl ?_
          refine mz_doQ (R := mz_r183) (as := [.ref 65]) (rest := []) (r1 := some (.int (nI WW))) (m1 := w) mz_t183 mz_v183_65 rfl rfl rfl rfl rfl ⟨?_, rfl⟩ ?_
          · refine mz_go 4 (c' := (7, [some (.ref 65)], [.int (w 66 60)], w)) rfl ?_
            rw [h6660]
            exact mz_ret rfl
          refine mz_go 1 (c' := (if (nI WW) ≤ 0 then 11 else 7, [some (.ref 65)], [], w)) rfl ?_
          refine mz_ifF (show ¬ ((nI WW) ≤ 0) from (sm_nleN rfl rfl (show 0 < WW by omega) (show WW < 2 ^ 31 by omega))) ?_
          refine mz_go 2 (c' := (12, [some (.ref 65)], [.int 1], w)) rfl ?_
          exact mz_ret rfl
        refine mz_go 4 (c' := (16, [some (.ref 65), some (.int (nI jxa)), some (.int xb)], [.int xb, .int (nI jxa), .ref 65], w)) rfl ?_
        refine mz_doQ (R := mz_r187) (as := [.ref 65, .int (nI jxa), .int xb]) (rest := []) (r1 := some (.int 0)) (m1 := w) mz_t187 mz_v187_65 rfl rfl rfl rfl rfl ⟨?_, rfl⟩ ?_
        · refine mz_go 3 (c' := (3, [some (.ref 65), some (.int (nI jxa)), some (.int xb)], [.ref 65, .int 0, .int (nI jxa)], w)) rfl ?_
          refine mz_doQ (R := mz_r183) (as := [.ref 65]) (rest := [.int 0, .int (nI jxa)]) (r1 := some (.int (nI WW))) (m1 := w) mz_t183 mz_v183_65 rfl rfl rfl rfl rfl ⟨?_, rfl⟩ ?_
          · refine mz_go 4 (c' := (7, [some (.ref 65)], [.int (w 66 60)], w)) rfl ?_
            rw [h6660]
            exact mz_ret rfl
          refine mz_go 2 (c' := (8, [some (.ref 65), some (.int (nI jxa)), some (.int xb)], [.int ((nI WW) - 1), .int 0, .int (nI jxa)], w)) rfl ?_
          refine mz_doQ (R := mz_r128) (as := [.int (nI jxa), .int 0, .int ((nI WW) - 1)]) (rest := []) (r1 := some (.int 0)) (m1 := w) mz_t128 mz_v128 rfl rfl rfl rfl rfl ((ct_inG (m := w) (v := nI jxa) (a := 0) (b := (nI WW) - 1) q2 (show (((nI WW) - 1) < (nI jxa)) from (sm_ltN (sm_subN (a := WW) (b := 1) rfl rfl (by omega)) rfl (show (WW - 1) < jxa by omega) (show jxa < 2 ^ 31 by omega)))).deep (by decide)) ?_
          refine mz_go 2 (c' := (33, [some (.ref 65), some (.int (nI jxa)), some (.int xb)], [.int 0], w)) rfl ?_
          exact mz_ret rfl
        refine mz_go 3 (c' := (24, [some (.ref 65), some (.int (nI jxa)), some (.int xb)], [.int 1, .ref 65], w)) rfl ?_
        refine mz_doQ (R := mz_r127) (as := [.ref 65, .int 1]) (rest := []) (r1 := some (.int (-1000001))) (m1 := mz_up w 68 1 ((w 68 1) + 1)) mz_t127 mz_v127_65 rfl rfl rfl rfl rfl ((ct_err1 (m := w)).deep (by decide)) ?_
        refine mz_go 1 (c' := (44, [some (.ref 65), some (.int (nI jxa)), some (.int xb)], [.int (-1000001)], mz_up w 68 1 ((w 68 1) + 1))) rfl ?_
        exact mz_ret rfl
      · by_cases q4 : xb < 0
        · refine ⟨(-1000001), mz_up w 68 1 ((w 68 1) + 1), ⟨?_, rfl⟩, ⟨fun i hi => (by simp only [mz_up_ne (sm_scne hi (r := 68) rfl)]), rfl, rfl⟩⟩
          refine mz_go 1 (c' := (1, [some (.ref 65), some (.int (nI jxa)), some (.int xb)], [.ref 65], w)) rfl ?_
          refine mz_doQ (R := mz_r185) (as := [.ref 65]) (rest := []) (r1 := some (.int 1)) (m1 := w) mz_t185 mz_v185_65 rfl rfl rfl rfl rfl ⟨?_, rfl⟩ ?_
          · refine mz_go 1 (c' := (1, [some (.ref 65)], [.ref 65], w)) rfl ?_
            refine mz_doQ (R := mz_r183) (as := [.ref 65]) (rest := []) (r1 := some (.int (nI WW))) (m1 := w) mz_t183 mz_v183_65 rfl rfl rfl rfl rfl ⟨?_, rfl⟩ ?_
            · refine mz_go 4 (c' := (7, [some (.ref 65)], [.int (w 66 60)], w)) rfl ?_
              rw [h6660]
              exact mz_ret rfl
            refine mz_go 1 (c' := (if (nI WW) ≤ 0 then 11 else 7, [some (.ref 65)], [], w)) rfl ?_
            refine mz_ifF (show ¬ ((nI WW) ≤ 0) from (sm_nleN rfl rfl (show 0 < WW by omega) (show WW < 2 ^ 31 by omega))) ?_
            refine mz_go 2 (c' := (12, [some (.ref 65)], [.int 1], w)) rfl ?_
            exact mz_ret rfl
          refine mz_go 4 (c' := (16, [some (.ref 65), some (.int (nI jxa)), some (.int xb)], [.int xb, .int (nI jxa), .ref 65], w)) rfl ?_
          refine mz_doQ (R := mz_r187) (as := [.ref 65, .int (nI jxa), .int xb]) (rest := []) (r1 := some (.int 0)) (m1 := w) mz_t187 mz_v187_65 rfl rfl rfl rfl rfl ⟨?_, rfl⟩ ?_
          · refine mz_go 3 (c' := (3, [some (.ref 65), some (.int (nI jxa)), some (.int xb)], [.ref 65, .int 0, .int (nI jxa)], w)) rfl ?_
            refine mz_doQ (R := mz_r183) (as := [.ref 65]) (rest := [.int 0, .int (nI jxa)]) (r1 := some (.int (nI WW))) (m1 := w) mz_t183 mz_v183_65 rfl rfl rfl rfl rfl ⟨?_, rfl⟩ ?_
            · refine mz_go 4 (c' := (7, [some (.ref 65)], [.int (w 66 60)], w)) rfl ?_
              rw [h6660]
              exact mz_ret rfl
            refine mz_go 2 (c' := (8, [some (.ref 65), some (.int (nI jxa)), some (.int xb)], [.int ((nI WW) - 1), .int 0, .int (nI jxa)], w)) rfl ?_
            refine mz_doQ (R := mz_r128) (as := [.int (nI jxa), .int 0, .int ((nI WW) - 1)]) (rest := []) (r1 := some (.int 1)) (m1 := w) mz_t128 mz_v128 rfl rfl rfl rfl rfl ((ct_in1 (m := w) (v := nI jxa) (a := 0) (b := (nI WW) - 1) q2 (show ¬ (((nI WW) - 1) < (nI jxa)) from (sm_nltN (sm_subN (a := WW) (b := 1) rfl rfl (by omega)) rfl (show jxa ≤ (WW - 1) by omega) (show (WW - 1) < 2 ^ 31 by omega)))).deep (by decide)) ?_
            refine mz_go 4 (c' := (17, [some (.ref 65), some (.int (nI jxa)), some (.int xb)], [.ref 65, .int 0, .int xb], w)) rfl ?_
            refine mz_doQ (R := mz_r184) (as := [.ref 65]) (rest := [.int 0, .int xb]) (r1 := some (.int (nI HH))) (m1 := w) mz_t184 mz_v184_65 rfl rfl rfl rfl rfl ⟨?_, rfl⟩ ?_
            · refine mz_go 4 (c' := (7, [some (.ref 65)], [.int (w 66 61)], w)) rfl ?_
              rw [h6661]
              exact mz_ret rfl
            refine mz_go 2 (c' := (22, [some (.ref 65), some (.int (nI jxa)), some (.int xb)], [.int ((nI HH) - 1), .int 0, .int xb], w)) rfl ?_
            refine mz_doQ (R := mz_r128) (as := [.int xb, .int 0, .int ((nI HH) - 1)]) (rest := []) (r1 := some (.int 0)) (m1 := w) mz_t128 mz_v128 rfl rfl rfl rfl rfl ((ct_inL (m := w) (v := xb) (a := 0) (b := (nI HH) - 1) q4).deep (by decide)) ?_
            refine mz_go 2 (c' := (33, [some (.ref 65), some (.int (nI jxa)), some (.int xb)], [.int 0], w)) rfl ?_
            exact mz_ret rfl
          refine mz_go 3 (c' := (24, [some (.ref 65), some (.int (nI jxa)), some (.int xb)], [.int 1, .ref 65], w)) rfl ?_
          refine mz_doQ (R := mz_r127) (as := [.ref 65, .int 1]) (rest := []) (r1 := some (.int (-1000001))) (m1 := mz_up w 68 1 ((w 68 1) + 1)) mz_t127 mz_v127_65 rfl rfl rfl rfl rfl ((ct_err1 (m := w)).deep (by decide)) ?_
          refine mz_go 1 (c' := (44, [some (.ref 65), some (.int (nI jxa)), some (.int xb)], [.int (-1000001)], mz_up w 68 1 ((w 68 1) + 1))) rfl ?_
          exact mz_ret rfl
        · obtain ⟨jxb, hjxb, rfl⟩ := nI_of q4
          by_cases q5 : (HH - 1) < jxb
          · refine ⟨(-1000001), mz_up w 68 1 ((w 68 1) + 1), ⟨?_, rfl⟩, ⟨fun i hi => (by simp only [mz_up_ne (sm_scne hi (r := 68) rfl)]), rfl, rfl⟩⟩
            refine mz_go 1 (c' := (1, [some (.ref 65), some (.int (nI jxa)), some (.int (nI jxb))], [.ref 65], w)) rfl ?_
            refine mz_doQ (R := mz_r185) (as := [.ref 65]) (rest := []) (r1 := some (.int 1)) (m1 := w) mz_t185 mz_v185_65 rfl rfl rfl rfl rfl ⟨?_, rfl⟩ ?_
            · refine mz_go 1 (c' := (1, [some (.ref 65)], [.ref 65], w)) rfl ?_
              refine mz_doQ (R := mz_r183) (as := [.ref 65]) (rest := []) (r1 := some (.int (nI WW))) (m1 := w) mz_t183 mz_v183_65 rfl rfl rfl rfl rfl ⟨?_, rfl⟩ ?_
              · refine mz_go 4 (c' := (7, [some (.ref 65)], [.int (w 66 60)], w)) rfl ?_
                rw [h6660]
                exact mz_ret rfl
              refine mz_go 1 (c' := (if (nI WW) ≤ 0 then 11 else 7, [some (.ref 65)], [], w)) rfl ?_
              refine mz_ifF (show ¬ ((nI WW) ≤ 0) from (sm_nleN rfl rfl (show 0 < WW by omega) (show WW < 2 ^ 31 by omega))) ?_
              refine mz_go 2 (c' := (12, [some (.ref 65)], [.int 1], w)) rfl ?_
              exact mz_ret rfl
            refine mz_go 4 (c' := (16, [some (.ref 65), some (.int (nI jxa)), some (.int (nI jxb))], [.int (nI jxb), .int (nI jxa), .ref 65], w)) rfl ?_
            refine mz_doQ (R := mz_r187) (as := [.ref 65, .int (nI jxa), .int (nI jxb)]) (rest := []) (r1 := some (.int 0)) (m1 := w) mz_t187 mz_v187_65 rfl rfl rfl rfl rfl ⟨?_, rfl⟩ ?_
            · refine mz_go 3 (c' := (3, [some (.ref 65), some (.int (nI jxa)), some (.int (nI jxb))], [.ref 65, .int 0, .int (nI jxa)], w)) rfl ?_
              refine mz_doQ (R := mz_r183) (as := [.ref 65]) (rest := [.int 0, .int (nI jxa)]) (r1 := some (.int (nI WW))) (m1 := w) mz_t183 mz_v183_65 rfl rfl rfl rfl rfl ⟨?_, rfl⟩ ?_
              · refine mz_go 4 (c' := (7, [some (.ref 65)], [.int (w 66 60)], w)) rfl ?_
                rw [h6660]
                exact mz_ret rfl
              refine mz_go 2 (c' := (8, [some (.ref 65), some (.int (nI jxa)), some (.int (nI jxb))], [.int ((nI WW) - 1), .int 0, .int (nI jxa)], w)) rfl ?_
              refine mz_doQ (R := mz_r128) (as := [.int (nI jxa), .int 0, .int ((nI WW) - 1)]) (rest := []) (r1 := some (.int 1)) (m1 := w) mz_t128 mz_v128 rfl rfl rfl rfl rfl ((ct_in1 (m := w) (v := nI jxa) (a := 0) (b := (nI WW) - 1) q2 (show ¬ (((nI WW) - 1) < (nI jxa)) from (sm_nltN (sm_subN (a := WW) (b := 1) rfl rfl (by omega)) rfl (show jxa ≤ (WW - 1) by omega) (show (WW - 1) < 2 ^ 31 by omega)))).deep (by decide)) ?_
              refine mz_go 4 (c' := (17, [some (.ref 65), some (.int (nI jxa)), some (.int (nI jxb))], [.ref 65, .int 0, .int (nI jxb)], w)) rfl ?_
              refine mz_doQ (R := mz_r184) (as := [.ref 65]) (rest := [.int 0, .int (nI jxb)]) (r1 := some (.int (nI HH))) (m1 := w) mz_t184 mz_v184_65 rfl rfl rfl rfl rfl ⟨?_, rfl⟩ ?_
              · refine mz_go 4 (c' := (7, [some (.ref 65)], [.int (w 66 61)], w)) rfl ?_
                rw [h6661]
                exact mz_ret rfl
              refine mz_go 2 (c' := (22, [some (.ref 65), some (.int (nI jxa)), some (.int (nI jxb))], [.int ((nI HH) - 1), .int 0, .int (nI jxb)], w)) rfl ?_
              refine mz_doQ (R := mz_r128) (as := [.int (nI jxb), .int 0, .int ((nI HH) - 1)]) (rest := []) (r1 := some (.int 0)) (m1 := w) mz_t128 mz_v128 rfl rfl rfl rfl rfl ((ct_inG (m := w) (v := nI jxb) (a := 0) (b := (nI HH) - 1) q4 (show (((nI HH) - 1) < (nI jxb)) from (sm_ltN (sm_subN (a := HH) (b := 1) rfl rfl (by omega)) rfl (show (HH - 1) < jxb by omega) (show jxb < 2 ^ 31 by omega)))).deep (by decide)) ?_
              refine mz_go 2 (c' := (33, [some (.ref 65), some (.int (nI jxa)), some (.int (nI jxb))], [.int 0], w)) rfl ?_
              exact mz_ret rfl
            refine mz_go 3 (c' := (24, [some (.ref 65), some (.int (nI jxa)), some (.int (nI jxb))], [.int 1, .ref 65], w)) rfl ?_
            refine mz_doQ (R := mz_r127) (as := [.ref 65, .int 1]) (rest := []) (r1 := some (.int (-1000001))) (m1 := mz_up w 68 1 ((w 68 1) + 1)) mz_t127 mz_v127_65 rfl rfl rfl rfl rfl ((ct_err1 (m := w)).deep (by decide)) ?_
            refine mz_go 1 (c' := (44, [some (.ref 65), some (.int (nI jxa)), some (.int (nI jxb))], [.int (-1000001)], mz_up w 68 1 ((w 68 1) + 1))) rfl ?_
            exact mz_ret rfl
          · obtain ⟨ve1, Ee1⟩ := xr_edg (m := w) hWW hHH hWH h6660 h6661 (by omega) (by omega) (I := jxa) (i := nI jxa) rfl (J := jxb) (j := nI jxb) rfl
            by_cases q6 : ve1 = 0
            · refine ⟨0, w, ⟨?_, rfl⟩, ⟨fun _ _ => rfl, rfl, rfl⟩⟩
              refine mz_go 1 (c' := (1, [some (.ref 65), some (.int (nI jxa)), some (.int (nI jxb))], [.ref 65], w)) rfl ?_
              refine mz_doQ (R := mz_r185) (as := [.ref 65]) (rest := []) (r1 := some (.int 1)) (m1 := w) mz_t185 mz_v185_65 rfl rfl rfl rfl rfl ⟨?_, rfl⟩ ?_
              · refine mz_go 1 (c' := (1, [some (.ref 65)], [.ref 65], w)) rfl ?_
                refine mz_doQ (R := mz_r183) (as := [.ref 65]) (rest := []) (r1 := some (.int (nI WW))) (m1 := w) mz_t183 mz_v183_65 rfl rfl rfl rfl rfl ⟨?_, rfl⟩ ?_
                · refine mz_go 4 (c' := (7, [some (.ref 65)], [.int (w 66 60)], w)) rfl ?_
                  rw [h6660]
                  exact mz_ret rfl
                refine mz_go 1 (c' := (if (nI WW) ≤ 0 then 11 else 7, [some (.ref 65)], [], w)) rfl ?_
                refine mz_ifF (show ¬ ((nI WW) ≤ 0) from (sm_nleN rfl rfl (show 0 < WW by omega) (show WW < 2 ^ 31 by omega))) ?_
                refine mz_go 2 (c' := (12, [some (.ref 65)], [.int 1], w)) rfl ?_
                exact mz_ret rfl
              refine mz_go 4 (c' := (16, [some (.ref 65), some (.int (nI jxa)), some (.int (nI jxb))], [.int (nI jxb), .int (nI jxa), .ref 65], w)) rfl ?_
              refine mz_doQ (R := mz_r187) (as := [.ref 65, .int (nI jxa), .int (nI jxb)]) (rest := []) (r1 := some (.int 1)) (m1 := w) mz_t187 mz_v187_65 rfl rfl rfl rfl rfl ⟨?_, rfl⟩ ?_
              · refine mz_go 3 (c' := (3, [some (.ref 65), some (.int (nI jxa)), some (.int (nI jxb))], [.ref 65, .int 0, .int (nI jxa)], w)) rfl ?_
                refine mz_doQ (R := mz_r183) (as := [.ref 65]) (rest := [.int 0, .int (nI jxa)]) (r1 := some (.int (nI WW))) (m1 := w) mz_t183 mz_v183_65 rfl rfl rfl rfl rfl ⟨?_, rfl⟩ ?_
                · refine mz_go 4 (c' := (7, [some (.ref 65)], [.int (w 66 60)], w)) rfl ?_
                  rw [h6660]
                  exact mz_ret rfl
                refine mz_go 2 (c' := (8, [some (.ref 65), some (.int (nI jxa)), some (.int (nI jxb))], [.int ((nI WW) - 1), .int 0, .int (nI jxa)], w)) rfl ?_
                refine mz_doQ (R := mz_r128) (as := [.int (nI jxa), .int 0, .int ((nI WW) - 1)]) (rest := []) (r1 := some (.int 1)) (m1 := w) mz_t128 mz_v128 rfl rfl rfl rfl rfl ((ct_in1 (m := w) (v := nI jxa) (a := 0) (b := (nI WW) - 1) q2 (show ¬ (((nI WW) - 1) < (nI jxa)) from (sm_nltN (sm_subN (a := WW) (b := 1) rfl rfl (by omega)) rfl (show jxa ≤ (WW - 1) by omega) (show (WW - 1) < 2 ^ 31 by omega)))).deep (by decide)) ?_
                refine mz_go 4 (c' := (17, [some (.ref 65), some (.int (nI jxa)), some (.int (nI jxb))], [.ref 65, .int 0, .int (nI jxb)], w)) rfl ?_
                refine mz_doQ (R := mz_r184) (as := [.ref 65]) (rest := [.int 0, .int (nI jxb)]) (r1 := some (.int (nI HH))) (m1 := w) mz_t184 mz_v184_65 rfl rfl rfl rfl rfl ⟨?_, rfl⟩ ?_
                · refine mz_go 4 (c' := (7, [some (.ref 65)], [.int (w 66 61)], w)) rfl ?_
                  rw [h6661]
                  exact mz_ret rfl
                refine mz_go 2 (c' := (22, [some (.ref 65), some (.int (nI jxa)), some (.int (nI jxb))], [.int ((nI HH) - 1), .int 0, .int (nI jxb)], w)) rfl ?_
                refine mz_doQ (R := mz_r128) (as := [.int (nI jxb), .int 0, .int ((nI HH) - 1)]) (rest := []) (r1 := some (.int 1)) (m1 := w) mz_t128 mz_v128 rfl rfl rfl rfl rfl ((ct_in1 (m := w) (v := nI jxb) (a := 0) (b := (nI HH) - 1) q4 (show ¬ (((nI HH) - 1) < (nI jxb)) from (sm_nltN (sm_subN (a := HH) (b := 1) rfl rfl (by omega)) rfl (show jxb ≤ (HH - 1) by omega) (show (HH - 1) < 2 ^ 31 by omega)))).deep (by decide)) ?_
                refine mz_go 3 (c' := (33, [some (.ref 65), some (.int (nI jxa)), some (.int (nI jxb))], [.int 1], w)) rfl ?_
                exact mz_ret rfl
              refine mz_go 4 (c' := (33, [some (.ref 65), some (.int (nI jxa)), some (.int (nI jxb))], [.int (nI jxb), .int (nI jxa), .ref 65], w)) rfl ?_
              refine mz_doQ (R := mz_r196) (as := [.ref 65, .int (nI jxa), .int (nI jxb)]) (rest := []) (r1 := some (.int ve1)) (m1 := w) mz_t196 mz_v196_65 rfl rfl rfl rfl rfl (Ee1.deep (by decide)) ?_
              refine mz_go 1 (c' := (if ve1 = 0 then 43 else 39, [some (.ref 65), some (.int (nI jxa)), some (.int (nI jxb))], [], w)) rfl ?_
              refine mz_ifT q6 ?_
              refine mz_go 1 (c' := (44, [some (.ref 65), some (.int (nI jxa)), some (.int (nI jxb))], [.int 0], w)) rfl ?_
              exact mz_ret rfl
            · refine ⟨1, w, ⟨?_, rfl⟩, ⟨fun _ _ => rfl, rfl, rfl⟩⟩
              refine mz_go 1 (c' := (1, [some (.ref 65), some (.int (nI jxa)), some (.int (nI jxb))], [.ref 65], w)) rfl ?_
              refine mz_doQ (R := mz_r185) (as := [.ref 65]) (rest := []) (r1 := some (.int 1)) (m1 := w) mz_t185 mz_v185_65 rfl rfl rfl rfl rfl ⟨?_, rfl⟩ ?_
              · refine mz_go 1 (c' := (1, [some (.ref 65)], [.ref 65], w)) rfl ?_
                refine mz_doQ (R := mz_r183) (as := [.ref 65]) (rest := []) (r1 := some (.int (nI WW))) (m1 := w) mz_t183 mz_v183_65 rfl rfl rfl rfl rfl ⟨?_, rfl⟩ ?_
                · refine mz_go 4 (c' := (7, [some (.ref 65)], [.int (w 66 60)], w)) rfl ?_
                  rw [h6660]
                  exact mz_ret rfl
                refine mz_go 1 (c' := (if (nI WW) ≤ 0 then 11 else 7, [some (.ref 65)], [], w)) rfl ?_
                refine mz_ifF (show ¬ ((nI WW) ≤ 0) from (sm_nleN rfl rfl (show 0 < WW by omega) (show WW < 2 ^ 31 by omega))) ?_
                refine mz_go 2 (c' := (12, [some (.ref 65)], [.int 1], w)) rfl ?_
                exact mz_ret rfl
              refine mz_go 4 (c' := (16, [some (.ref 65), some (.int (nI jxa)), some (.int (nI jxb))], [.int (nI jxb), .int (nI jxa), .ref 65], w)) rfl ?_
              refine mz_doQ (R := mz_r187) (as := [.ref 65, .int (nI jxa), .int (nI jxb)]) (rest := []) (r1 := some (.int 1)) (m1 := w) mz_t187 mz_v187_65 rfl rfl rfl rfl rfl ⟨?_, rfl⟩ ?_
              · refine mz_go 3 (c' := (3, [some (.ref 65), some (.int (nI jxa)), some (.int (nI jxb))], [.ref 65, .int 0, .int (nI jxa)], w)) rfl ?_
                refine mz_doQ (R := mz_r183) (as := [.ref 65]) (rest := [.int 0, .int (nI jxa)]) (r1 := some (.int (nI WW))) (m1 := w) mz_t183 mz_v183_65 rfl rfl rfl rfl rfl ⟨?_, rfl⟩ ?_
                · refine mz_go 4 (c' := (7, [some (.ref 65)], [.int (w 66 60)], w)) rfl ?_
                  rw [h6660]
                  exact mz_ret rfl
                refine mz_go 2 (c' := (8, [some (.ref 65), some (.int (nI jxa)), some (.int (nI jxb))], [.int ((nI WW) - 1), .int 0, .int (nI jxa)], w)) rfl ?_
                refine mz_doQ (R := mz_r128) (as := [.int (nI jxa), .int 0, .int ((nI WW) - 1)]) (rest := []) (r1 := some (.int 1)) (m1 := w) mz_t128 mz_v128 rfl rfl rfl rfl rfl ((ct_in1 (m := w) (v := nI jxa) (a := 0) (b := (nI WW) - 1) q2 (show ¬ (((nI WW) - 1) < (nI jxa)) from (sm_nltN (sm_subN (a := WW) (b := 1) rfl rfl (by omega)) rfl (show jxa ≤ (WW - 1) by omega) (show (WW - 1) < 2 ^ 31 by omega)))).deep (by decide)) ?_
                refine mz_go 4 (c' := (17, [some (.ref 65), some (.int (nI jxa)), some (.int (nI jxb))], [.ref 65, .int 0, .int (nI jxb)], w)) rfl ?_
                refine mz_doQ (R := mz_r184) (as := [.ref 65]) (rest := [.int 0, .int (nI jxb)]) (r1 := some (.int (nI HH))) (m1 := w) mz_t184 mz_v184_65 rfl rfl rfl rfl rfl ⟨?_, rfl⟩ ?_
                · refine mz_go 4 (c' := (7, [some (.ref 65)], [.int (w 66 61)], w)) rfl ?_
                  rw [h6661]
                  exact mz_ret rfl
                refine mz_go 2 (c' := (22, [some (.ref 65), some (.int (nI jxa)), some (.int (nI jxb))], [.int ((nI HH) - 1), .int 0, .int (nI jxb)], w)) rfl ?_
                refine mz_doQ (R := mz_r128) (as := [.int (nI jxb), .int 0, .int ((nI HH) - 1)]) (rest := []) (r1 := some (.int 1)) (m1 := w) mz_t128 mz_v128 rfl rfl rfl rfl rfl ((ct_in1 (m := w) (v := nI jxb) (a := 0) (b := (nI HH) - 1) q4 (show ¬ (((nI HH) - 1) < (nI jxb)) from (sm_nltN (sm_subN (a := HH) (b := 1) rfl rfl (by omega)) rfl (show jxb ≤ (HH - 1) by omega) (show (HH - 1) < 2 ^ 31 by omega)))).deep (by decide)) ?_
                refine mz_go 3 (c' := (33, [some (.ref 65), some (.int (nI jxa)), some (.int (nI jxb))], [.int 1], w)) rfl ?_
                exact mz_ret rfl
              refine mz_go 4 (c' := (33, [some (.ref 65), some (.int (nI jxa)), some (.int (nI jxb))], [.int (nI jxb), .int (nI jxa), .ref 65], w)) rfl ?_
              refine mz_doQ (R := mz_r196) (as := [.ref 65, .int (nI jxa), .int (nI jxb)]) (rest := []) (r1 := some (.int ve1)) (m1 := w) mz_t196 mz_v196_65 rfl rfl rfl rfl rfl (Ee1.deep (by decide)) ?_
              refine mz_go 1 (c' := (if ve1 = 0 then 43 else 39, [some (.ref 65), some (.int (nI jxa)), some (.int (nI jxb))], [], w)) rfl ?_
              refine mz_ifF q6 ?_
              refine mz_go 2 (c' := (44, [some (.ref 65), some (.int (nI jxa)), some (.int (nI jxb))], [.int 1], w)) rfl ?_
              exact mz_ret rfl
set_option maxHeartbeats 4000000 in
set_option maxRecDepth 100000 in
theorem xr_fink {w : mz_M} {N : Nat} (hw : sm_W w N) (hN : N ≤ 6) (hr5 : w 7 5 = 1 ∨ w 7 5 = 2) (hr80 : sm_N 80 (w 7 2)) (hr2 : sm_HR w (w 66)) (h660 : w 66 0 = nI N) (h6615 : w 66 15 = w 7 5) {WW HH : Nat} (hWW : WW ≤ 6) (hHH : HH ≤ 6) (hWH : WW = 0 ↔ HH = 0) (h6660 : w 66 60 = nI WW) (h6661 : w 66 61 = nI HH) {T2 : Nat} (hT2 : w 16 2 = nI T2) (hU2 : w 66 420 = nI T2) (hV2 : T2 = 0 ∨ sm_wf T2 5 (w 17) (w 18)) {I J : Nat} (hI6 : I < 6) (hJ6 : J < 6) (x3 x4 x5 : Int32) (HX : ∀ (x6 : Int32) (x8 : Option Value) (x9 : Option Value) (r65 : Nat → Int32) (r70 : Nat → Int32) (r71 : Nat → Int32) (hkr : ∀ k, k < 4 ∨ 8 < k → r65 k = w 65 k), ∃ v s65 s70 s71, mz_Ex 90 mz_k198 (139, [some (.ref 65), some (.int (nI I)), some (.int (nI J)), some (.int x3), some (.int x4), some (.int x5), some (.int x6), some (.int (nI 4)), x8, x9], [], mz_set (mz_set (mz_set w 65 r65) 70 r70) 71 r71) (some (.int v), mz_set (mz_set (mz_set w 65 s65) 70 s70) 71 s71) ∧ ∀ k, k < 4 ∨ 8 < k → s65 k = w 65 k) : ∀ j k : Nat, k + j = 4 → ∀ (x6 : Int32) (x8 : Option Value) (x9 : Option Value) (r65 : Nat → Int32) (r70 : Nat → Int32) (r71 : Nat → Int32) (hkr : ∀ k, k < 4 ∨ 8 < k → r65 k = w 65 k), ∃ v s65 s70 s71, mz_Ex 90 mz_k198 (54, [some (.ref 65), some (.int (nI I)), some (.int (nI J)), some (.int x3), some (.int x4), some (.int x5), some (.int x6), some (.int (nI k)), x8, x9], [], mz_set (mz_set (mz_set w 65 r65) 70 r70) 71 r71) (some (.int v), mz_set (mz_set (mz_set w 65 s65) 70 s70) 71 s71) ∧ ∀ k, k < 4 ∨ 8 < k → s65 k = w 65 k := by
  have hT60c := sm_T60 hV2
  intro j
  induction j with
  | zero =>
    intro k hk x6 x8 x9 r65 r70 r71 hkr
    rw [show k = 4 by omega]
    obtain ⟨vr, s65, s70, s71, hr, hsk⟩ := HX x6 x8 x9 ((mz_set (mz_set (mz_set w 65 r65) 70 r70) 71 r71) 65) ((mz_set (mz_set (mz_set w 65 r65) 70 r70) 71 r71) 70) ((mz_set (mz_set (mz_set w 65 r65) 70 r70) 71 r71) 71) hkr
    have hm : mz_set (mz_set (mz_set w 65 r65) 70 r70) 71 r71 = mz_set (mz_set (mz_set w 65 ((mz_set (mz_set (mz_set w 65 r65) 70 r70) 71 r71) 65)) 70 ((mz_set (mz_set (mz_set w 65 r65) 70 r70) 71 r71) 70)) 71 ((mz_set (mz_set (mz_set w 65 r65) 70 r70) 71 r71) 71) := sm_of3 (fun i h1 h2 h3 => by simp only [mz_set_ne h1, mz_set_ne h2, mz_set_ne h3])
    rw [← hm] at hr
    refine ⟨vr, s65, s70, s71, ?_, hsk⟩
    refine mz_go 3 (c' := (if 4 ≤ (nI 4) then 139 else 60, [some (.ref 65), some (.int (nI I)), some (.int (nI J)), some (.int x3), some (.int x4), some (.int x5), some (.int x6), some (.int (nI 4)), x8, x9], [], mz_set (mz_set (mz_set w 65 r65) 70 r70) 71 r71)) rfl ?_
    refine mz_ifT (show (4 ≤ (nI 4)) from (sm_leN rfl rfl (show 4 ≤ 4 by omega) (show 4 < 2 ^ 31 by omega))) ?_
    exact hr
  | succ j ih =>
    intro k hk x6 x8 x9 r65 r70 r71 hkr
    by_cases q1 : k = 2
    · by_cases q2 : (sm_bI (sm_plc (x4 + 0) (x5 + x3))) = 0
      · obtain ⟨vr, s65, s70, s71, hr, hsk⟩ := ih (k + 1) (by omega) (x6 + 0) (some (.int (x4 + 0))) (some (.int (x5 + x3))) ((mz_set (mz_set (mz_set w 65 r65) 70 r70) 71 r71) 65) ((mz_set (mz_set (mz_set w 65 r65) 70 r70) 71 r71) 70) ((mz_set (mz_set (mz_set w 65 r65) 70 r70) 71 r71) 71) hkr
        rw [nI_succ k] at hr
        have hm : mz_set (mz_set (mz_set w 65 r65) 70 r70) 71 r71 = mz_set (mz_set (mz_set w 65 ((mz_set (mz_set (mz_set w 65 r65) 70 r70) 71 r71) 65)) 70 ((mz_set (mz_set (mz_set w 65 r65) 70 r70) 71 r71) 70)) 71 ((mz_set (mz_set (mz_set w 65 r65) 70 r70) 71 r71) 71) := sm_of3 (fun i h1 h2 h3 => by simp only [mz_set_ne h1, mz_set_ne h2, mz_set_ne h3])
        rw [← hm] at hr
        refine ⟨vr, s65, s70, s71, ?_, hsk⟩
        refine mz_go 3 (c' := (if 4 ≤ (nI k) then 139 else 60, [some (.ref 65), some (.int (nI I)), some (.int (nI J)), some (.int x3), some (.int x4), some (.int x5), some (.int x6), some (.int (nI k)), x8, x9], [], mz_set (mz_set (mz_set w 65 r65) 70 r70) 71 r71)) rfl ?_
        refine mz_ifF (show ¬ (4 ≤ (nI k)) from (sm_nleN rfl rfl (show k < 4 by omega) (show 4 < 2 ^ 31 by omega))) ?_
        refine mz_go 4 (c' := (if (nI k) = 2 then 68 else 72, [some (.ref 65), some (.int (nI I)), some (.int (nI J)), some (.int x3), some (.int x4), some (.int x5), some (.int x6), some (.int (nI k)), x8, x9], [.int x4], mz_set (mz_set (mz_set w 65 r65) 70 r70) 71 r71)) rfl ?_
        refine mz_ifT (show ((nI k) = 2) from (sm_eqN rfl rfl (show k = 2 by omega))) ?_
        refine mz_go 8 (c' := (if (nI k) = 1 then 84 else 88, [some (.ref 65), some (.int (nI I)), some (.int (nI J)), some (.int x3), some (.int x4), some (.int x5), some (.int x6), some (.int (nI k)), some (.int (x4 + 0)), x9], [.int x5], mz_set (mz_set (mz_set w 65 r65) 70 r70) 71 r71)) rfl ?_
        refine mz_ifF (show ¬ ((nI k) = 1) from (sm_neN rfl rfl (show k ≠ 1 by omega) (show k < 2 ^ 31 by omega) (show 1 < 2 ^ 31 by omega))) ?_
        refine mz_go 6 (c' := (98, [some (.ref 65), some (.int (nI I)), some (.int (nI J)), some (.int x3), some (.int x4), some (.int x5), some (.int x6), some (.int (nI k)), some (.int (x4 + 0)), some (.int (x5 + x3))], [.int (x5 + x3), .int (x4 + 0), .int x6], mz_set (mz_set (mz_set w 65 r65) 70 r70) 71 r71)) rfl ?_
        refine mz_doQ (R := mz_r131) (as := [.int (x4 + 0), .int (x5 + x3)]) (rest := [.int x6]) (r1 := some (.int (sm_bI (sm_plc (x4 + 0) (x5 + x3))))) (m1 := mz_set (mz_set (mz_set w 65 r65) 70 r70) 71 r71) mz_t131 mz_v131 rfl rfl rfl rfl rfl ((ct_plc (m := mz_set (mz_set (mz_set w 65 r65) 70 r70) 71 r71) (x4 + 0) (x5 + x3)).deep (by decide)) ?_
        refine mz_go 1 (c' := (if (sm_bI (sm_plc (x4 + 0) (x5 + x3))) = 0 then 129 else 104, [some (.ref 65), some (.int (nI I)), some (.int (nI J)), some (.int x3), some (.int x4), some (.int x5), some (.int x6), some (.int (nI k)), some (.int (x4 + 0)), some (.int (x5 + x3))], [.int x6], mz_set (mz_set (mz_set w 65 r65) 70 r70) 71 r71)) rfl ?_
        refine mz_ifT q2 ?_
        refine mz_go 5 (c' := (54, [some (.ref 65), some (.int (nI I)), some (.int (nI J)), some (.int x3), some (.int x4), some (.int x5), some (.int (x6 + 0)), some (.int ((nI k) + 1)), some (.int (x4 + 0)), some (.int (x5 + x3))], [], mz_set (mz_set (mz_set w 65 r65) 70 r70) 71 r71)) rfl ?_
        exact hr
      · obtain ⟨re1, fe1, ge1, le1, ke1, Ee1⟩ := ct_from (w := w) (m := mz_set (mz_set (mz_set w 65 r65) 70 r70) 71 r71) hw hr2 (hr5.imp id Or.inl) hr80 (sm_B_of (sm_plc_of q2).1.1 (sm_plc_of q2).1.2) (sm_B_of (sm_plc_of q2).2.1 (sm_plc_of q2).2.2)
        obtain ⟨ve2, Ee2⟩ := xr_col (m := mz_set (mz_set (mz_set (mz_set (mz_set (mz_set w 65 r65) 70 r70) 71 r71) 65 re1) 70 fe1) 71 ge1) (A := I) (B := J) (by omega) (by omega) (a := nI I) (b := nI J) rfl rfl
        by_cases q3 : (sm_end w (w 7 5) (x4 + 0) (x5 + x3) 0 0) = ve2
        · obtain ⟨vr, s65, s70, s71, hr, hsk⟩ := ih (k + 1) (by omega) (x6 + 0) (some (.int (x4 + 0))) (some (.int (x5 + x3))) ((mz_set (mz_set (mz_set (mz_set (mz_set (mz_set w 65 r65) 70 r70) 71 r71) 65 re1) 70 fe1) 71 ge1) 65) ((mz_set (mz_set (mz_set (mz_set (mz_set (mz_set w 65 r65) 70 r70) 71 r71) 65 re1) 70 fe1) 71 ge1) 70) ((mz_set (mz_set (mz_set (mz_set (mz_set (mz_set w 65 r65) 70 r70) 71 r71) 65 re1) 70 fe1) 71 ge1) 71) (fun k hk => (ke1 k hk).trans (hkr k hk))
          rw [nI_succ k] at hr
          have hm : mz_set (mz_set (mz_set (mz_set (mz_set (mz_set w 65 r65) 70 r70) 71 r71) 65 re1) 70 fe1) 71 ge1 = mz_set (mz_set (mz_set w 65 ((mz_set (mz_set (mz_set (mz_set (mz_set (mz_set w 65 r65) 70 r70) 71 r71) 65 re1) 70 fe1) 71 ge1) 65)) 70 ((mz_set (mz_set (mz_set (mz_set (mz_set (mz_set w 65 r65) 70 r70) 71 r71) 65 re1) 70 fe1) 71 ge1) 70)) 71 ((mz_set (mz_set (mz_set (mz_set (mz_set (mz_set w 65 r65) 70 r70) 71 r71) 65 re1) 70 fe1) 71 ge1) 71) := sm_of3 (fun i h1 h2 h3 => by simp only [mz_set_ne h1, mz_set_ne h2, mz_set_ne h3])
          rw [← hm] at hr
          refine ⟨vr, s65, s70, s71, ?_, hsk⟩
          refine mz_go 3 (c' := (if 4 ≤ (nI k) then 139 else 60, [some (.ref 65), some (.int (nI I)), some (.int (nI J)), some (.int x3), some (.int x4), some (.int x5), some (.int x6), some (.int (nI k)), x8, x9], [], mz_set (mz_set (mz_set w 65 r65) 70 r70) 71 r71)) rfl ?_
          refine mz_ifF (show ¬ (4 ≤ (nI k)) from (sm_nleN rfl rfl (show k < 4 by omega) (show 4 < 2 ^ 31 by omega))) ?_
          refine mz_go 4 (c' := (if (nI k) = 2 then 68 else 72, [some (.ref 65), some (.int (nI I)), some (.int (nI J)), some (.int x3), some (.int x4), some (.int x5), some (.int x6), some (.int (nI k)), x8, x9], [.int x4], mz_set (mz_set (mz_set w 65 r65) 70 r70) 71 r71)) rfl ?_
          refine mz_ifT (show ((nI k) = 2) from (sm_eqN rfl rfl (show k = 2 by omega))) ?_
          refine mz_go 8 (c' := (if (nI k) = 1 then 84 else 88, [some (.ref 65), some (.int (nI I)), some (.int (nI J)), some (.int x3), some (.int x4), some (.int x5), some (.int x6), some (.int (nI k)), some (.int (x4 + 0)), x9], [.int x5], mz_set (mz_set (mz_set w 65 r65) 70 r70) 71 r71)) rfl ?_
          refine mz_ifF (show ¬ ((nI k) = 1) from (sm_neN rfl rfl (show k ≠ 1 by omega) (show k < 2 ^ 31 by omega) (show 1 < 2 ^ 31 by omega))) ?_
          refine mz_go 6 (c' := (98, [some (.ref 65), some (.int (nI I)), some (.int (nI J)), some (.int x3), some (.int x4), some (.int x5), some (.int x6), some (.int (nI k)), some (.int (x4 + 0)), some (.int (x5 + x3))], [.int (x5 + x3), .int (x4 + 0), .int x6], mz_set (mz_set (mz_set w 65 r65) 70 r70) 71 r71)) rfl ?_
          refine mz_doQ (R := mz_r131) (as := [.int (x4 + 0), .int (x5 + x3)]) (rest := [.int x6]) (r1 := some (.int 1)) (m1 := mz_set (mz_set (mz_set w 65 r65) 70 r70) 71 r71) mz_t131 mz_v131 rfl rfl rfl rfl rfl ⟨?_, rfl⟩ ?_
          · refine mz_go 3 (c' := (5, [some (.int (x4 + 0)), some (.int (x5 + x3))], [.int 100, .int (-100), .int (x4 + 0)], mz_set (mz_set (mz_set w 65 r65) 70 r70) 71 r71)) rfl ?_
            refine mz_doQ (R := mz_r128) (as := [.int (x4 + 0), .int (-100), .int 100]) (rest := []) (r1 := some (.int 1)) (m1 := mz_set (mz_set (mz_set w 65 r65) 70 r70) 71 r71) mz_t128 mz_v128 rfl rfl rfl rfl rfl ((ct_in1 (m := mz_set (mz_set (mz_set w 65 r65) 70 r70) 71 r71) (v := x4 + 0) (a := (-100)) (b := 100) (show ¬ ((x4 + 0) < (-100)) from (sm_plc_of q2).1.1) (show ¬ (100 < (x4 + 0)) from (sm_plc_of q2).1.2)).deep (by decide)) ?_
            refine mz_go 4 (c' := (16, [some (.int (x4 + 0)), some (.int (x5 + x3))], [.int 100, .int (-100), .int (x5 + x3)], mz_set (mz_set (mz_set w 65 r65) 70 r70) 71 r71)) rfl ?_
            refine mz_doQ (R := mz_r128) (as := [.int (x5 + x3), .int (-100), .int 100]) (rest := []) (r1 := some (.int 1)) (m1 := mz_set (mz_set (mz_set w 65 r65) 70 r70) 71 r71) mz_t128 mz_v128 rfl rfl rfl rfl rfl ((ct_in1 (m := mz_set (mz_set (mz_set w 65 r65) 70 r70) 71 r71) (v := x5 + x3) (a := (-100)) (b := 100) (show ¬ ((x5 + x3) < (-100)) from (sm_plc_of q2).2.1) (show ¬ (100 < (x5 + x3)) from (sm_plc_of q2).2.2)).deep (by decide)) ?_
            refine mz_go 3 (c' := (27, [some (.int (x4 + 0)), some (.int (x5 + x3))], [.int 1], mz_set (mz_set (mz_set w 65 r65) 70 r70) 71 r71)) rfl ?_
            exact mz_ret rfl
          refine mz_go 5 (c' := (110, [some (.ref 65), some (.int (nI I)), some (.int (nI J)), some (.int x3), some (.int x4), some (.int x5), some (.int x6), some (.int (nI k)), some (.int (x4 + 0)), some (.int (x5 + x3))], [.ref 65, .int (x5 + x3), .int (x4 + 0), .ref 65, .int x6], mz_set (mz_set (mz_set w 65 r65) 70 r70) 71 r71)) rfl ?_
          refine mz_doQ (R := mz_r156) (as := [.ref 65]) (rest := [.int (x5 + x3), .int (x4 + 0), .ref 65, .int x6]) (r1 := some (.int (w 7 5))) (m1 := mz_set (mz_set (mz_set w 65 r65) 70 r70) 71 r71) mz_t156 mz_v156_65 rfl rfl rfl rfl rfl ⟨?_, rfl⟩ ?_
          · refine mz_go 4 (c' := (7, [some (.ref 65)], [.int (w 66 15)], mz_set (mz_set (mz_set w 65 r65) 70 r70) 71 r71)) rfl ?_
            rw [h6615]
            exact mz_ret rfl
          refine mz_doQ (R := mz_r155) (as := [.ref 65, .int (x4 + 0), .int (x5 + x3), .int (w 7 5)]) (rest := [.int x6]) (r1 := some (.int (sm_end w (w 7 5) (x4 + 0) (x5 + x3) 0 0))) (m1 := mz_set (mz_set (mz_set (mz_set (mz_set (mz_set w 65 r65) 70 r70) 71 r71) 65 re1) 70 fe1) 71 ge1) mz_t155 mz_v155_65 rfl rfl rfl rfl rfl (Ee1.deep (by decide)) ?_
          refine mz_go 3 (c' := (119, [some (.ref 65), some (.int (nI I)), some (.int (nI J)), some (.int x3), some (.int x4), some (.int x5), some (.int x6), some (.int (nI k)), some (.int (x4 + 0)), some (.int (x5 + x3))], [.int (nI J), .int (nI I), .ref 65, .int (sm_end w (w 7 5) (x4 + 0) (x5 + x3) 0 0), .int x6], mz_set (mz_set (mz_set (mz_set (mz_set (mz_set w 65 r65) 70 r70) 71 r71) 65 re1) 70 fe1) 71 ge1)) rfl ?_
          refine mz_doQ (R := mz_r186) (as := [.ref 65, .int (nI I), .int (nI J)]) (rest := [.int (sm_end w (w 7 5) (x4 + 0) (x5 + x3) 0 0), .int x6]) (r1 := some (.int ve2)) (m1 := mz_set (mz_set (mz_set (mz_set (mz_set (mz_set w 65 r65) 70 r70) 71 r71) 65 re1) 70 fe1) 71 ge1) mz_t186 mz_v186_65 rfl rfl rfl rfl rfl (Ee2.deep (by decide)) ?_
          refine mz_go 1 (c' := (if (sm_end w (w 7 5) (x4 + 0) (x5 + x3) 0 0) = ve2 then 129 else 125, [some (.ref 65), some (.int (nI I)), some (.int (nI J)), some (.int x3), some (.int x4), some (.int x5), some (.int x6), some (.int (nI k)), some (.int (x4 + 0)), some (.int (x5 + x3))], [.int x6], mz_set (mz_set (mz_set (mz_set (mz_set (mz_set w 65 r65) 70 r70) 71 r71) 65 re1) 70 fe1) 71 ge1)) rfl ?_
          refine mz_ifT q3 ?_
          refine mz_go 5 (c' := (54, [some (.ref 65), some (.int (nI I)), some (.int (nI J)), some (.int x3), some (.int x4), some (.int x5), some (.int (x6 + 0)), some (.int ((nI k) + 1)), some (.int (x4 + 0)), some (.int (x5 + x3))], [], mz_set (mz_set (mz_set (mz_set (mz_set (mz_set w 65 r65) 70 r70) 71 r71) 65 re1) 70 fe1) 71 ge1)) rfl ?_
          exact hr
        · obtain ⟨vr, s65, s70, s71, hr, hsk⟩ := ih (k + 1) (by omega) (x6 + 1) (some (.int (x4 + 0))) (some (.int (x5 + x3))) ((mz_set (mz_set (mz_set (mz_set (mz_set (mz_set w 65 r65) 70 r70) 71 r71) 65 re1) 70 fe1) 71 ge1) 65) ((mz_set (mz_set (mz_set (mz_set (mz_set (mz_set w 65 r65) 70 r70) 71 r71) 65 re1) 70 fe1) 71 ge1) 70) ((mz_set (mz_set (mz_set (mz_set (mz_set (mz_set w 65 r65) 70 r70) 71 r71) 65 re1) 70 fe1) 71 ge1) 71) (fun k hk => (ke1 k hk).trans (hkr k hk))
          rw [nI_succ k] at hr
          have hm : mz_set (mz_set (mz_set (mz_set (mz_set (mz_set w 65 r65) 70 r70) 71 r71) 65 re1) 70 fe1) 71 ge1 = mz_set (mz_set (mz_set w 65 ((mz_set (mz_set (mz_set (mz_set (mz_set (mz_set w 65 r65) 70 r70) 71 r71) 65 re1) 70 fe1) 71 ge1) 65)) 70 ((mz_set (mz_set (mz_set (mz_set (mz_set (mz_set w 65 r65) 70 r70) 71 r71) 65 re1) 70 fe1) 71 ge1) 70)) 71 ((mz_set (mz_set (mz_set (mz_set (mz_set (mz_set w 65 r65) 70 r70) 71 r71) 65 re1) 70 fe1) 71 ge1) 71) := sm_of3 (fun i h1 h2 h3 => by simp only [mz_set_ne h1, mz_set_ne h2, mz_set_ne h3])
          rw [← hm] at hr
          refine ⟨vr, s65, s70, s71, ?_, hsk⟩
          refine mz_go 3 (c' := (if 4 ≤ (nI k) then 139 else 60, [some (.ref 65), some (.int (nI I)), some (.int (nI J)), some (.int x3), some (.int x4), some (.int x5), some (.int x6), some (.int (nI k)), x8, x9], [], mz_set (mz_set (mz_set w 65 r65) 70 r70) 71 r71)) rfl ?_
          refine mz_ifF (show ¬ (4 ≤ (nI k)) from (sm_nleN rfl rfl (show k < 4 by omega) (show 4 < 2 ^ 31 by omega))) ?_
          refine mz_go 4 (c' := (if (nI k) = 2 then 68 else 72, [some (.ref 65), some (.int (nI I)), some (.int (nI J)), some (.int x3), some (.int x4), some (.int x5), some (.int x6), some (.int (nI k)), x8, x9], [.int x4], mz_set (mz_set (mz_set w 65 r65) 70 r70) 71 r71)) rfl ?_
          refine mz_ifT (show ((nI k) = 2) from (sm_eqN rfl rfl (show k = 2 by omega))) ?_
          refine mz_go 8 (c' := (if (nI k) = 1 then 84 else 88, [some (.ref 65), some (.int (nI I)), some (.int (nI J)), some (.int x3), some (.int x4), some (.int x5), some (.int x6), some (.int (nI k)), some (.int (x4 + 0)), x9], [.int x5], mz_set (mz_set (mz_set w 65 r65) 70 r70) 71 r71)) rfl ?_
          refine mz_ifF (show ¬ ((nI k) = 1) from (sm_neN rfl rfl (show k ≠ 1 by omega) (show k < 2 ^ 31 by omega) (show 1 < 2 ^ 31 by omega))) ?_
          refine mz_go 6 (c' := (98, [some (.ref 65), some (.int (nI I)), some (.int (nI J)), some (.int x3), some (.int x4), some (.int x5), some (.int x6), some (.int (nI k)), some (.int (x4 + 0)), some (.int (x5 + x3))], [.int (x5 + x3), .int (x4 + 0), .int x6], mz_set (mz_set (mz_set w 65 r65) 70 r70) 71 r71)) rfl ?_
          refine mz_doQ (R := mz_r131) (as := [.int (x4 + 0), .int (x5 + x3)]) (rest := [.int x6]) (r1 := some (.int 1)) (m1 := mz_set (mz_set (mz_set w 65 r65) 70 r70) 71 r71) mz_t131 mz_v131 rfl rfl rfl rfl rfl ⟨?_, rfl⟩ ?_
          · refine mz_go 3 (c' := (5, [some (.int (x4 + 0)), some (.int (x5 + x3))], [.int 100, .int (-100), .int (x4 + 0)], mz_set (mz_set (mz_set w 65 r65) 70 r70) 71 r71)) rfl ?_
            refine mz_doQ (R := mz_r128) (as := [.int (x4 + 0), .int (-100), .int 100]) (rest := []) (r1 := some (.int 1)) (m1 := mz_set (mz_set (mz_set w 65 r65) 70 r70) 71 r71) mz_t128 mz_v128 rfl rfl rfl rfl rfl ((ct_in1 (m := mz_set (mz_set (mz_set w 65 r65) 70 r70) 71 r71) (v := x4 + 0) (a := (-100)) (b := 100) (show ¬ ((x4 + 0) < (-100)) from (sm_plc_of q2).1.1) (show ¬ (100 < (x4 + 0)) from (sm_plc_of q2).1.2)).deep (by decide)) ?_
            refine mz_go 4 (c' := (16, [some (.int (x4 + 0)), some (.int (x5 + x3))], [.int 100, .int (-100), .int (x5 + x3)], mz_set (mz_set (mz_set w 65 r65) 70 r70) 71 r71)) rfl ?_
            refine mz_doQ (R := mz_r128) (as := [.int (x5 + x3), .int (-100), .int 100]) (rest := []) (r1 := some (.int 1)) (m1 := mz_set (mz_set (mz_set w 65 r65) 70 r70) 71 r71) mz_t128 mz_v128 rfl rfl rfl rfl rfl ((ct_in1 (m := mz_set (mz_set (mz_set w 65 r65) 70 r70) 71 r71) (v := x5 + x3) (a := (-100)) (b := 100) (show ¬ ((x5 + x3) < (-100)) from (sm_plc_of q2).2.1) (show ¬ (100 < (x5 + x3)) from (sm_plc_of q2).2.2)).deep (by decide)) ?_
            refine mz_go 3 (c' := (27, [some (.int (x4 + 0)), some (.int (x5 + x3))], [.int 1], mz_set (mz_set (mz_set w 65 r65) 70 r70) 71 r71)) rfl ?_
            exact mz_ret rfl
          refine mz_go 5 (c' := (110, [some (.ref 65), some (.int (nI I)), some (.int (nI J)), some (.int x3), some (.int x4), some (.int x5), some (.int x6), some (.int (nI k)), some (.int (x4 + 0)), some (.int (x5 + x3))], [.ref 65, .int (x5 + x3), .int (x4 + 0), .ref 65, .int x6], mz_set (mz_set (mz_set w 65 r65) 70 r70) 71 r71)) rfl ?_
          refine mz_doQ (R := mz_r156) (as := [.ref 65]) (rest := [.int (x5 + x3), .int (x4 + 0), .ref 65, .int x6]) (r1 := some (.int (w 7 5))) (m1 := mz_set (mz_set (mz_set w 65 r65) 70 r70) 71 r71) mz_t156 mz_v156_65 rfl rfl rfl rfl rfl ⟨?_, rfl⟩ ?_
          · refine mz_go 4 (c' := (7, [some (.ref 65)], [.int (w 66 15)], mz_set (mz_set (mz_set w 65 r65) 70 r70) 71 r71)) rfl ?_
            rw [h6615]
            exact mz_ret rfl
          refine mz_doQ (R := mz_r155) (as := [.ref 65, .int (x4 + 0), .int (x5 + x3), .int (w 7 5)]) (rest := [.int x6]) (r1 := some (.int (sm_end w (w 7 5) (x4 + 0) (x5 + x3) 0 0))) (m1 := mz_set (mz_set (mz_set (mz_set (mz_set (mz_set w 65 r65) 70 r70) 71 r71) 65 re1) 70 fe1) 71 ge1) mz_t155 mz_v155_65 rfl rfl rfl rfl rfl (Ee1.deep (by decide)) ?_
          refine mz_go 3 (c' := (119, [some (.ref 65), some (.int (nI I)), some (.int (nI J)), some (.int x3), some (.int x4), some (.int x5), some (.int x6), some (.int (nI k)), some (.int (x4 + 0)), some (.int (x5 + x3))], [.int (nI J), .int (nI I), .ref 65, .int (sm_end w (w 7 5) (x4 + 0) (x5 + x3) 0 0), .int x6], mz_set (mz_set (mz_set (mz_set (mz_set (mz_set w 65 r65) 70 r70) 71 r71) 65 re1) 70 fe1) 71 ge1)) rfl ?_
          refine mz_doQ (R := mz_r186) (as := [.ref 65, .int (nI I), .int (nI J)]) (rest := [.int (sm_end w (w 7 5) (x4 + 0) (x5 + x3) 0 0), .int x6]) (r1 := some (.int ve2)) (m1 := mz_set (mz_set (mz_set (mz_set (mz_set (mz_set w 65 r65) 70 r70) 71 r71) 65 re1) 70 fe1) 71 ge1) mz_t186 mz_v186_65 rfl rfl rfl rfl rfl (Ee2.deep (by decide)) ?_
          refine mz_go 1 (c' := (if (sm_end w (w 7 5) (x4 + 0) (x5 + x3) 0 0) = ve2 then 129 else 125, [some (.ref 65), some (.int (nI I)), some (.int (nI J)), some (.int x3), some (.int x4), some (.int x5), some (.int x6), some (.int (nI k)), some (.int (x4 + 0)), some (.int (x5 + x3))], [.int x6], mz_set (mz_set (mz_set (mz_set (mz_set (mz_set w 65 r65) 70 r70) 71 r71) 65 re1) 70 fe1) 71 ge1)) rfl ?_
          refine mz_ifF q3 ?_
          refine mz_go 6 (c' := (54, [some (.ref 65), some (.int (nI I)), some (.int (nI J)), some (.int x3), some (.int x4), some (.int x5), some (.int (x6 + 1)), some (.int ((nI k) + 1)), some (.int (x4 + 0)), some (.int (x5 + x3))], [], mz_set (mz_set (mz_set (mz_set (mz_set (mz_set w 65 r65) 70 r70) 71 r71) 65 re1) 70 fe1) 71 ge1)) rfl ?_
          exact hr
    · by_cases q4 : k = 1
      · by_cases q5 : (sm_bI (sm_plc (x4 + x3) (x5 + 0))) = 0
        · obtain ⟨vr, s65, s70, s71, hr, hsk⟩ := ih (k + 1) (by omega) (x6 + 0) (some (.int (x4 + x3))) (some (.int (x5 + 0))) ((mz_set (mz_set (mz_set w 65 r65) 70 r70) 71 r71) 65) ((mz_set (mz_set (mz_set w 65 r65) 70 r70) 71 r71) 70) ((mz_set (mz_set (mz_set w 65 r65) 70 r70) 71 r71) 71) hkr
          rw [nI_succ k] at hr
          have hm : mz_set (mz_set (mz_set w 65 r65) 70 r70) 71 r71 = mz_set (mz_set (mz_set w 65 ((mz_set (mz_set (mz_set w 65 r65) 70 r70) 71 r71) 65)) 70 ((mz_set (mz_set (mz_set w 65 r65) 70 r70) 71 r71) 70)) 71 ((mz_set (mz_set (mz_set w 65 r65) 70 r70) 71 r71) 71) := sm_of3 (fun i h1 h2 h3 => by simp only [mz_set_ne h1, mz_set_ne h2, mz_set_ne h3])
          rw [← hm] at hr
          refine ⟨vr, s65, s70, s71, ?_, hsk⟩
          refine mz_go 3 (c' := (if 4 ≤ (nI k) then 139 else 60, [some (.ref 65), some (.int (nI I)), some (.int (nI J)), some (.int x3), some (.int x4), some (.int x5), some (.int x6), some (.int (nI k)), x8, x9], [], mz_set (mz_set (mz_set w 65 r65) 70 r70) 71 r71)) rfl ?_
          refine mz_ifF (show ¬ (4 ≤ (nI k)) from (sm_nleN rfl rfl (show k < 4 by omega) (show 4 < 2 ^ 31 by omega))) ?_
          refine mz_go 4 (c' := (if (nI k) = 2 then 68 else 72, [some (.ref 65), some (.int (nI I)), some (.int (nI J)), some (.int x3), some (.int x4), some (.int x5), some (.int x6), some (.int (nI k)), x8, x9], [.int x4], mz_set (mz_set (mz_set w 65 r65) 70 r70) 71 r71)) rfl ?_
          refine mz_ifF (show ¬ ((nI k) = 2) from (sm_neN rfl rfl (show k ≠ 2 by omega) (show k < 2 ^ 31 by omega) (show 2 < 2 ^ 31 by omega))) ?_
          refine mz_go 7 (c' := (if (nI k) = 1 then 84 else 88, [some (.ref 65), some (.int (nI I)), some (.int (nI J)), some (.int x3), some (.int x4), some (.int x5), some (.int x6), some (.int (nI k)), some (.int (x4 + x3)), x9], [.int x5], mz_set (mz_set (mz_set w 65 r65) 70 r70) 71 r71)) rfl ?_
          refine mz_ifT (show ((nI k) = 1) from (sm_eqN rfl rfl (show k = 1 by omega))) ?_
          refine mz_go 7 (c' := (98, [some (.ref 65), some (.int (nI I)), some (.int (nI J)), some (.int x3), some (.int x4), some (.int x5), some (.int x6), some (.int (nI k)), some (.int (x4 + x3)), some (.int (x5 + 0))], [.int (x5 + 0), .int (x4 + x3), .int x6], mz_set (mz_set (mz_set w 65 r65) 70 r70) 71 r71)) rfl ?_
          refine mz_doQ (R := mz_r131) (as := [.int (x4 + x3), .int (x5 + 0)]) (rest := [.int x6]) (r1 := some (.int (sm_bI (sm_plc (x4 + x3) (x5 + 0))))) (m1 := mz_set (mz_set (mz_set w 65 r65) 70 r70) 71 r71) mz_t131 mz_v131 rfl rfl rfl rfl rfl ((ct_plc (m := mz_set (mz_set (mz_set w 65 r65) 70 r70) 71 r71) (x4 + x3) (x5 + 0)).deep (by decide)) ?_
          refine mz_go 1 (c' := (if (sm_bI (sm_plc (x4 + x3) (x5 + 0))) = 0 then 129 else 104, [some (.ref 65), some (.int (nI I)), some (.int (nI J)), some (.int x3), some (.int x4), some (.int x5), some (.int x6), some (.int (nI k)), some (.int (x4 + x3)), some (.int (x5 + 0))], [.int x6], mz_set (mz_set (mz_set w 65 r65) 70 r70) 71 r71)) rfl ?_
          refine mz_ifT q5 ?_
          refine mz_go 5 (c' := (54, [some (.ref 65), some (.int (nI I)), some (.int (nI J)), some (.int x3), some (.int x4), some (.int x5), some (.int (x6 + 0)), some (.int ((nI k) + 1)), some (.int (x4 + x3)), some (.int (x5 + 0))], [], mz_set (mz_set (mz_set w 65 r65) 70 r70) 71 r71)) rfl ?_
          exact hr
        · obtain ⟨re1, fe1, ge1, le1, ke1, Ee1⟩ := ct_from (w := w) (m := mz_set (mz_set (mz_set w 65 r65) 70 r70) 71 r71) hw hr2 (hr5.imp id Or.inl) hr80 (sm_B_of (sm_plc_of q5).1.1 (sm_plc_of q5).1.2) (sm_B_of (sm_plc_of q5).2.1 (sm_plc_of q5).2.2)
          obtain ⟨ve2, Ee2⟩ := xr_col (m := mz_set (mz_set (mz_set (mz_set (mz_set (mz_set w 65 r65) 70 r70) 71 r71) 65 re1) 70 fe1) 71 ge1) (A := I) (B := J) (by omega) (by omega) (a := nI I) (b := nI J) rfl rfl
          by_cases q6 : (sm_end w (w 7 5) (x4 + x3) (x5 + 0) 0 0) = ve2
          · obtain ⟨vr, s65, s70, s71, hr, hsk⟩ := ih (k + 1) (by omega) (x6 + 0) (some (.int (x4 + x3))) (some (.int (x5 + 0))) ((mz_set (mz_set (mz_set (mz_set (mz_set (mz_set w 65 r65) 70 r70) 71 r71) 65 re1) 70 fe1) 71 ge1) 65) ((mz_set (mz_set (mz_set (mz_set (mz_set (mz_set w 65 r65) 70 r70) 71 r71) 65 re1) 70 fe1) 71 ge1) 70) ((mz_set (mz_set (mz_set (mz_set (mz_set (mz_set w 65 r65) 70 r70) 71 r71) 65 re1) 70 fe1) 71 ge1) 71) (fun k hk => (ke1 k hk).trans (hkr k hk))
            rw [nI_succ k] at hr
            have hm : mz_set (mz_set (mz_set (mz_set (mz_set (mz_set w 65 r65) 70 r70) 71 r71) 65 re1) 70 fe1) 71 ge1 = mz_set (mz_set (mz_set w 65 ((mz_set (mz_set (mz_set (mz_set (mz_set (mz_set w 65 r65) 70 r70) 71 r71) 65 re1) 70 fe1) 71 ge1) 65)) 70 ((mz_set (mz_set (mz_set (mz_set (mz_set (mz_set w 65 r65) 70 r70) 71 r71) 65 re1) 70 fe1) 71 ge1) 70)) 71 ((mz_set (mz_set (mz_set (mz_set (mz_set (mz_set w 65 r65) 70 r70) 71 r71) 65 re1) 70 fe1) 71 ge1) 71) := sm_of3 (fun i h1 h2 h3 => by simp only [mz_set_ne h1, mz_set_ne h2, mz_set_ne h3])
            rw [← hm] at hr
            refine ⟨vr, s65, s70, s71, ?_, hsk⟩
            refine mz_go 3 (c' := (if 4 ≤ (nI k) then 139 else 60, [some (.ref 65), some (.int (nI I)), some (.int (nI J)), some (.int x3), some (.int x4), some (.int x5), some (.int x6), some (.int (nI k)), x8, x9], [], mz_set (mz_set (mz_set w 65 r65) 70 r70) 71 r71)) rfl ?_
            refine mz_ifF (show ¬ (4 ≤ (nI k)) from (sm_nleN rfl rfl (show k < 4 by omega) (show 4 < 2 ^ 31 by omega))) ?_
            refine mz_go 4 (c' := (if (nI k) = 2 then 68 else 72, [some (.ref 65), some (.int (nI I)), some (.int (nI J)), some (.int x3), some (.int x4), some (.int x5), some (.int x6), some (.int (nI k)), x8, x9], [.int x4], mz_set (mz_set (mz_set w 65 r65) 70 r70) 71 r71)) rfl ?_
            refine mz_ifF (show ¬ ((nI k) = 2) from (sm_neN rfl rfl (show k ≠ 2 by omega) (show k < 2 ^ 31 by omega) (show 2 < 2 ^ 31 by omega))) ?_
            refine mz_go 7 (c' := (if (nI k) = 1 then 84 else 88, [some (.ref 65), some (.int (nI I)), some (.int (nI J)), some (.int x3), some (.int x4), some (.int x5), some (.int x6), some (.int (nI k)), some (.int (x4 + x3)), x9], [.int x5], mz_set (mz_set (mz_set w 65 r65) 70 r70) 71 r71)) rfl ?_
            refine mz_ifT (show ((nI k) = 1) from (sm_eqN rfl rfl (show k = 1 by omega))) ?_
            refine mz_go 7 (c' := (98, [some (.ref 65), some (.int (nI I)), some (.int (nI J)), some (.int x3), some (.int x4), some (.int x5), some (.int x6), some (.int (nI k)), some (.int (x4 + x3)), some (.int (x5 + 0))], [.int (x5 + 0), .int (x4 + x3), .int x6], mz_set (mz_set (mz_set w 65 r65) 70 r70) 71 r71)) rfl ?_
            refine mz_doQ (R := mz_r131) (as := [.int (x4 + x3), .int (x5 + 0)]) (rest := [.int x6]) (r1 := some (.int 1)) (m1 := mz_set (mz_set (mz_set w 65 r65) 70 r70) 71 r71) mz_t131 mz_v131 rfl rfl rfl rfl rfl ⟨?_, rfl⟩ ?_
            · refine mz_go 3 (c' := (5, [some (.int (x4 + x3)), some (.int (x5 + 0))], [.int 100, .int (-100), .int (x4 + x3)], mz_set (mz_set (mz_set w 65 r65) 70 r70) 71 r71)) rfl ?_
              refine mz_doQ (R := mz_r128) (as := [.int (x4 + x3), .int (-100), .int 100]) (rest := []) (r1 := some (.int 1)) (m1 := mz_set (mz_set (mz_set w 65 r65) 70 r70) 71 r71) mz_t128 mz_v128 rfl rfl rfl rfl rfl ((ct_in1 (m := mz_set (mz_set (mz_set w 65 r65) 70 r70) 71 r71) (v := x4 + x3) (a := (-100)) (b := 100) (show ¬ ((x4 + x3) < (-100)) from (sm_plc_of q5).1.1) (show ¬ (100 < (x4 + x3)) from (sm_plc_of q5).1.2)).deep (by decide)) ?_
              refine mz_go 4 (c' := (16, [some (.int (x4 + x3)), some (.int (x5 + 0))], [.int 100, .int (-100), .int (x5 + 0)], mz_set (mz_set (mz_set w 65 r65) 70 r70) 71 r71)) rfl ?_
              refine mz_doQ (R := mz_r128) (as := [.int (x5 + 0), .int (-100), .int 100]) (rest := []) (r1 := some (.int 1)) (m1 := mz_set (mz_set (mz_set w 65 r65) 70 r70) 71 r71) mz_t128 mz_v128 rfl rfl rfl rfl rfl ((ct_in1 (m := mz_set (mz_set (mz_set w 65 r65) 70 r70) 71 r71) (v := x5 + 0) (a := (-100)) (b := 100) (show ¬ ((x5 + 0) < (-100)) from (sm_plc_of q5).2.1) (show ¬ (100 < (x5 + 0)) from (sm_plc_of q5).2.2)).deep (by decide)) ?_
              refine mz_go 3 (c' := (27, [some (.int (x4 + x3)), some (.int (x5 + 0))], [.int 1], mz_set (mz_set (mz_set w 65 r65) 70 r70) 71 r71)) rfl ?_
              exact mz_ret rfl
            refine mz_go 5 (c' := (110, [some (.ref 65), some (.int (nI I)), some (.int (nI J)), some (.int x3), some (.int x4), some (.int x5), some (.int x6), some (.int (nI k)), some (.int (x4 + x3)), some (.int (x5 + 0))], [.ref 65, .int (x5 + 0), .int (x4 + x3), .ref 65, .int x6], mz_set (mz_set (mz_set w 65 r65) 70 r70) 71 r71)) rfl ?_
            refine mz_doQ (R := mz_r156) (as := [.ref 65]) (rest := [.int (x5 + 0), .int (x4 + x3), .ref 65, .int x6]) (r1 := some (.int (w 7 5))) (m1 := mz_set (mz_set (mz_set w 65 r65) 70 r70) 71 r71) mz_t156 mz_v156_65 rfl rfl rfl rfl rfl ⟨?_, rfl⟩ ?_
            · refine mz_go 4 (c' := (7, [some (.ref 65)], [.int (w 66 15)], mz_set (mz_set (mz_set w 65 r65) 70 r70) 71 r71)) rfl ?_
              rw [h6615]
              exact mz_ret rfl
            refine mz_doQ (R := mz_r155) (as := [.ref 65, .int (x4 + x3), .int (x5 + 0), .int (w 7 5)]) (rest := [.int x6]) (r1 := some (.int (sm_end w (w 7 5) (x4 + x3) (x5 + 0) 0 0))) (m1 := mz_set (mz_set (mz_set (mz_set (mz_set (mz_set w 65 r65) 70 r70) 71 r71) 65 re1) 70 fe1) 71 ge1) mz_t155 mz_v155_65 rfl rfl rfl rfl rfl (Ee1.deep (by decide)) ?_
            refine mz_go 3 (c' := (119, [some (.ref 65), some (.int (nI I)), some (.int (nI J)), some (.int x3), some (.int x4), some (.int x5), some (.int x6), some (.int (nI k)), some (.int (x4 + x3)), some (.int (x5 + 0))], [.int (nI J), .int (nI I), .ref 65, .int (sm_end w (w 7 5) (x4 + x3) (x5 + 0) 0 0), .int x6], mz_set (mz_set (mz_set (mz_set (mz_set (mz_set w 65 r65) 70 r70) 71 r71) 65 re1) 70 fe1) 71 ge1)) rfl ?_
            refine mz_doQ (R := mz_r186) (as := [.ref 65, .int (nI I), .int (nI J)]) (rest := [.int (sm_end w (w 7 5) (x4 + x3) (x5 + 0) 0 0), .int x6]) (r1 := some (.int ve2)) (m1 := mz_set (mz_set (mz_set (mz_set (mz_set (mz_set w 65 r65) 70 r70) 71 r71) 65 re1) 70 fe1) 71 ge1) mz_t186 mz_v186_65 rfl rfl rfl rfl rfl (Ee2.deep (by decide)) ?_
            refine mz_go 1 (c' := (if (sm_end w (w 7 5) (x4 + x3) (x5 + 0) 0 0) = ve2 then 129 else 125, [some (.ref 65), some (.int (nI I)), some (.int (nI J)), some (.int x3), some (.int x4), some (.int x5), some (.int x6), some (.int (nI k)), some (.int (x4 + x3)), some (.int (x5 + 0))], [.int x6], mz_set (mz_set (mz_set (mz_set (mz_set (mz_set w 65 r65) 70 r70) 71 r71) 65 re1) 70 fe1) 71 ge1)) rfl ?_
            refine mz_ifT q6 ?_
            refine mz_go 5 (c' := (54, [some (.ref 65), some (.int (nI I)), some (.int (nI J)), some (.int x3), some (.int x4), some (.int x5), some (.int (x6 + 0)), some (.int ((nI k) + 1)), some (.int (x4 + x3)), some (.int (x5 + 0))], [], mz_set (mz_set (mz_set (mz_set (mz_set (mz_set w 65 r65) 70 r70) 71 r71) 65 re1) 70 fe1) 71 ge1)) rfl ?_
            exact hr
          · obtain ⟨vr, s65, s70, s71, hr, hsk⟩ := ih (k + 1) (by omega) (x6 + 1) (some (.int (x4 + x3))) (some (.int (x5 + 0))) ((mz_set (mz_set (mz_set (mz_set (mz_set (mz_set w 65 r65) 70 r70) 71 r71) 65 re1) 70 fe1) 71 ge1) 65) ((mz_set (mz_set (mz_set (mz_set (mz_set (mz_set w 65 r65) 70 r70) 71 r71) 65 re1) 70 fe1) 71 ge1) 70) ((mz_set (mz_set (mz_set (mz_set (mz_set (mz_set w 65 r65) 70 r70) 71 r71) 65 re1) 70 fe1) 71 ge1) 71) (fun k hk => (ke1 k hk).trans (hkr k hk))
            rw [nI_succ k] at hr
            have hm : mz_set (mz_set (mz_set (mz_set (mz_set (mz_set w 65 r65) 70 r70) 71 r71) 65 re1) 70 fe1) 71 ge1 = mz_set (mz_set (mz_set w 65 ((mz_set (mz_set (mz_set (mz_set (mz_set (mz_set w 65 r65) 70 r70) 71 r71) 65 re1) 70 fe1) 71 ge1) 65)) 70 ((mz_set (mz_set (mz_set (mz_set (mz_set (mz_set w 65 r65) 70 r70) 71 r71) 65 re1) 70 fe1) 71 ge1) 70)) 71 ((mz_set (mz_set (mz_set (mz_set (mz_set (mz_set w 65 r65) 70 r70) 71 r71) 65 re1) 70 fe1) 71 ge1) 71) := sm_of3 (fun i h1 h2 h3 => by simp only [mz_set_ne h1, mz_set_ne h2, mz_set_ne h3])
            rw [← hm] at hr
            refine ⟨vr, s65, s70, s71, ?_, hsk⟩
            refine mz_go 3 (c' := (if 4 ≤ (nI k) then 139 else 60, [some (.ref 65), some (.int (nI I)), some (.int (nI J)), some (.int x3), some (.int x4), some (.int x5), some (.int x6), some (.int (nI k)), x8, x9], [], mz_set (mz_set (mz_set w 65 r65) 70 r70) 71 r71)) rfl ?_
            refine mz_ifF (show ¬ (4 ≤ (nI k)) from (sm_nleN rfl rfl (show k < 4 by omega) (show 4 < 2 ^ 31 by omega))) ?_
            refine mz_go 4 (c' := (if (nI k) = 2 then 68 else 72, [some (.ref 65), some (.int (nI I)), some (.int (nI J)), some (.int x3), some (.int x4), some (.int x5), some (.int x6), some (.int (nI k)), x8, x9], [.int x4], mz_set (mz_set (mz_set w 65 r65) 70 r70) 71 r71)) rfl ?_
            refine mz_ifF (show ¬ ((nI k) = 2) from (sm_neN rfl rfl (show k ≠ 2 by omega) (show k < 2 ^ 31 by omega) (show 2 < 2 ^ 31 by omega))) ?_
            refine mz_go 7 (c' := (if (nI k) = 1 then 84 else 88, [some (.ref 65), some (.int (nI I)), some (.int (nI J)), some (.int x3), some (.int x4), some (.int x5), some (.int x6), some (.int (nI k)), some (.int (x4 + x3)), x9], [.int x5], mz_set (mz_set (mz_set w 65 r65) 70 r70) 71 r71)) rfl ?_
            refine mz_ifT (show ((nI k) = 1) from (sm_eqN rfl rfl (show k = 1 by omega))) ?_
            refine mz_go 7 (c' := (98, [some (.ref 65), some (.int (nI I)), some (.int (nI J)), some (.int x3), some (.int x4), some (.int x5), some (.int x6), some (.int (nI k)), some (.int (x4 + x3)), some (.int (x5 + 0))], [.int (x5 + 0), .int (x4 + x3), .int x6], mz_set (mz_set (mz_set w 65 r65) 70 r70) 71 r71)) rfl ?_
            refine mz_doQ (R := mz_r131) (as := [.int (x4 + x3), .int (x5 + 0)]) (rest := [.int x6]) (r1 := some (.int 1)) (m1 := mz_set (mz_set (mz_set w 65 r65) 70 r70) 71 r71) mz_t131 mz_v131 rfl rfl rfl rfl rfl ⟨?_, rfl⟩ ?_
            · refine mz_go 3 (c' := (5, [some (.int (x4 + x3)), some (.int (x5 + 0))], [.int 100, .int (-100), .int (x4 + x3)], mz_set (mz_set (mz_set w 65 r65) 70 r70) 71 r71)) rfl ?_
              refine mz_doQ (R := mz_r128) (as := [.int (x4 + x3), .int (-100), .int 100]) (rest := []) (r1 := some (.int 1)) (m1 := mz_set (mz_set (mz_set w 65 r65) 70 r70) 71 r71) mz_t128 mz_v128 rfl rfl rfl rfl rfl ((ct_in1 (m := mz_set (mz_set (mz_set w 65 r65) 70 r70) 71 r71) (v := x4 + x3) (a := (-100)) (b := 100) (show ¬ ((x4 + x3) < (-100)) from (sm_plc_of q5).1.1) (show ¬ (100 < (x4 + x3)) from (sm_plc_of q5).1.2)).deep (by decide)) ?_
              refine mz_go 4 (c' := (16, [some (.int (x4 + x3)), some (.int (x5 + 0))], [.int 100, .int (-100), .int (x5 + 0)], mz_set (mz_set (mz_set w 65 r65) 70 r70) 71 r71)) rfl ?_
              refine mz_doQ (R := mz_r128) (as := [.int (x5 + 0), .int (-100), .int 100]) (rest := []) (r1 := some (.int 1)) (m1 := mz_set (mz_set (mz_set w 65 r65) 70 r70) 71 r71) mz_t128 mz_v128 rfl rfl rfl rfl rfl ((ct_in1 (m := mz_set (mz_set (mz_set w 65 r65) 70 r70) 71 r71) (v := x5 + 0) (a := (-100)) (b := 100) (show ¬ ((x5 + 0) < (-100)) from (sm_plc_of q5).2.1) (show ¬ (100 < (x5 + 0)) from (sm_plc_of q5).2.2)).deep (by decide)) ?_
              refine mz_go 3 (c' := (27, [some (.int (x4 + x3)), some (.int (x5 + 0))], [.int 1], mz_set (mz_set (mz_set w 65 r65) 70 r70) 71 r71)) rfl ?_
              exact mz_ret rfl
            refine mz_go 5 (c' := (110, [some (.ref 65), some (.int (nI I)), some (.int (nI J)), some (.int x3), some (.int x4), some (.int x5), some (.int x6), some (.int (nI k)), some (.int (x4 + x3)), some (.int (x5 + 0))], [.ref 65, .int (x5 + 0), .int (x4 + x3), .ref 65, .int x6], mz_set (mz_set (mz_set w 65 r65) 70 r70) 71 r71)) rfl ?_
            refine mz_doQ (R := mz_r156) (as := [.ref 65]) (rest := [.int (x5 + 0), .int (x4 + x3), .ref 65, .int x6]) (r1 := some (.int (w 7 5))) (m1 := mz_set (mz_set (mz_set w 65 r65) 70 r70) 71 r71) mz_t156 mz_v156_65 rfl rfl rfl rfl rfl ⟨?_, rfl⟩ ?_
            · refine mz_go 4 (c' := (7, [some (.ref 65)], [.int (w 66 15)], mz_set (mz_set (mz_set w 65 r65) 70 r70) 71 r71)) rfl ?_
              rw [h6615]
              exact mz_ret rfl
            refine mz_doQ (R := mz_r155) (as := [.ref 65, .int (x4 + x3), .int (x5 + 0), .int (w 7 5)]) (rest := [.int x6]) (r1 := some (.int (sm_end w (w 7 5) (x4 + x3) (x5 + 0) 0 0))) (m1 := mz_set (mz_set (mz_set (mz_set (mz_set (mz_set w 65 r65) 70 r70) 71 r71) 65 re1) 70 fe1) 71 ge1) mz_t155 mz_v155_65 rfl rfl rfl rfl rfl (Ee1.deep (by decide)) ?_
            refine mz_go 3 (c' := (119, [some (.ref 65), some (.int (nI I)), some (.int (nI J)), some (.int x3), some (.int x4), some (.int x5), some (.int x6), some (.int (nI k)), some (.int (x4 + x3)), some (.int (x5 + 0))], [.int (nI J), .int (nI I), .ref 65, .int (sm_end w (w 7 5) (x4 + x3) (x5 + 0) 0 0), .int x6], mz_set (mz_set (mz_set (mz_set (mz_set (mz_set w 65 r65) 70 r70) 71 r71) 65 re1) 70 fe1) 71 ge1)) rfl ?_
            refine mz_doQ (R := mz_r186) (as := [.ref 65, .int (nI I), .int (nI J)]) (rest := [.int (sm_end w (w 7 5) (x4 + x3) (x5 + 0) 0 0), .int x6]) (r1 := some (.int ve2)) (m1 := mz_set (mz_set (mz_set (mz_set (mz_set (mz_set w 65 r65) 70 r70) 71 r71) 65 re1) 70 fe1) 71 ge1) mz_t186 mz_v186_65 rfl rfl rfl rfl rfl (Ee2.deep (by decide)) ?_
            refine mz_go 1 (c' := (if (sm_end w (w 7 5) (x4 + x3) (x5 + 0) 0 0) = ve2 then 129 else 125, [some (.ref 65), some (.int (nI I)), some (.int (nI J)), some (.int x3), some (.int x4), some (.int x5), some (.int x6), some (.int (nI k)), some (.int (x4 + x3)), some (.int (x5 + 0))], [.int x6], mz_set (mz_set (mz_set (mz_set (mz_set (mz_set w 65 r65) 70 r70) 71 r71) 65 re1) 70 fe1) 71 ge1)) rfl ?_
            refine mz_ifF q6 ?_
            refine mz_go 6 (c' := (54, [some (.ref 65), some (.int (nI I)), some (.int (nI J)), some (.int x3), some (.int x4), some (.int x5), some (.int (x6 + 1)), some (.int ((nI k) + 1)), some (.int (x4 + x3)), some (.int (x5 + 0))], [], mz_set (mz_set (mz_set (mz_set (mz_set (mz_set w 65 r65) 70 r70) 71 r71) 65 re1) 70 fe1) 71 ge1)) rfl ?_
            exact hr
      · by_cases q7 : (sm_bI (sm_plc (x4 + x3) (x5 + x3))) = 0
        · obtain ⟨vr, s65, s70, s71, hr, hsk⟩ := ih (k + 1) (by omega) (x6 + 0) (some (.int (x4 + x3))) (some (.int (x5 + x3))) ((mz_set (mz_set (mz_set w 65 r65) 70 r70) 71 r71) 65) ((mz_set (mz_set (mz_set w 65 r65) 70 r70) 71 r71) 70) ((mz_set (mz_set (mz_set w 65 r65) 70 r70) 71 r71) 71) hkr
          rw [nI_succ k] at hr
          have hm : mz_set (mz_set (mz_set w 65 r65) 70 r70) 71 r71 = mz_set (mz_set (mz_set w 65 ((mz_set (mz_set (mz_set w 65 r65) 70 r70) 71 r71) 65)) 70 ((mz_set (mz_set (mz_set w 65 r65) 70 r70) 71 r71) 70)) 71 ((mz_set (mz_set (mz_set w 65 r65) 70 r70) 71 r71) 71) := sm_of3 (fun i h1 h2 h3 => by simp only [mz_set_ne h1, mz_set_ne h2, mz_set_ne h3])
          rw [← hm] at hr
          refine ⟨vr, s65, s70, s71, ?_, hsk⟩
          refine mz_go 3 (c' := (if 4 ≤ (nI k) then 139 else 60, [some (.ref 65), some (.int (nI I)), some (.int (nI J)), some (.int x3), some (.int x4), some (.int x5), some (.int x6), some (.int (nI k)), x8, x9], [], mz_set (mz_set (mz_set w 65 r65) 70 r70) 71 r71)) rfl ?_
          refine mz_ifF (show ¬ (4 ≤ (nI k)) from (sm_nleN rfl rfl (show k < 4 by omega) (show 4 < 2 ^ 31 by omega))) ?_
          refine mz_go 4 (c' := (if (nI k) = 2 then 68 else 72, [some (.ref 65), some (.int (nI I)), some (.int (nI J)), some (.int x3), some (.int x4), some (.int x5), some (.int x6), some (.int (nI k)), x8, x9], [.int x4], mz_set (mz_set (mz_set w 65 r65) 70 r70) 71 r71)) rfl ?_
          refine mz_ifF (show ¬ ((nI k) = 2) from (sm_neN rfl rfl (show k ≠ 2 by omega) (show k < 2 ^ 31 by omega) (show 2 < 2 ^ 31 by omega))) ?_
          refine mz_go 7 (c' := (if (nI k) = 1 then 84 else 88, [some (.ref 65), some (.int (nI I)), some (.int (nI J)), some (.int x3), some (.int x4), some (.int x5), some (.int x6), some (.int (nI k)), some (.int (x4 + x3)), x9], [.int x5], mz_set (mz_set (mz_set w 65 r65) 70 r70) 71 r71)) rfl ?_
          refine mz_ifF (show ¬ ((nI k) = 1) from (sm_neN rfl rfl (show k ≠ 1 by omega) (show k < 2 ^ 31 by omega) (show 1 < 2 ^ 31 by omega))) ?_
          refine mz_go 6 (c' := (98, [some (.ref 65), some (.int (nI I)), some (.int (nI J)), some (.int x3), some (.int x4), some (.int x5), some (.int x6), some (.int (nI k)), some (.int (x4 + x3)), some (.int (x5 + x3))], [.int (x5 + x3), .int (x4 + x3), .int x6], mz_set (mz_set (mz_set w 65 r65) 70 r70) 71 r71)) rfl ?_
          refine mz_doQ (R := mz_r131) (as := [.int (x4 + x3), .int (x5 + x3)]) (rest := [.int x6]) (r1 := some (.int (sm_bI (sm_plc (x4 + x3) (x5 + x3))))) (m1 := mz_set (mz_set (mz_set w 65 r65) 70 r70) 71 r71) mz_t131 mz_v131 rfl rfl rfl rfl rfl ((ct_plc (m := mz_set (mz_set (mz_set w 65 r65) 70 r70) 71 r71) (x4 + x3) (x5 + x3)).deep (by decide)) ?_
          refine mz_go 1 (c' := (if (sm_bI (sm_plc (x4 + x3) (x5 + x3))) = 0 then 129 else 104, [some (.ref 65), some (.int (nI I)), some (.int (nI J)), some (.int x3), some (.int x4), some (.int x5), some (.int x6), some (.int (nI k)), some (.int (x4 + x3)), some (.int (x5 + x3))], [.int x6], mz_set (mz_set (mz_set w 65 r65) 70 r70) 71 r71)) rfl ?_
          refine mz_ifT q7 ?_
          refine mz_go 5 (c' := (54, [some (.ref 65), some (.int (nI I)), some (.int (nI J)), some (.int x3), some (.int x4), some (.int x5), some (.int (x6 + 0)), some (.int ((nI k) + 1)), some (.int (x4 + x3)), some (.int (x5 + x3))], [], mz_set (mz_set (mz_set w 65 r65) 70 r70) 71 r71)) rfl ?_
          exact hr
        · obtain ⟨re1, fe1, ge1, le1, ke1, Ee1⟩ := ct_from (w := w) (m := mz_set (mz_set (mz_set w 65 r65) 70 r70) 71 r71) hw hr2 (hr5.imp id Or.inl) hr80 (sm_B_of (sm_plc_of q7).1.1 (sm_plc_of q7).1.2) (sm_B_of (sm_plc_of q7).2.1 (sm_plc_of q7).2.2)
          obtain ⟨ve2, Ee2⟩ := xr_col (m := mz_set (mz_set (mz_set (mz_set (mz_set (mz_set w 65 r65) 70 r70) 71 r71) 65 re1) 70 fe1) 71 ge1) (A := I) (B := J) (by omega) (by omega) (a := nI I) (b := nI J) rfl rfl
          by_cases q8 : (sm_end w (w 7 5) (x4 + x3) (x5 + x3) 0 0) = ve2
          · obtain ⟨vr, s65, s70, s71, hr, hsk⟩ := ih (k + 1) (by omega) (x6 + 0) (some (.int (x4 + x3))) (some (.int (x5 + x3))) ((mz_set (mz_set (mz_set (mz_set (mz_set (mz_set w 65 r65) 70 r70) 71 r71) 65 re1) 70 fe1) 71 ge1) 65) ((mz_set (mz_set (mz_set (mz_set (mz_set (mz_set w 65 r65) 70 r70) 71 r71) 65 re1) 70 fe1) 71 ge1) 70) ((mz_set (mz_set (mz_set (mz_set (mz_set (mz_set w 65 r65) 70 r70) 71 r71) 65 re1) 70 fe1) 71 ge1) 71) (fun k hk => (ke1 k hk).trans (hkr k hk))
            rw [nI_succ k] at hr
            have hm : mz_set (mz_set (mz_set (mz_set (mz_set (mz_set w 65 r65) 70 r70) 71 r71) 65 re1) 70 fe1) 71 ge1 = mz_set (mz_set (mz_set w 65 ((mz_set (mz_set (mz_set (mz_set (mz_set (mz_set w 65 r65) 70 r70) 71 r71) 65 re1) 70 fe1) 71 ge1) 65)) 70 ((mz_set (mz_set (mz_set (mz_set (mz_set (mz_set w 65 r65) 70 r70) 71 r71) 65 re1) 70 fe1) 71 ge1) 70)) 71 ((mz_set (mz_set (mz_set (mz_set (mz_set (mz_set w 65 r65) 70 r70) 71 r71) 65 re1) 70 fe1) 71 ge1) 71) := sm_of3 (fun i h1 h2 h3 => by simp only [mz_set_ne h1, mz_set_ne h2, mz_set_ne h3])
            rw [← hm] at hr
            refine ⟨vr, s65, s70, s71, ?_, hsk⟩
            refine mz_go 3 (c' := (if 4 ≤ (nI k) then 139 else 60, [some (.ref 65), some (.int (nI I)), some (.int (nI J)), some (.int x3), some (.int x4), some (.int x5), some (.int x6), some (.int (nI k)), x8, x9], [], mz_set (mz_set (mz_set w 65 r65) 70 r70) 71 r71)) rfl ?_
            refine mz_ifF (show ¬ (4 ≤ (nI k)) from (sm_nleN rfl rfl (show k < 4 by omega) (show 4 < 2 ^ 31 by omega))) ?_
            refine mz_go 4 (c' := (if (nI k) = 2 then 68 else 72, [some (.ref 65), some (.int (nI I)), some (.int (nI J)), some (.int x3), some (.int x4), some (.int x5), some (.int x6), some (.int (nI k)), x8, x9], [.int x4], mz_set (mz_set (mz_set w 65 r65) 70 r70) 71 r71)) rfl ?_
            refine mz_ifF (show ¬ ((nI k) = 2) from (sm_neN rfl rfl (show k ≠ 2 by omega) (show k < 2 ^ 31 by omega) (show 2 < 2 ^ 31 by omega))) ?_
            refine mz_go 7 (c' := (if (nI k) = 1 then 84 else 88, [some (.ref 65), some (.int (nI I)), some (.int (nI J)), some (.int x3), some (.int x4), some (.int x5), some (.int x6), some (.int (nI k)), some (.int (x4 + x3)), x9], [.int x5], mz_set (mz_set (mz_set w 65 r65) 70 r70) 71 r71)) rfl ?_
            refine mz_ifF (show ¬ ((nI k) = 1) from (sm_neN rfl rfl (show k ≠ 1 by omega) (show k < 2 ^ 31 by omega) (show 1 < 2 ^ 31 by omega))) ?_
            refine mz_go 6 (c' := (98, [some (.ref 65), some (.int (nI I)), some (.int (nI J)), some (.int x3), some (.int x4), some (.int x5), some (.int x6), some (.int (nI k)), some (.int (x4 + x3)), some (.int (x5 + x3))], [.int (x5 + x3), .int (x4 + x3), .int x6], mz_set (mz_set (mz_set w 65 r65) 70 r70) 71 r71)) rfl ?_
            refine mz_doQ (R := mz_r131) (as := [.int (x4 + x3), .int (x5 + x3)]) (rest := [.int x6]) (r1 := some (.int 1)) (m1 := mz_set (mz_set (mz_set w 65 r65) 70 r70) 71 r71) mz_t131 mz_v131 rfl rfl rfl rfl rfl ⟨?_, rfl⟩ ?_
            · refine mz_go 3 (c' := (5, [some (.int (x4 + x3)), some (.int (x5 + x3))], [.int 100, .int (-100), .int (x4 + x3)], mz_set (mz_set (mz_set w 65 r65) 70 r70) 71 r71)) rfl ?_
              refine mz_doQ (R := mz_r128) (as := [.int (x4 + x3), .int (-100), .int 100]) (rest := []) (r1 := some (.int 1)) (m1 := mz_set (mz_set (mz_set w 65 r65) 70 r70) 71 r71) mz_t128 mz_v128 rfl rfl rfl rfl rfl ((ct_in1 (m := mz_set (mz_set (mz_set w 65 r65) 70 r70) 71 r71) (v := x4 + x3) (a := (-100)) (b := 100) (show ¬ ((x4 + x3) < (-100)) from (sm_plc_of q7).1.1) (show ¬ (100 < (x4 + x3)) from (sm_plc_of q7).1.2)).deep (by decide)) ?_
              refine mz_go 4 (c' := (16, [some (.int (x4 + x3)), some (.int (x5 + x3))], [.int 100, .int (-100), .int (x5 + x3)], mz_set (mz_set (mz_set w 65 r65) 70 r70) 71 r71)) rfl ?_
              refine mz_doQ (R := mz_r128) (as := [.int (x5 + x3), .int (-100), .int 100]) (rest := []) (r1 := some (.int 1)) (m1 := mz_set (mz_set (mz_set w 65 r65) 70 r70) 71 r71) mz_t128 mz_v128 rfl rfl rfl rfl rfl ((ct_in1 (m := mz_set (mz_set (mz_set w 65 r65) 70 r70) 71 r71) (v := x5 + x3) (a := (-100)) (b := 100) (show ¬ ((x5 + x3) < (-100)) from (sm_plc_of q7).2.1) (show ¬ (100 < (x5 + x3)) from (sm_plc_of q7).2.2)).deep (by decide)) ?_
              refine mz_go 3 (c' := (27, [some (.int (x4 + x3)), some (.int (x5 + x3))], [.int 1], mz_set (mz_set (mz_set w 65 r65) 70 r70) 71 r71)) rfl ?_
              exact mz_ret rfl
            refine mz_go 5 (c' := (110, [some (.ref 65), some (.int (nI I)), some (.int (nI J)), some (.int x3), some (.int x4), some (.int x5), some (.int x6), some (.int (nI k)), some (.int (x4 + x3)), some (.int (x5 + x3))], [.ref 65, .int (x5 + x3), .int (x4 + x3), .ref 65, .int x6], mz_set (mz_set (mz_set w 65 r65) 70 r70) 71 r71)) rfl ?_
            refine mz_doQ (R := mz_r156) (as := [.ref 65]) (rest := [.int (x5 + x3), .int (x4 + x3), .ref 65, .int x6]) (r1 := some (.int (w 7 5))) (m1 := mz_set (mz_set (mz_set w 65 r65) 70 r70) 71 r71) mz_t156 mz_v156_65 rfl rfl rfl rfl rfl ⟨?_, rfl⟩ ?_
            · refine mz_go 4 (c' := (7, [some (.ref 65)], [.int (w 66 15)], mz_set (mz_set (mz_set w 65 r65) 70 r70) 71 r71)) rfl ?_
              rw [h6615]
              exact mz_ret rfl
            refine mz_doQ (R := mz_r155) (as := [.ref 65, .int (x4 + x3), .int (x5 + x3), .int (w 7 5)]) (rest := [.int x6]) (r1 := some (.int (sm_end w (w 7 5) (x4 + x3) (x5 + x3) 0 0))) (m1 := mz_set (mz_set (mz_set (mz_set (mz_set (mz_set w 65 r65) 70 r70) 71 r71) 65 re1) 70 fe1) 71 ge1) mz_t155 mz_v155_65 rfl rfl rfl rfl rfl (Ee1.deep (by decide)) ?_
            refine mz_go 3 (c' := (119, [some (.ref 65), some (.int (nI I)), some (.int (nI J)), some (.int x3), some (.int x4), some (.int x5), some (.int x6), some (.int (nI k)), some (.int (x4 + x3)), some (.int (x5 + x3))], [.int (nI J), .int (nI I), .ref 65, .int (sm_end w (w 7 5) (x4 + x3) (x5 + x3) 0 0), .int x6], mz_set (mz_set (mz_set (mz_set (mz_set (mz_set w 65 r65) 70 r70) 71 r71) 65 re1) 70 fe1) 71 ge1)) rfl ?_
            refine mz_doQ (R := mz_r186) (as := [.ref 65, .int (nI I), .int (nI J)]) (rest := [.int (sm_end w (w 7 5) (x4 + x3) (x5 + x3) 0 0), .int x6]) (r1 := some (.int ve2)) (m1 := mz_set (mz_set (mz_set (mz_set (mz_set (mz_set w 65 r65) 70 r70) 71 r71) 65 re1) 70 fe1) 71 ge1) mz_t186 mz_v186_65 rfl rfl rfl rfl rfl (Ee2.deep (by decide)) ?_
            refine mz_go 1 (c' := (if (sm_end w (w 7 5) (x4 + x3) (x5 + x3) 0 0) = ve2 then 129 else 125, [some (.ref 65), some (.int (nI I)), some (.int (nI J)), some (.int x3), some (.int x4), some (.int x5), some (.int x6), some (.int (nI k)), some (.int (x4 + x3)), some (.int (x5 + x3))], [.int x6], mz_set (mz_set (mz_set (mz_set (mz_set (mz_set w 65 r65) 70 r70) 71 r71) 65 re1) 70 fe1) 71 ge1)) rfl ?_
            refine mz_ifT q8 ?_
            refine mz_go 5 (c' := (54, [some (.ref 65), some (.int (nI I)), some (.int (nI J)), some (.int x3), some (.int x4), some (.int x5), some (.int (x6 + 0)), some (.int ((nI k) + 1)), some (.int (x4 + x3)), some (.int (x5 + x3))], [], mz_set (mz_set (mz_set (mz_set (mz_set (mz_set w 65 r65) 70 r70) 71 r71) 65 re1) 70 fe1) 71 ge1)) rfl ?_
            exact hr
          · obtain ⟨vr, s65, s70, s71, hr, hsk⟩ := ih (k + 1) (by omega) (x6 + 1) (some (.int (x4 + x3))) (some (.int (x5 + x3))) ((mz_set (mz_set (mz_set (mz_set (mz_set (mz_set w 65 r65) 70 r70) 71 r71) 65 re1) 70 fe1) 71 ge1) 65) ((mz_set (mz_set (mz_set (mz_set (mz_set (mz_set w 65 r65) 70 r70) 71 r71) 65 re1) 70 fe1) 71 ge1) 70) ((mz_set (mz_set (mz_set (mz_set (mz_set (mz_set w 65 r65) 70 r70) 71 r71) 65 re1) 70 fe1) 71 ge1) 71) (fun k hk => (ke1 k hk).trans (hkr k hk))
            rw [nI_succ k] at hr
            have hm : mz_set (mz_set (mz_set (mz_set (mz_set (mz_set w 65 r65) 70 r70) 71 r71) 65 re1) 70 fe1) 71 ge1 = mz_set (mz_set (mz_set w 65 ((mz_set (mz_set (mz_set (mz_set (mz_set (mz_set w 65 r65) 70 r70) 71 r71) 65 re1) 70 fe1) 71 ge1) 65)) 70 ((mz_set (mz_set (mz_set (mz_set (mz_set (mz_set w 65 r65) 70 r70) 71 r71) 65 re1) 70 fe1) 71 ge1) 70)) 71 ((mz_set (mz_set (mz_set (mz_set (mz_set (mz_set w 65 r65) 70 r70) 71 r71) 65 re1) 70 fe1) 71 ge1) 71) := sm_of3 (fun i h1 h2 h3 => by simp only [mz_set_ne h1, mz_set_ne h2, mz_set_ne h3])
            rw [← hm] at hr
            refine ⟨vr, s65, s70, s71, ?_, hsk⟩
            refine mz_go 3 (c' := (if 4 ≤ (nI k) then 139 else 60, [some (.ref 65), some (.int (nI I)), some (.int (nI J)), some (.int x3), some (.int x4), some (.int x5), some (.int x6), some (.int (nI k)), x8, x9], [], mz_set (mz_set (mz_set w 65 r65) 70 r70) 71 r71)) rfl ?_
            refine mz_ifF (show ¬ (4 ≤ (nI k)) from (sm_nleN rfl rfl (show k < 4 by omega) (show 4 < 2 ^ 31 by omega))) ?_
            refine mz_go 4 (c' := (if (nI k) = 2 then 68 else 72, [some (.ref 65), some (.int (nI I)), some (.int (nI J)), some (.int x3), some (.int x4), some (.int x5), some (.int x6), some (.int (nI k)), x8, x9], [.int x4], mz_set (mz_set (mz_set w 65 r65) 70 r70) 71 r71)) rfl ?_
            refine mz_ifF (show ¬ ((nI k) = 2) from (sm_neN rfl rfl (show k ≠ 2 by omega) (show k < 2 ^ 31 by omega) (show 2 < 2 ^ 31 by omega))) ?_
            refine mz_go 7 (c' := (if (nI k) = 1 then 84 else 88, [some (.ref 65), some (.int (nI I)), some (.int (nI J)), some (.int x3), some (.int x4), some (.int x5), some (.int x6), some (.int (nI k)), some (.int (x4 + x3)), x9], [.int x5], mz_set (mz_set (mz_set w 65 r65) 70 r70) 71 r71)) rfl ?_
            refine mz_ifF (show ¬ ((nI k) = 1) from (sm_neN rfl rfl (show k ≠ 1 by omega) (show k < 2 ^ 31 by omega) (show 1 < 2 ^ 31 by omega))) ?_
            refine mz_go 6 (c' := (98, [some (.ref 65), some (.int (nI I)), some (.int (nI J)), some (.int x3), some (.int x4), some (.int x5), some (.int x6), some (.int (nI k)), some (.int (x4 + x3)), some (.int (x5 + x3))], [.int (x5 + x3), .int (x4 + x3), .int x6], mz_set (mz_set (mz_set w 65 r65) 70 r70) 71 r71)) rfl ?_
            refine mz_doQ (R := mz_r131) (as := [.int (x4 + x3), .int (x5 + x3)]) (rest := [.int x6]) (r1 := some (.int 1)) (m1 := mz_set (mz_set (mz_set w 65 r65) 70 r70) 71 r71) mz_t131 mz_v131 rfl rfl rfl rfl rfl ⟨?_, rfl⟩ ?_
            · refine mz_go 3 (c' := (5, [some (.int (x4 + x3)), some (.int (x5 + x3))], [.int 100, .int (-100), .int (x4 + x3)], mz_set (mz_set (mz_set w 65 r65) 70 r70) 71 r71)) rfl ?_
              refine mz_doQ (R := mz_r128) (as := [.int (x4 + x3), .int (-100), .int 100]) (rest := []) (r1 := some (.int 1)) (m1 := mz_set (mz_set (mz_set w 65 r65) 70 r70) 71 r71) mz_t128 mz_v128 rfl rfl rfl rfl rfl ((ct_in1 (m := mz_set (mz_set (mz_set w 65 r65) 70 r70) 71 r71) (v := x4 + x3) (a := (-100)) (b := 100) (show ¬ ((x4 + x3) < (-100)) from (sm_plc_of q7).1.1) (show ¬ (100 < (x4 + x3)) from (sm_plc_of q7).1.2)).deep (by decide)) ?_
              refine mz_go 4 (c' := (16, [some (.int (x4 + x3)), some (.int (x5 + x3))], [.int 100, .int (-100), .int (x5 + x3)], mz_set (mz_set (mz_set w 65 r65) 70 r70) 71 r71)) rfl ?_
              refine mz_doQ (R := mz_r128) (as := [.int (x5 + x3), .int (-100), .int 100]) (rest := []) (r1 := some (.int 1)) (m1 := mz_set (mz_set (mz_set w 65 r65) 70 r70) 71 r71) mz_t128 mz_v128 rfl rfl rfl rfl rfl ((ct_in1 (m := mz_set (mz_set (mz_set w 65 r65) 70 r70) 71 r71) (v := x5 + x3) (a := (-100)) (b := 100) (show ¬ ((x5 + x3) < (-100)) from (sm_plc_of q7).2.1) (show ¬ (100 < (x5 + x3)) from (sm_plc_of q7).2.2)).deep (by decide)) ?_
              refine mz_go 3 (c' := (27, [some (.int (x4 + x3)), some (.int (x5 + x3))], [.int 1], mz_set (mz_set (mz_set w 65 r65) 70 r70) 71 r71)) rfl ?_
              exact mz_ret rfl
            refine mz_go 5 (c' := (110, [some (.ref 65), some (.int (nI I)), some (.int (nI J)), some (.int x3), some (.int x4), some (.int x5), some (.int x6), some (.int (nI k)), some (.int (x4 + x3)), some (.int (x5 + x3))], [.ref 65, .int (x5 + x3), .int (x4 + x3), .ref 65, .int x6], mz_set (mz_set (mz_set w 65 r65) 70 r70) 71 r71)) rfl ?_
            refine mz_doQ (R := mz_r156) (as := [.ref 65]) (rest := [.int (x5 + x3), .int (x4 + x3), .ref 65, .int x6]) (r1 := some (.int (w 7 5))) (m1 := mz_set (mz_set (mz_set w 65 r65) 70 r70) 71 r71) mz_t156 mz_v156_65 rfl rfl rfl rfl rfl ⟨?_, rfl⟩ ?_
            · refine mz_go 4 (c' := (7, [some (.ref 65)], [.int (w 66 15)], mz_set (mz_set (mz_set w 65 r65) 70 r70) 71 r71)) rfl ?_
              rw [h6615]
              exact mz_ret rfl
            refine mz_doQ (R := mz_r155) (as := [.ref 65, .int (x4 + x3), .int (x5 + x3), .int (w 7 5)]) (rest := [.int x6]) (r1 := some (.int (sm_end w (w 7 5) (x4 + x3) (x5 + x3) 0 0))) (m1 := mz_set (mz_set (mz_set (mz_set (mz_set (mz_set w 65 r65) 70 r70) 71 r71) 65 re1) 70 fe1) 71 ge1) mz_t155 mz_v155_65 rfl rfl rfl rfl rfl (Ee1.deep (by decide)) ?_
            refine mz_go 3 (c' := (119, [some (.ref 65), some (.int (nI I)), some (.int (nI J)), some (.int x3), some (.int x4), some (.int x5), some (.int x6), some (.int (nI k)), some (.int (x4 + x3)), some (.int (x5 + x3))], [.int (nI J), .int (nI I), .ref 65, .int (sm_end w (w 7 5) (x4 + x3) (x5 + x3) 0 0), .int x6], mz_set (mz_set (mz_set (mz_set (mz_set (mz_set w 65 r65) 70 r70) 71 r71) 65 re1) 70 fe1) 71 ge1)) rfl ?_
            refine mz_doQ (R := mz_r186) (as := [.ref 65, .int (nI I), .int (nI J)]) (rest := [.int (sm_end w (w 7 5) (x4 + x3) (x5 + x3) 0 0), .int x6]) (r1 := some (.int ve2)) (m1 := mz_set (mz_set (mz_set (mz_set (mz_set (mz_set w 65 r65) 70 r70) 71 r71) 65 re1) 70 fe1) 71 ge1) mz_t186 mz_v186_65 rfl rfl rfl rfl rfl (Ee2.deep (by decide)) ?_
            refine mz_go 1 (c' := (if (sm_end w (w 7 5) (x4 + x3) (x5 + x3) 0 0) = ve2 then 129 else 125, [some (.ref 65), some (.int (nI I)), some (.int (nI J)), some (.int x3), some (.int x4), some (.int x5), some (.int x6), some (.int (nI k)), some (.int (x4 + x3)), some (.int (x5 + x3))], [.int x6], mz_set (mz_set (mz_set (mz_set (mz_set (mz_set w 65 r65) 70 r70) 71 r71) 65 re1) 70 fe1) 71 ge1)) rfl ?_
            refine mz_ifF q8 ?_
            refine mz_go 6 (c' := (54, [some (.ref 65), some (.int (nI I)), some (.int (nI J)), some (.int x3), some (.int x4), some (.int x5), some (.int (x6 + 1)), some (.int ((nI k) + 1)), some (.int (x4 + x3)), some (.int (x5 + x3))], [], mz_set (mz_set (mz_set (mz_set (mz_set (mz_set w 65 r65) 70 r70) 71 r71) 65 re1) 70 fe1) 71 ge1)) rfl ?_
            exact hr
set_option maxHeartbeats 4000000 in
set_option maxRecDepth 100000 in
theorem xr_fin {w : mz_M} {N : Nat} (hw : sm_W w N) (hN : N ≤ 6) (hr5 : w 7 5 = 1 ∨ w 7 5 = 2) (hr80 : sm_N 80 (w 7 2)) (hr2 : sm_HR w (w 66)) (h660 : w 66 0 = nI N) (h6615 : w 66 15 = w 7 5) {WW HH : Nat} (hWW : WW ≤ 6) (hHH : HH ≤ 6) (hWH : WW = 0 ↔ HH = 0) (h6660 : w 66 60 = nI WW) (h6661 : w 66 61 = nI HH) {T2 : Nat} (hT2 : w 16 2 = nI T2) (hU2 : w 66 420 = nI T2) (hV2 : T2 = 0 ∨ sm_wf T2 5 (w 17) (w 18)) {I J : Nat} (hI6 : I < 6) (hJ6 : J < 6) {i j : Int32} (ei : i = nI I) (ej : j = nI J) : ∃ v s65 s70 s71, mz_Me 90 mz_r198 [.ref 65, .int i, .int j] w (some (.int v)) (mz_set (mz_set (mz_set w 65 s65) 70 s70) 71 s71) ∧ ∀ k, k < 4 ∨ 8 < k → s65 k = w 65 k := by
  have hT60c := sm_T60 hV2
  subst ei
  subst ej
  have HX1 : ∀ (x6_1 : Int32) (x8_1 : Option Value) (x9_1 : Option Value) (r65_1 : Nat → Int32) (r70_1 : Nat → Int32) (r71_1 : Nat → Int32) (hkr_1 : ∀ k, k < 4 ∨ 8 < k → r65_1 k = w 65 k), ∃ v s65 s70 s71, mz_Ex 90 mz_k198 (139, [some (.ref 65), some (.int (nI I)), some (.int (nI J)), some (.int ((w 66 64) / 2)), some (.int ((w 66 62) + ((nI I) * (w 66 64)))), some (.int ((w 66 63) + ((nI J) * (w 66 64)))), some (.int x6_1), some (.int (nI 4)), x8_1, x9_1], [], mz_set (mz_set (mz_set w 65 r65_1) 70 r70_1) 71 r71_1) (some (.int v), mz_set (mz_set (mz_set w 65 s65) 70 s70) 71 s71) ∧ ∀ k, k < 4 ∨ 8 < k → s65 k = w 65 k := by
    intro x6_1 x8_1 x9_1 r65_1 r70_1 r71_1 hkr_1
    refine ⟨x6_1, ((mz_set (mz_set (mz_set w 65 r65_1) 70 r70_1) 71 r71_1) 65), ((mz_set (mz_set (mz_set w 65 r65_1) 70 r70_1) 71 r71_1) 70), ((mz_set (mz_set (mz_set w 65 r65_1) 70 r70_1) 71 r71_1) 71), ?_, hkr_1⟩
    have hm : mz_set (mz_set (mz_set w 65 r65_1) 70 r70_1) 71 r71_1 = mz_set (mz_set (mz_set w 65 ((mz_set (mz_set (mz_set w 65 r65_1) 70 r70_1) 71 r71_1) 65)) 70 ((mz_set (mz_set (mz_set w 65 r65_1) 70 r70_1) 71 r71_1) 70)) 71 ((mz_set (mz_set (mz_set w 65 r65_1) 70 r70_1) 71 r71_1) 71) := sm_of3 (fun i h1 h2 h3 => by simp only [mz_set_ne h1, mz_set_ne h2, mz_set_ne h3])
    rw [← hm]
    refine mz_go 1 (c' := (141, [some (.ref 65), some (.int (nI I)), some (.int (nI J)), some (.int ((w 66 64) / 2)), some (.int ((w 66 62) + ((nI I) * (w 66 64)))), some (.int ((w 66 63) + ((nI J) * (w 66 64)))), some (.int x6_1), some (.int (nI 4)), x8_1, x9_1], [.int x6_1], mz_set (mz_set (mz_set w 65 r65_1) 70 r70_1) 71 r71_1)) rfl ?_
    exact mz_ret rfl
  obtain ⟨vr, s65, s70, s71, hr, hsk⟩ := xr_fink hw hN hr5 hr80 hr2 h660 h6615 hWW hHH hWH h6660 h6661 hT2 hU2 hV2 hI6 hJ6 ((w 66 64) / 2) ((w 66 62) + ((nI I) * (w 66 64))) ((w 66 63) + ((nI J) * (w 66 64))) HX1 3 1 (by omega) 0 none none ((w) 65) ((w) 70) ((w) 71) (fun _ _ => rfl)
  have hm : w = mz_set (mz_set (mz_set w 65 ((w) 65)) 70 ((w) 70)) 71 ((w) 71) := sm_of3 (fun i h1 h2 h3 => rfl)
  rw [← hm] at hr
  refine ⟨vr, s65, s70, s71, ⟨?_, rfl⟩, hsk⟩
  refine mz_go 24 (c' := (37, [some (.ref 65), some (.int (nI I)), some (.int (nI J)), some (.int ((w 66 64) / 2)), some (.int ((w 66 62) + ((nI I) * (w 66 64)))), none, none, none, none, none], [.int (nI J), .int (w 66 63)], w)) rfl ?_
  refine mz_go 11 (c' := (54, [some (.ref 65), some (.int (nI I)), some (.int (nI J)), some (.int ((w 66 64) / 2)), some (.int ((w 66 62) + ((nI I) * (w 66 64)))), some (.int ((w 66 63) + ((nI J) * (w 66 64)))), some (.int 0), some (.int 1), none, none], [], w)) rfl ?_
  exact hr
set_option maxHeartbeats 4000000 in
set_option maxRecDepth 100000 in
theorem xr_seej {w : mz_M} {N : Nat} (hw : sm_W w N) (hN : N ≤ 6) (hr5 : w 7 5 = 1 ∨ w 7 5 = 2) (hr80 : sm_N 80 (w 7 2)) (hr2 : sm_HR w (w 66)) (h660 : w 66 0 = nI N) (h6615 : w 66 15 = w 7 5) {WW HH : Nat} (hWW : WW ≤ 6) (hHH : HH ≤ 6) (hWH : WW = 0 ↔ HH = 0) (h6660 : w 66 60 = nI WW) (h6661 : w 66 61 = nI HH) {T2 : Nat} (hT2 : w 16 2 = nI T2) (hU2 : w 66 420 = nI T2) (hV2 : T2 = 0 ∨ sm_wf T2 5 (w 17) (w 18)) (xa : Int32) {A : Nat} (hA : A < WW) (HX : ∀ (x2 : Int32) (r65 : Nat → Int32) (r70 : Nat → Int32) (r71 : Nat → Int32) (hkr : ∀ k, k < 4 ∨ 8 < k → r65 k = w 65 k), ∃ v m', mz_Ex 100 mz_k199 (159, [some (.ref 65), some (.int xa), some (.int x2), some (.int (nI A)), some (.int (nI HH))], [], mz_set (mz_set (mz_set w 65 r65) 70 r70) 71 r71) (some (.int v), m') ∧ sm_Sc w m') : ∀ j k : Nat, k + j = HH → ∀ (x2 : Int32) (r65 : Nat → Int32) (r70 : Nat → Int32) (r71 : Nat → Int32) (hkr : ∀ k, k < 4 ∨ 8 < k → r65 k = w 65 k), ∃ v m', mz_Ex 100 mz_k199 (43, [some (.ref 65), some (.int xa), some (.int x2), some (.int (nI A)), some (.int (nI k))], [], mz_set (mz_set (mz_set w 65 r65) 70 r70) 71 r71) (some (.int v), m') ∧ sm_Sc w m' := by
  have hT60c := sm_T60 hV2
  intro j
  induction j with
  | zero =>
    intro k hk x2 r65 r70 r71 hkr
    rw [show k = HH by omega]
    obtain ⟨vr, mr, hr, hsc⟩ := HX x2 ((mz_set (mz_set (mz_set w 65 r65) 70 r70) 71 r71) 65) ((mz_set (mz_set (mz_set w 65 r65) 70 r70) 71 r71) 70) ((mz_set (mz_set (mz_set w 65 r65) 70 r70) 71 r71) 71) hkr
    have hm : mz_set (mz_set (mz_set w 65 r65) 70 r70) 71 r71 = mz_set (mz_set (mz_set w 65 ((mz_set (mz_set (mz_set w 65 r65) 70 r70) 71 r71) 65)) 70 ((mz_set (mz_set (mz_set w 65 r65) 70 r70) 71 r71) 70)) 71 ((mz_set (mz_set (mz_set w 65 r65) 70 r70) 71 r71) 71) := sm_of3 (fun i h1 h2 h3 => by simp only [mz_set_ne h1, mz_set_ne h2, mz_set_ne h3])
    rw [← hm] at hr
    refine ⟨vr, mr, ?_, hsc⟩
    refine mz_go 2 (c' := (46, [some (.ref 65), some (.int xa), some (.int x2), some (.int (nI A)), some (.int (nI HH))], [.ref 65, .int (nI HH)], mz_set (mz_set (mz_set w 65 r65) 70 r70) 71 r71)) rfl ?_
    refine mz_doQ (R := mz_r184) (as := [.ref 65]) (rest := [.int (nI HH)]) (r1 := some (.int (nI HH))) (m1 := mz_set (mz_set (mz_set w 65 r65) 70 r70) 71 r71) mz_t184 mz_v184_65 rfl rfl rfl rfl rfl ⟨?_, rfl⟩ ?_
    · refine mz_go 4 (c' := (7, [some (.ref 65)], [.int (w 66 61)], mz_set (mz_set (mz_set w 65 r65) 70 r70) 71 r71)) rfl ?_
      rw [h6661]
      exact mz_ret rfl
    refine mz_go 1 (c' := (if (nI HH) ≤ (nI HH) then 159 else 52, [some (.ref 65), some (.int xa), some (.int x2), some (.int (nI A)), some (.int (nI HH))], [], mz_set (mz_set (mz_set w 65 r65) 70 r70) 71 r71)) rfl ?_
    refine mz_ifT (show ((nI HH) ≤ (nI HH)) from (sm_leN rfl rfl (show HH ≤ HH by omega) (show HH < 2 ^ 31 by omega))) ?_
    exact hr
  | succ j ih =>
    intro k hk x2 r65 r70 r71 hkr
    by_cases q1 : xa = 1
    · by_cases q2 : (WW - 1) < (A + 1)
      · obtain ⟨vr, mr, hr, hsc⟩ := ih (k + 1) (by omega) (x2 + 0) ((mz_set (mz_set (mz_set w 65 r65) 70 r70) 71 r71) 65) ((mz_set (mz_set (mz_set w 65 r65) 70 r70) 71 r71) 70) ((mz_set (mz_set (mz_set w 65 r65) 70 r70) 71 r71) 71) hkr
        rw [nI_succ k] at hr
        have hm : mz_set (mz_set (mz_set w 65 r65) 70 r70) 71 r71 = mz_set (mz_set (mz_set w 65 ((mz_set (mz_set (mz_set w 65 r65) 70 r70) 71 r71) 65)) 70 ((mz_set (mz_set (mz_set w 65 r65) 70 r70) 71 r71) 70)) 71 ((mz_set (mz_set (mz_set w 65 r65) 70 r70) 71 r71) 71) := sm_of3 (fun i h1 h2 h3 => by simp only [mz_set_ne h1, mz_set_ne h2, mz_set_ne h3])
        rw [← hm] at hr
        refine ⟨vr, mr, ?_, hsc⟩
        refine mz_go 2 (c' := (46, [some (.ref 65), some (.int xa), some (.int x2), some (.int (nI A)), some (.int (nI k))], [.ref 65, .int (nI k)], mz_set (mz_set (mz_set w 65 r65) 70 r70) 71 r71)) rfl ?_
        refine mz_doQ (R := mz_r184) (as := [.ref 65]) (rest := [.int (nI k)]) (r1 := some (.int (nI HH))) (m1 := mz_set (mz_set (mz_set w 65 r65) 70 r70) 71 r71) mz_t184 mz_v184_65 rfl rfl rfl rfl rfl ⟨?_, rfl⟩ ?_
        · refine mz_go 4 (c' := (7, [some (.ref 65)], [.int (w 66 61)], mz_set (mz_set (mz_set w 65 r65) 70 r70) 71 r71)) rfl ?_
          rw [h6661]
          exact mz_ret rfl
        refine mz_go 1 (c' := (if (nI HH) ≤ (nI k) then 159 else 52, [some (.ref 65), some (.int xa), some (.int x2), some (.int (nI A)), some (.int (nI k))], [], mz_set (mz_set (mz_set w 65 r65) 70 r70) 71 r71)) rfl ?_
        refine mz_ifF (show ¬ ((nI HH) ≤ (nI k)) from (sm_nleN rfl rfl (show k < HH by omega) (show HH < 2 ^ 31 by omega))) ?_
        refine mz_go 3 (c' := (if xa = 1 then 57 else 95, [some (.ref 65), some (.int xa), some (.int x2), some (.int (nI A)), some (.int (nI k))], [], mz_set (mz_set (mz_set w 65 r65) 70 r70) 71 r71)) rfl ?_
        refine mz_ifT q1 ?_
        refine mz_go 8 (c' := (66, [some (.ref 65), some (.int xa), some (.int x2), some (.int (nI A)), some (.int (nI k))], [.int ((nI k) + 1), .int ((nI A) + 1), .ref 65, .int x2], mz_set (mz_set (mz_set w 65 r65) 70 r70) 71 r71)) rfl ?_
        refine mz_doQ (R := mz_r187) (as := [.ref 65, .int ((nI A) + 1), .int ((nI k) + 1)]) (rest := [.int x2]) (r1 := some (.int 0)) (m1 := mz_set (mz_set (mz_set w 65 r65) 70 r70) 71 r71) mz_t187 mz_v187_65 rfl rfl rfl rfl rfl ⟨?_, rfl⟩ ?_
        · refine mz_go 3 (c' := (3, [some (.ref 65), some (.int ((nI A) + 1)), some (.int ((nI k) + 1))], [.ref 65, .int 0, .int ((nI A) + 1)], mz_set (mz_set (mz_set w 65 r65) 70 r70) 71 r71)) rfl ?_
          refine mz_doQ (R := mz_r183) (as := [.ref 65]) (rest := [.int 0, .int ((nI A) + 1)]) (r1 := some (.int (nI WW))) (m1 := mz_set (mz_set (mz_set w 65 r65) 70 r70) 71 r71) mz_t183 mz_v183_65 rfl rfl rfl rfl rfl ⟨?_, rfl⟩ ?_
          · refine mz_go 4 (c' := (7, [some (.ref 65)], [.int (w 66 60)], mz_set (mz_set (mz_set w 65 r65) 70 r70) 71 r71)) rfl ?_
            rw [h6660]
            exact mz_ret rfl
          refine mz_go 2 (c' := (8, [some (.ref 65), some (.int ((nI A) + 1)), some (.int ((nI k) + 1))], [.int ((nI WW) - 1), .int 0, .int ((nI A) + 1)], mz_set (mz_set (mz_set w 65 r65) 70 r70) 71 r71)) rfl ?_
          refine mz_doQ (R := mz_r128) (as := [.int ((nI A) + 1), .int 0, .int ((nI WW) - 1)]) (rest := []) (r1 := some (.int 0)) (m1 := mz_set (mz_set (mz_set w 65 r65) 70 r70) 71 r71) mz_t128 mz_v128 rfl rfl rfl rfl rfl ((ct_inG (m := mz_set (mz_set (mz_set w 65 r65) 70 r70) 71 r71) (v := (nI A) + 1) (a := 0) (b := (nI WW) - 1) (show ¬ (((nI A) + 1) < 0) from (sm_nltN (sm_addN rfl rfl) rfl (show 0 ≤ (A + 1) by omega) (show (A + 1) < 2 ^ 31 by omega))) (show (((nI WW) - 1) < ((nI A) + 1)) from (sm_ltN (sm_subN (a := WW) (b := 1) rfl rfl (by omega)) (sm_addN rfl rfl) (show (WW - 1) < (A + 1) by omega) (show (A + 1) < 2 ^ 31 by omega)))).deep (by decide)) ?_
          refine mz_go 2 (c' := (33, [some (.ref 65), some (.int ((nI A) + 1)), some (.int ((nI k) + 1))], [.int 0], mz_set (mz_set (mz_set w 65 r65) 70 r70) 71 r71)) rfl ?_
          exact mz_ret rfl
        refine mz_go 7 (c' := (43, [some (.ref 65), some (.int xa), some (.int (x2 + 0)), some (.int (nI A)), some (.int ((nI k) + 1))], [], mz_set (mz_set (mz_set w 65 r65) 70 r70) 71 r71)) rfl ?_
        exact hr
      · by_cases q3 : (HH - 1) < (k + 1)
        · obtain ⟨vr, mr, hr, hsc⟩ := ih (k + 1) (by omega) (x2 + 0) ((mz_set (mz_set (mz_set w 65 r65) 70 r70) 71 r71) 65) ((mz_set (mz_set (mz_set w 65 r65) 70 r70) 71 r71) 70) ((mz_set (mz_set (mz_set w 65 r65) 70 r70) 71 r71) 71) hkr
          rw [nI_succ k] at hr
          have hm : mz_set (mz_set (mz_set w 65 r65) 70 r70) 71 r71 = mz_set (mz_set (mz_set w 65 ((mz_set (mz_set (mz_set w 65 r65) 70 r70) 71 r71) 65)) 70 ((mz_set (mz_set (mz_set w 65 r65) 70 r70) 71 r71) 70)) 71 ((mz_set (mz_set (mz_set w 65 r65) 70 r70) 71 r71) 71) := sm_of3 (fun i h1 h2 h3 => by simp only [mz_set_ne h1, mz_set_ne h2, mz_set_ne h3])
          rw [← hm] at hr
          refine ⟨vr, mr, ?_, hsc⟩
          refine mz_go 2 (c' := (46, [some (.ref 65), some (.int xa), some (.int x2), some (.int (nI A)), some (.int (nI k))], [.ref 65, .int (nI k)], mz_set (mz_set (mz_set w 65 r65) 70 r70) 71 r71)) rfl ?_
          refine mz_doQ (R := mz_r184) (as := [.ref 65]) (rest := [.int (nI k)]) (r1 := some (.int (nI HH))) (m1 := mz_set (mz_set (mz_set w 65 r65) 70 r70) 71 r71) mz_t184 mz_v184_65 rfl rfl rfl rfl rfl ⟨?_, rfl⟩ ?_
          · refine mz_go 4 (c' := (7, [some (.ref 65)], [.int (w 66 61)], mz_set (mz_set (mz_set w 65 r65) 70 r70) 71 r71)) rfl ?_
            rw [h6661]
            exact mz_ret rfl
          refine mz_go 1 (c' := (if (nI HH) ≤ (nI k) then 159 else 52, [some (.ref 65), some (.int xa), some (.int x2), some (.int (nI A)), some (.int (nI k))], [], mz_set (mz_set (mz_set w 65 r65) 70 r70) 71 r71)) rfl ?_
          refine mz_ifF (show ¬ ((nI HH) ≤ (nI k)) from (sm_nleN rfl rfl (show k < HH by omega) (show HH < 2 ^ 31 by omega))) ?_
          refine mz_go 3 (c' := (if xa = 1 then 57 else 95, [some (.ref 65), some (.int xa), some (.int x2), some (.int (nI A)), some (.int (nI k))], [], mz_set (mz_set (mz_set w 65 r65) 70 r70) 71 r71)) rfl ?_
          refine mz_ifT q1 ?_
          refine mz_go 8 (c' := (66, [some (.ref 65), some (.int xa), some (.int x2), some (.int (nI A)), some (.int (nI k))], [.int ((nI k) + 1), .int ((nI A) + 1), .ref 65, .int x2], mz_set (mz_set (mz_set w 65 r65) 70 r70) 71 r71)) rfl ?_
          refine mz_doQ (R := mz_r187) (as := [.ref 65, .int ((nI A) + 1), .int ((nI k) + 1)]) (rest := [.int x2]) (r1 := some (.int 0)) (m1 := mz_set (mz_set (mz_set w 65 r65) 70 r70) 71 r71) mz_t187 mz_v187_65 rfl rfl rfl rfl rfl ⟨?_, rfl⟩ ?_
          · refine mz_go 3 (c' := (3, [some (.ref 65), some (.int ((nI A) + 1)), some (.int ((nI k) + 1))], [.ref 65, .int 0, .int ((nI A) + 1)], mz_set (mz_set (mz_set w 65 r65) 70 r70) 71 r71)) rfl ?_
            refine mz_doQ (R := mz_r183) (as := [.ref 65]) (rest := [.int 0, .int ((nI A) + 1)]) (r1 := some (.int (nI WW))) (m1 := mz_set (mz_set (mz_set w 65 r65) 70 r70) 71 r71) mz_t183 mz_v183_65 rfl rfl rfl rfl rfl ⟨?_, rfl⟩ ?_
            · refine mz_go 4 (c' := (7, [some (.ref 65)], [.int (w 66 60)], mz_set (mz_set (mz_set w 65 r65) 70 r70) 71 r71)) rfl ?_
              rw [h6660]
              exact mz_ret rfl
            refine mz_go 2 (c' := (8, [some (.ref 65), some (.int ((nI A) + 1)), some (.int ((nI k) + 1))], [.int ((nI WW) - 1), .int 0, .int ((nI A) + 1)], mz_set (mz_set (mz_set w 65 r65) 70 r70) 71 r71)) rfl ?_
            refine mz_doQ (R := mz_r128) (as := [.int ((nI A) + 1), .int 0, .int ((nI WW) - 1)]) (rest := []) (r1 := some (.int 1)) (m1 := mz_set (mz_set (mz_set w 65 r65) 70 r70) 71 r71) mz_t128 mz_v128 rfl rfl rfl rfl rfl ((ct_in1 (m := mz_set (mz_set (mz_set w 65 r65) 70 r70) 71 r71) (v := (nI A) + 1) (a := 0) (b := (nI WW) - 1) (show ¬ (((nI A) + 1) < 0) from (sm_nltN (sm_addN rfl rfl) rfl (show 0 ≤ (A + 1) by omega) (show (A + 1) < 2 ^ 31 by omega))) (show ¬ (((nI WW) - 1) < ((nI A) + 1)) from (sm_nltN (sm_subN (a := WW) (b := 1) rfl rfl (by omega)) (sm_addN rfl rfl) (show (A + 1) ≤ (WW - 1) by omega) (show (WW - 1) < 2 ^ 31 by omega)))).deep (by decide)) ?_
            refine mz_go 4 (c' := (17, [some (.ref 65), some (.int ((nI A) + 1)), some (.int ((nI k) + 1))], [.ref 65, .int 0, .int ((nI k) + 1)], mz_set (mz_set (mz_set w 65 r65) 70 r70) 71 r71)) rfl ?_
            refine mz_doQ (R := mz_r184) (as := [.ref 65]) (rest := [.int 0, .int ((nI k) + 1)]) (r1 := some (.int (nI HH))) (m1 := mz_set (mz_set (mz_set w 65 r65) 70 r70) 71 r71) mz_t184 mz_v184_65 rfl rfl rfl rfl rfl ⟨?_, rfl⟩ ?_
            · refine mz_go 4 (c' := (7, [some (.ref 65)], [.int (w 66 61)], mz_set (mz_set (mz_set w 65 r65) 70 r70) 71 r71)) rfl ?_
              rw [h6661]
              exact mz_ret rfl
            refine mz_go 2 (c' := (22, [some (.ref 65), some (.int ((nI A) + 1)), some (.int ((nI k) + 1))], [.int ((nI HH) - 1), .int 0, .int ((nI k) + 1)], mz_set (mz_set (mz_set w 65 r65) 70 r70) 71 r71)) rfl ?_
            refine mz_doQ (R := mz_r128) (as := [.int ((nI k) + 1), .int 0, .int ((nI HH) - 1)]) (rest := []) (r1 := some (.int 0)) (m1 := mz_set (mz_set (mz_set w 65 r65) 70 r70) 71 r71) mz_t128 mz_v128 rfl rfl rfl rfl rfl ((ct_inG (m := mz_set (mz_set (mz_set w 65 r65) 70 r70) 71 r71) (v := (nI k) + 1) (a := 0) (b := (nI HH) - 1) (show ¬ (((nI k) + 1) < 0) from (sm_nltN (sm_addN rfl rfl) rfl (show 0 ≤ (k + 1) by omega) (show (k + 1) < 2 ^ 31 by omega))) (show (((nI HH) - 1) < ((nI k) + 1)) from (sm_ltN (sm_subN (a := HH) (b := 1) rfl rfl (by omega)) (sm_addN rfl rfl) (show (HH - 1) < (k + 1) by omega) (show (k + 1) < 2 ^ 31 by omega)))).deep (by decide)) ?_
            refine mz_go 2 (c' := (33, [some (.ref 65), some (.int ((nI A) + 1)), some (.int ((nI k) + 1))], [.int 0], mz_set (mz_set (mz_set w 65 r65) 70 r70) 71 r71)) rfl ?_
            exact mz_ret rfl
          refine mz_go 7 (c' := (43, [some (.ref 65), some (.int xa), some (.int (x2 + 0)), some (.int (nI A)), some (.int ((nI k) + 1))], [], mz_set (mz_set (mz_set w 65 r65) 70 r70) 71 r71)) rfl ?_
          exact hr
        · obtain ⟨ve1, Ee1⟩ := xr_cin (m := mz_set (mz_set (mz_set w 65 r65) 70 r70) 71 r71) hWW hHH hWH h6660 h6661 (by omega) (by omega) (I := A) (i := nI A) rfl (J := k) (j := nI k) rfl (P := 2) (p := 2) rfl (Q := 2) (q := 2) rfl
          by_cases q4 : ve1 ≤ 2
          · obtain ⟨vr, mr, hr, hsc⟩ := ih (k + 1) (by omega) (x2 + 0) ((mz_set (mz_set (mz_set w 65 r65) 70 r70) 71 r71) 65) ((mz_set (mz_set (mz_set w 65 r65) 70 r70) 71 r71) 70) ((mz_set (mz_set (mz_set w 65 r65) 70 r70) 71 r71) 71) hkr
            rw [nI_succ k] at hr
            have hm : mz_set (mz_set (mz_set w 65 r65) 70 r70) 71 r71 = mz_set (mz_set (mz_set w 65 ((mz_set (mz_set (mz_set w 65 r65) 70 r70) 71 r71) 65)) 70 ((mz_set (mz_set (mz_set w 65 r65) 70 r70) 71 r71) 70)) 71 ((mz_set (mz_set (mz_set w 65 r65) 70 r70) 71 r71) 71) := sm_of3 (fun i h1 h2 h3 => by simp only [mz_set_ne h1, mz_set_ne h2, mz_set_ne h3])
            rw [← hm] at hr
            refine ⟨vr, mr, ?_, hsc⟩
            refine mz_go 2 (c' := (46, [some (.ref 65), some (.int xa), some (.int x2), some (.int (nI A)), some (.int (nI k))], [.ref 65, .int (nI k)], mz_set (mz_set (mz_set w 65 r65) 70 r70) 71 r71)) rfl ?_
            refine mz_doQ (R := mz_r184) (as := [.ref 65]) (rest := [.int (nI k)]) (r1 := some (.int (nI HH))) (m1 := mz_set (mz_set (mz_set w 65 r65) 70 r70) 71 r71) mz_t184 mz_v184_65 rfl rfl rfl rfl rfl ⟨?_, rfl⟩ ?_
            · refine mz_go 4 (c' := (7, [some (.ref 65)], [.int (w 66 61)], mz_set (mz_set (mz_set w 65 r65) 70 r70) 71 r71)) rfl ?_
              rw [h6661]
              exact mz_ret rfl
            refine mz_go 1 (c' := (if (nI HH) ≤ (nI k) then 159 else 52, [some (.ref 65), some (.int xa), some (.int x2), some (.int (nI A)), some (.int (nI k))], [], mz_set (mz_set (mz_set w 65 r65) 70 r70) 71 r71)) rfl ?_
            refine mz_ifF (show ¬ ((nI HH) ≤ (nI k)) from (sm_nleN rfl rfl (show k < HH by omega) (show HH < 2 ^ 31 by omega))) ?_
            refine mz_go 3 (c' := (if xa = 1 then 57 else 95, [some (.ref 65), some (.int xa), some (.int x2), some (.int (nI A)), some (.int (nI k))], [], mz_set (mz_set (mz_set w 65 r65) 70 r70) 71 r71)) rfl ?_
            refine mz_ifT q1 ?_
            refine mz_go 8 (c' := (66, [some (.ref 65), some (.int xa), some (.int x2), some (.int (nI A)), some (.int (nI k))], [.int ((nI k) + 1), .int ((nI A) + 1), .ref 65, .int x2], mz_set (mz_set (mz_set w 65 r65) 70 r70) 71 r71)) rfl ?_
            refine mz_doQ (R := mz_r187) (as := [.ref 65, .int ((nI A) + 1), .int ((nI k) + 1)]) (rest := [.int x2]) (r1 := some (.int 1)) (m1 := mz_set (mz_set (mz_set w 65 r65) 70 r70) 71 r71) mz_t187 mz_v187_65 rfl rfl rfl rfl rfl ⟨?_, rfl⟩ ?_
            · refine mz_go 3 (c' := (3, [some (.ref 65), some (.int ((nI A) + 1)), some (.int ((nI k) + 1))], [.ref 65, .int 0, .int ((nI A) + 1)], mz_set (mz_set (mz_set w 65 r65) 70 r70) 71 r71)) rfl ?_
              refine mz_doQ (R := mz_r183) (as := [.ref 65]) (rest := [.int 0, .int ((nI A) + 1)]) (r1 := some (.int (nI WW))) (m1 := mz_set (mz_set (mz_set w 65 r65) 70 r70) 71 r71) mz_t183 mz_v183_65 rfl rfl rfl rfl rfl ⟨?_, rfl⟩ ?_
              · refine mz_go 4 (c' := (7, [some (.ref 65)], [.int (w 66 60)], mz_set (mz_set (mz_set w 65 r65) 70 r70) 71 r71)) rfl ?_
                rw [h6660]
                exact mz_ret rfl
              refine mz_go 2 (c' := (8, [some (.ref 65), some (.int ((nI A) + 1)), some (.int ((nI k) + 1))], [.int ((nI WW) - 1), .int 0, .int ((nI A) + 1)], mz_set (mz_set (mz_set w 65 r65) 70 r70) 71 r71)) rfl ?_
              refine mz_doQ (R := mz_r128) (as := [.int ((nI A) + 1), .int 0, .int ((nI WW) - 1)]) (rest := []) (r1 := some (.int 1)) (m1 := mz_set (mz_set (mz_set w 65 r65) 70 r70) 71 r71) mz_t128 mz_v128 rfl rfl rfl rfl rfl ((ct_in1 (m := mz_set (mz_set (mz_set w 65 r65) 70 r70) 71 r71) (v := (nI A) + 1) (a := 0) (b := (nI WW) - 1) (show ¬ (((nI A) + 1) < 0) from (sm_nltN (sm_addN rfl rfl) rfl (show 0 ≤ (A + 1) by omega) (show (A + 1) < 2 ^ 31 by omega))) (show ¬ (((nI WW) - 1) < ((nI A) + 1)) from (sm_nltN (sm_subN (a := WW) (b := 1) rfl rfl (by omega)) (sm_addN rfl rfl) (show (A + 1) ≤ (WW - 1) by omega) (show (WW - 1) < 2 ^ 31 by omega)))).deep (by decide)) ?_
              refine mz_go 4 (c' := (17, [some (.ref 65), some (.int ((nI A) + 1)), some (.int ((nI k) + 1))], [.ref 65, .int 0, .int ((nI k) + 1)], mz_set (mz_set (mz_set w 65 r65) 70 r70) 71 r71)) rfl ?_
              refine mz_doQ (R := mz_r184) (as := [.ref 65]) (rest := [.int 0, .int ((nI k) + 1)]) (r1 := some (.int (nI HH))) (m1 := mz_set (mz_set (mz_set w 65 r65) 70 r70) 71 r71) mz_t184 mz_v184_65 rfl rfl rfl rfl rfl ⟨?_, rfl⟩ ?_
              · refine mz_go 4 (c' := (7, [some (.ref 65)], [.int (w 66 61)], mz_set (mz_set (mz_set w 65 r65) 70 r70) 71 r71)) rfl ?_
                rw [h6661]
                exact mz_ret rfl
              refine mz_go 2 (c' := (22, [some (.ref 65), some (.int ((nI A) + 1)), some (.int ((nI k) + 1))], [.int ((nI HH) - 1), .int 0, .int ((nI k) + 1)], mz_set (mz_set (mz_set w 65 r65) 70 r70) 71 r71)) rfl ?_
              refine mz_doQ (R := mz_r128) (as := [.int ((nI k) + 1), .int 0, .int ((nI HH) - 1)]) (rest := []) (r1 := some (.int 1)) (m1 := mz_set (mz_set (mz_set w 65 r65) 70 r70) 71 r71) mz_t128 mz_v128 rfl rfl rfl rfl rfl ((ct_in1 (m := mz_set (mz_set (mz_set w 65 r65) 70 r70) 71 r71) (v := (nI k) + 1) (a := 0) (b := (nI HH) - 1) (show ¬ (((nI k) + 1) < 0) from (sm_nltN (sm_addN rfl rfl) rfl (show 0 ≤ (k + 1) by omega) (show (k + 1) < 2 ^ 31 by omega))) (show ¬ (((nI HH) - 1) < ((nI k) + 1)) from (sm_nltN (sm_subN (a := HH) (b := 1) rfl rfl (by omega)) (sm_addN rfl rfl) (show (k + 1) ≤ (HH - 1) by omega) (show (HH - 1) < 2 ^ 31 by omega)))).deep (by decide)) ?_
              refine mz_go 3 (c' := (33, [some (.ref 65), some (.int ((nI A) + 1)), some (.int ((nI k) + 1))], [.int 1], mz_set (mz_set (mz_set w 65 r65) 70 r70) 71 r71)) rfl ?_
              exact mz_ret rfl
            refine mz_go 6 (c' := (78, [some (.ref 65), some (.int xa), some (.int x2), some (.int (nI A)), some (.int (nI k))], [.int 2, .int 2, .int (nI k), .int (nI A), .ref 65, .int x2], mz_set (mz_set (mz_set w 65 r65) 70 r70) 71 r71)) rfl ?_
            refine mz_doQ (R := mz_r189) (as := [.ref 65, .int (nI A), .int (nI k), .int 2, .int 2]) (rest := [.int x2]) (r1 := some (.int ve1)) (m1 := mz_set (mz_set (mz_set w 65 r65) 70 r70) 71 r71) mz_t189 mz_v189_65 rfl rfl rfl rfl rfl (Ee1.deep (by decide)) ?_
            refine mz_go 2 (c' := (if ve1 ≤ 2 then 89 else 85, [some (.ref 65), some (.int xa), some (.int x2), some (.int (nI A)), some (.int (nI k))], [.int x2], mz_set (mz_set (mz_set w 65 r65) 70 r70) 71 r71)) rfl ?_
            refine mz_ifT q4 ?_
            refine mz_go 6 (c' := (43, [some (.ref 65), some (.int xa), some (.int (x2 + 0)), some (.int (nI A)), some (.int ((nI k) + 1))], [], mz_set (mz_set (mz_set w 65 r65) 70 r70) 71 r71)) rfl ?_
            exact hr
          · obtain ⟨vr, mr, hr, hsc⟩ := ih (k + 1) (by omega) (x2 + 1) ((mz_set (mz_set (mz_set w 65 r65) 70 r70) 71 r71) 65) ((mz_set (mz_set (mz_set w 65 r65) 70 r70) 71 r71) 70) ((mz_set (mz_set (mz_set w 65 r65) 70 r70) 71 r71) 71) hkr
            rw [nI_succ k] at hr
            have hm : mz_set (mz_set (mz_set w 65 r65) 70 r70) 71 r71 = mz_set (mz_set (mz_set w 65 ((mz_set (mz_set (mz_set w 65 r65) 70 r70) 71 r71) 65)) 70 ((mz_set (mz_set (mz_set w 65 r65) 70 r70) 71 r71) 70)) 71 ((mz_set (mz_set (mz_set w 65 r65) 70 r70) 71 r71) 71) := sm_of3 (fun i h1 h2 h3 => by simp only [mz_set_ne h1, mz_set_ne h2, mz_set_ne h3])
            rw [← hm] at hr
            refine ⟨vr, mr, ?_, hsc⟩
            refine mz_go 2 (c' := (46, [some (.ref 65), some (.int xa), some (.int x2), some (.int (nI A)), some (.int (nI k))], [.ref 65, .int (nI k)], mz_set (mz_set (mz_set w 65 r65) 70 r70) 71 r71)) rfl ?_
            refine mz_doQ (R := mz_r184) (as := [.ref 65]) (rest := [.int (nI k)]) (r1 := some (.int (nI HH))) (m1 := mz_set (mz_set (mz_set w 65 r65) 70 r70) 71 r71) mz_t184 mz_v184_65 rfl rfl rfl rfl rfl ⟨?_, rfl⟩ ?_
            · refine mz_go 4 (c' := (7, [some (.ref 65)], [.int (w 66 61)], mz_set (mz_set (mz_set w 65 r65) 70 r70) 71 r71)) rfl ?_
              rw [h6661]
              exact mz_ret rfl
            refine mz_go 1 (c' := (if (nI HH) ≤ (nI k) then 159 else 52, [some (.ref 65), some (.int xa), some (.int x2), some (.int (nI A)), some (.int (nI k))], [], mz_set (mz_set (mz_set w 65 r65) 70 r70) 71 r71)) rfl ?_
            refine mz_ifF (show ¬ ((nI HH) ≤ (nI k)) from (sm_nleN rfl rfl (show k < HH by omega) (show HH < 2 ^ 31 by omega))) ?_
            refine mz_go 3 (c' := (if xa = 1 then 57 else 95, [some (.ref 65), some (.int xa), some (.int x2), some (.int (nI A)), some (.int (nI k))], [], mz_set (mz_set (mz_set w 65 r65) 70 r70) 71 r71)) rfl ?_
            refine mz_ifT q1 ?_
            refine mz_go 8 (c' := (66, [some (.ref 65), some (.int xa), some (.int x2), some (.int (nI A)), some (.int (nI k))], [.int ((nI k) + 1), .int ((nI A) + 1), .ref 65, .int x2], mz_set (mz_set (mz_set w 65 r65) 70 r70) 71 r71)) rfl ?_
            refine mz_doQ (R := mz_r187) (as := [.ref 65, .int ((nI A) + 1), .int ((nI k) + 1)]) (rest := [.int x2]) (r1 := some (.int 1)) (m1 := mz_set (mz_set (mz_set w 65 r65) 70 r70) 71 r71) mz_t187 mz_v187_65 rfl rfl rfl rfl rfl ⟨?_, rfl⟩ ?_
            · refine mz_go 3 (c' := (3, [some (.ref 65), some (.int ((nI A) + 1)), some (.int ((nI k) + 1))], [.ref 65, .int 0, .int ((nI A) + 1)], mz_set (mz_set (mz_set w 65 r65) 70 r70) 71 r71)) rfl ?_
              refine mz_doQ (R := mz_r183) (as := [.ref 65]) (rest := [.int 0, .int ((nI A) + 1)]) (r1 := some (.int (nI WW))) (m1 := mz_set (mz_set (mz_set w 65 r65) 70 r70) 71 r71) mz_t183 mz_v183_65 rfl rfl rfl rfl rfl ⟨?_, rfl⟩ ?_
              · refine mz_go 4 (c' := (7, [some (.ref 65)], [.int (w 66 60)], mz_set (mz_set (mz_set w 65 r65) 70 r70) 71 r71)) rfl ?_
                rw [h6660]
                exact mz_ret rfl
              refine mz_go 2 (c' := (8, [some (.ref 65), some (.int ((nI A) + 1)), some (.int ((nI k) + 1))], [.int ((nI WW) - 1), .int 0, .int ((nI A) + 1)], mz_set (mz_set (mz_set w 65 r65) 70 r70) 71 r71)) rfl ?_
              refine mz_doQ (R := mz_r128) (as := [.int ((nI A) + 1), .int 0, .int ((nI WW) - 1)]) (rest := []) (r1 := some (.int 1)) (m1 := mz_set (mz_set (mz_set w 65 r65) 70 r70) 71 r71) mz_t128 mz_v128 rfl rfl rfl rfl rfl ((ct_in1 (m := mz_set (mz_set (mz_set w 65 r65) 70 r70) 71 r71) (v := (nI A) + 1) (a := 0) (b := (nI WW) - 1) (show ¬ (((nI A) + 1) < 0) from (sm_nltN (sm_addN rfl rfl) rfl (show 0 ≤ (A + 1) by omega) (show (A + 1) < 2 ^ 31 by omega))) (show ¬ (((nI WW) - 1) < ((nI A) + 1)) from (sm_nltN (sm_subN (a := WW) (b := 1) rfl rfl (by omega)) (sm_addN rfl rfl) (show (A + 1) ≤ (WW - 1) by omega) (show (WW - 1) < 2 ^ 31 by omega)))).deep (by decide)) ?_
              refine mz_go 4 (c' := (17, [some (.ref 65), some (.int ((nI A) + 1)), some (.int ((nI k) + 1))], [.ref 65, .int 0, .int ((nI k) + 1)], mz_set (mz_set (mz_set w 65 r65) 70 r70) 71 r71)) rfl ?_
              refine mz_doQ (R := mz_r184) (as := [.ref 65]) (rest := [.int 0, .int ((nI k) + 1)]) (r1 := some (.int (nI HH))) (m1 := mz_set (mz_set (mz_set w 65 r65) 70 r70) 71 r71) mz_t184 mz_v184_65 rfl rfl rfl rfl rfl ⟨?_, rfl⟩ ?_
              · refine mz_go 4 (c' := (7, [some (.ref 65)], [.int (w 66 61)], mz_set (mz_set (mz_set w 65 r65) 70 r70) 71 r71)) rfl ?_
                rw [h6661]
                exact mz_ret rfl
              refine mz_go 2 (c' := (22, [some (.ref 65), some (.int ((nI A) + 1)), some (.int ((nI k) + 1))], [.int ((nI HH) - 1), .int 0, .int ((nI k) + 1)], mz_set (mz_set (mz_set w 65 r65) 70 r70) 71 r71)) rfl ?_
              refine mz_doQ (R := mz_r128) (as := [.int ((nI k) + 1), .int 0, .int ((nI HH) - 1)]) (rest := []) (r1 := some (.int 1)) (m1 := mz_set (mz_set (mz_set w 65 r65) 70 r70) 71 r71) mz_t128 mz_v128 rfl rfl rfl rfl rfl ((ct_in1 (m := mz_set (mz_set (mz_set w 65 r65) 70 r70) 71 r71) (v := (nI k) + 1) (a := 0) (b := (nI HH) - 1) (show ¬ (((nI k) + 1) < 0) from (sm_nltN (sm_addN rfl rfl) rfl (show 0 ≤ (k + 1) by omega) (show (k + 1) < 2 ^ 31 by omega))) (show ¬ (((nI HH) - 1) < ((nI k) + 1)) from (sm_nltN (sm_subN (a := HH) (b := 1) rfl rfl (by omega)) (sm_addN rfl rfl) (show (k + 1) ≤ (HH - 1) by omega) (show (HH - 1) < 2 ^ 31 by omega)))).deep (by decide)) ?_
              refine mz_go 3 (c' := (33, [some (.ref 65), some (.int ((nI A) + 1)), some (.int ((nI k) + 1))], [.int 1], mz_set (mz_set (mz_set w 65 r65) 70 r70) 71 r71)) rfl ?_
              exact mz_ret rfl
            refine mz_go 6 (c' := (78, [some (.ref 65), some (.int xa), some (.int x2), some (.int (nI A)), some (.int (nI k))], [.int 2, .int 2, .int (nI k), .int (nI A), .ref 65, .int x2], mz_set (mz_set (mz_set w 65 r65) 70 r70) 71 r71)) rfl ?_
            refine mz_doQ (R := mz_r189) (as := [.ref 65, .int (nI A), .int (nI k), .int 2, .int 2]) (rest := [.int x2]) (r1 := some (.int ve1)) (m1 := mz_set (mz_set (mz_set w 65 r65) 70 r70) 71 r71) mz_t189 mz_v189_65 rfl rfl rfl rfl rfl (Ee1.deep (by decide)) ?_
            refine mz_go 2 (c' := (if ve1 ≤ 2 then 89 else 85, [some (.ref 65), some (.int xa), some (.int x2), some (.int (nI A)), some (.int (nI k))], [.int x2], mz_set (mz_set (mz_set w 65 r65) 70 r70) 71 r71)) rfl ?_
            refine mz_ifF q4 ?_
            refine mz_go 7 (c' := (43, [some (.ref 65), some (.int xa), some (.int (x2 + 1)), some (.int (nI A)), some (.int ((nI k) + 1))], [], mz_set (mz_set (mz_set w 65 r65) 70 r70) 71 r71)) rfl ?_
            exact hr
    · by_cases q5 : xa = 3
      · obtain ⟨vr, mr, hr, hsc⟩ := ih (k + 1) (by omega) (x2 + (w 66 ((110 + (6 * k)) + A))) ((mz_set (mz_set (mz_set w 65 r65) 70 r70) 71 r71) 65) ((mz_set (mz_set (mz_set w 65 r65) 70 r70) 71 r71) 70) ((mz_set (mz_set (mz_set w 65 r65) 70 r70) 71 r71) 71) hkr
        rw [nI_succ k] at hr
        have hm : mz_set (mz_set (mz_set w 65 r65) 70 r70) 71 r71 = mz_set (mz_set (mz_set w 65 ((mz_set (mz_set (mz_set w 65 r65) 70 r70) 71 r71) 65)) 70 ((mz_set (mz_set (mz_set w 65 r65) 70 r70) 71 r71) 70)) 71 ((mz_set (mz_set (mz_set w 65 r65) 70 r70) 71 r71) 71) := sm_of3 (fun i h1 h2 h3 => by simp only [mz_set_ne h1, mz_set_ne h2, mz_set_ne h3])
        rw [← hm] at hr
        refine ⟨vr, mr, ?_, hsc⟩
        refine mz_go 2 (c' := (46, [some (.ref 65), some (.int xa), some (.int x2), some (.int (nI A)), some (.int (nI k))], [.ref 65, .int (nI k)], mz_set (mz_set (mz_set w 65 r65) 70 r70) 71 r71)) rfl ?_
        refine mz_doQ (R := mz_r184) (as := [.ref 65]) (rest := [.int (nI k)]) (r1 := some (.int (nI HH))) (m1 := mz_set (mz_set (mz_set w 65 r65) 70 r70) 71 r71) mz_t184 mz_v184_65 rfl rfl rfl rfl rfl ⟨?_, rfl⟩ ?_
        · refine mz_go 4 (c' := (7, [some (.ref 65)], [.int (w 66 61)], mz_set (mz_set (mz_set w 65 r65) 70 r70) 71 r71)) rfl ?_
          rw [h6661]
          exact mz_ret rfl
        refine mz_go 1 (c' := (if (nI HH) ≤ (nI k) then 159 else 52, [some (.ref 65), some (.int xa), some (.int x2), some (.int (nI A)), some (.int (nI k))], [], mz_set (mz_set (mz_set w 65 r65) 70 r70) 71 r71)) rfl ?_
        refine mz_ifF (show ¬ ((nI HH) ≤ (nI k)) from (sm_nleN rfl rfl (show k < HH by omega) (show HH < 2 ^ 31 by omega))) ?_
        refine mz_go 3 (c' := (if xa = 1 then 57 else 95, [some (.ref 65), some (.int xa), some (.int x2), some (.int (nI A)), some (.int (nI k))], [], mz_set (mz_set (mz_set w 65 r65) 70 r70) 71 r71)) rfl ?_
        refine mz_ifF q1 ?_
        refine mz_go 3 (c' := (if xa = 3 then 100 else 121, [some (.ref 65), some (.int xa), some (.int x2), some (.int (nI A)), some (.int (nI k))], [], mz_set (mz_set (mz_set w 65 r65) 70 r70) 71 r71)) rfl ?_
        refine mz_ifT q5 ?_
        refine mz_go 10 (c' := (115, [some (.ref 65), some (.int xa), some (.int x2), some (.int (nI A)), some (.int (nI k))], [.int ((110 + (6 * (nI k))) + (nI A)), .ref 66, .int x2], mz_set (mz_set (mz_set w 65 r65) 70 r70) 71 r71)) rfl ?_
        refine mz_arr (c' := (116, [some (.ref 65), some (.int xa), some (.int x2), some (.int (nI A)), some (.int (nI k))], [.int (w 66 (((110 + (6 * (nI k))) + (nI A)).toNatClampNeg)), .int x2], mz_set (mz_set (mz_set w 65 r65) 70 r70) 71 r71)) rfl (show mz_in ((110 + (6 * (nI k))) + (nI A)) 650 = true from sm_inN (sm_addN (sm_addN rfl (sm_mulN rfl rfl)) rfl) (show ((110 + (6 * k)) + A) < 650 by omega) (by decide)) ?_
        rw [show ((110 + (6 * (nI k))) + (nI A) : Int32).toNatClampNeg = ((110 + (6 * k)) + A) from sm_clN (sm_addN (sm_addN rfl (sm_mulN rfl rfl)) rfl) (show ((110 + (6 * k)) + A) < 2 ^ 31 by omega)]
        refine mz_go 5 (c' := (43, [some (.ref 65), some (.int xa), some (.int (x2 + (w 66 ((110 + (6 * k)) + A)))), some (.int (nI A)), some (.int ((nI k) + 1))], [], mz_set (mz_set (mz_set w 65 r65) 70 r70) 71 r71)) rfl ?_
        exact hr
      · obtain ⟨ve1, Ee1⟩ := xr_edg (m := mz_set (mz_set (mz_set w 65 r65) 70 r70) 71 r71) hWW hHH hWH h6660 h6661 (by omega) (by omega) (I := A) (i := nI A) rfl (J := k) (j := nI k) rfl
        by_cases q6 : ve1 = 0
        · obtain ⟨vr, mr, hr, hsc⟩ := ih (k + 1) (by omega) (x2 + 0) ((mz_set (mz_set (mz_set w 65 r65) 70 r70) 71 r71) 65) ((mz_set (mz_set (mz_set w 65 r65) 70 r70) 71 r71) 70) ((mz_set (mz_set (mz_set w 65 r65) 70 r70) 71 r71) 71) hkr
          rw [nI_succ k] at hr
          have hm : mz_set (mz_set (mz_set w 65 r65) 70 r70) 71 r71 = mz_set (mz_set (mz_set w 65 ((mz_set (mz_set (mz_set w 65 r65) 70 r70) 71 r71) 65)) 70 ((mz_set (mz_set (mz_set w 65 r65) 70 r70) 71 r71) 70)) 71 ((mz_set (mz_set (mz_set w 65 r65) 70 r70) 71 r71) 71) := sm_of3 (fun i h1 h2 h3 => by simp only [mz_set_ne h1, mz_set_ne h2, mz_set_ne h3])
          rw [← hm] at hr
          refine ⟨vr, mr, ?_, hsc⟩
          refine mz_go 2 (c' := (46, [some (.ref 65), some (.int xa), some (.int x2), some (.int (nI A)), some (.int (nI k))], [.ref 65, .int (nI k)], mz_set (mz_set (mz_set w 65 r65) 70 r70) 71 r71)) rfl ?_
          refine mz_doQ (R := mz_r184) (as := [.ref 65]) (rest := [.int (nI k)]) (r1 := some (.int (nI HH))) (m1 := mz_set (mz_set (mz_set w 65 r65) 70 r70) 71 r71) mz_t184 mz_v184_65 rfl rfl rfl rfl rfl ⟨?_, rfl⟩ ?_
          · refine mz_go 4 (c' := (7, [some (.ref 65)], [.int (w 66 61)], mz_set (mz_set (mz_set w 65 r65) 70 r70) 71 r71)) rfl ?_
            rw [h6661]
            exact mz_ret rfl
          refine mz_go 1 (c' := (if (nI HH) ≤ (nI k) then 159 else 52, [some (.ref 65), some (.int xa), some (.int x2), some (.int (nI A)), some (.int (nI k))], [], mz_set (mz_set (mz_set w 65 r65) 70 r70) 71 r71)) rfl ?_
          refine mz_ifF (show ¬ ((nI HH) ≤ (nI k)) from (sm_nleN rfl rfl (show k < HH by omega) (show HH < 2 ^ 31 by omega))) ?_
          refine mz_go 3 (c' := (if xa = 1 then 57 else 95, [some (.ref 65), some (.int xa), some (.int x2), some (.int (nI A)), some (.int (nI k))], [], mz_set (mz_set (mz_set w 65 r65) 70 r70) 71 r71)) rfl ?_
          refine mz_ifF q1 ?_
          refine mz_go 3 (c' := (if xa = 3 then 100 else 121, [some (.ref 65), some (.int xa), some (.int x2), some (.int (nI A)), some (.int (nI k))], [], mz_set (mz_set (mz_set w 65 r65) 70 r70) 71 r71)) rfl ?_
          refine mz_ifF q5 ?_
          refine mz_go 4 (c' := (126, [some (.ref 65), some (.int xa), some (.int x2), some (.int (nI A)), some (.int (nI k))], [.int (nI k), .int (nI A), .ref 65, .int x2], mz_set (mz_set (mz_set w 65 r65) 70 r70) 71 r71)) rfl ?_
          refine mz_doQ (R := mz_r196) (as := [.ref 65, .int (nI A), .int (nI k)]) (rest := [.int x2]) (r1 := some (.int ve1)) (m1 := mz_set (mz_set (mz_set w 65 r65) 70 r70) 71 r71) mz_t196 mz_v196_65 rfl rfl rfl rfl rfl (Ee1.deep (by decide)) ?_
          refine mz_go 1 (c' := (if ve1 = 0 then 132 else 136, [some (.ref 65), some (.int xa), some (.int x2), some (.int (nI A)), some (.int (nI k))], [.int x2], mz_set (mz_set (mz_set w 65 r65) 70 r70) 71 r71)) rfl ?_
          refine mz_ifT q6 ?_
          refine mz_go 6 (c' := (43, [some (.ref 65), some (.int xa), some (.int (x2 + 0)), some (.int (nI A)), some (.int ((nI k) + 1))], [], mz_set (mz_set (mz_set w 65 r65) 70 r70) 71 r71)) rfl ?_
          exact hr
        · by_cases q7 : xa = 0
          · obtain ⟨vr, mr, hr, hsc⟩ := ih (k + 1) (by omega) (x2 + 1) ((mz_set (mz_set (mz_set w 65 r65) 70 r70) 71 r71) 65) ((mz_set (mz_set (mz_set w 65 r65) 70 r70) 71 r71) 70) ((mz_set (mz_set (mz_set w 65 r65) 70 r70) 71 r71) 71) hkr
            rw [nI_succ k] at hr
            have hm : mz_set (mz_set (mz_set w 65 r65) 70 r70) 71 r71 = mz_set (mz_set (mz_set w 65 ((mz_set (mz_set (mz_set w 65 r65) 70 r70) 71 r71) 65)) 70 ((mz_set (mz_set (mz_set w 65 r65) 70 r70) 71 r71) 70)) 71 ((mz_set (mz_set (mz_set w 65 r65) 70 r70) 71 r71) 71) := sm_of3 (fun i h1 h2 h3 => by simp only [mz_set_ne h1, mz_set_ne h2, mz_set_ne h3])
            rw [← hm] at hr
            refine ⟨vr, mr, ?_, hsc⟩
            refine mz_go 2 (c' := (46, [some (.ref 65), some (.int xa), some (.int x2), some (.int (nI A)), some (.int (nI k))], [.ref 65, .int (nI k)], mz_set (mz_set (mz_set w 65 r65) 70 r70) 71 r71)) rfl ?_
            refine mz_doQ (R := mz_r184) (as := [.ref 65]) (rest := [.int (nI k)]) (r1 := some (.int (nI HH))) (m1 := mz_set (mz_set (mz_set w 65 r65) 70 r70) 71 r71) mz_t184 mz_v184_65 rfl rfl rfl rfl rfl ⟨?_, rfl⟩ ?_
            · refine mz_go 4 (c' := (7, [some (.ref 65)], [.int (w 66 61)], mz_set (mz_set (mz_set w 65 r65) 70 r70) 71 r71)) rfl ?_
              rw [h6661]
              exact mz_ret rfl
            refine mz_go 1 (c' := (if (nI HH) ≤ (nI k) then 159 else 52, [some (.ref 65), some (.int xa), some (.int x2), some (.int (nI A)), some (.int (nI k))], [], mz_set (mz_set (mz_set w 65 r65) 70 r70) 71 r71)) rfl ?_
            refine mz_ifF (show ¬ ((nI HH) ≤ (nI k)) from (sm_nleN rfl rfl (show k < HH by omega) (show HH < 2 ^ 31 by omega))) ?_
            refine mz_go 3 (c' := (if xa = 1 then 57 else 95, [some (.ref 65), some (.int xa), some (.int x2), some (.int (nI A)), some (.int (nI k))], [], mz_set (mz_set (mz_set w 65 r65) 70 r70) 71 r71)) rfl ?_
            refine mz_ifF q1 ?_
            refine mz_go 3 (c' := (if xa = 3 then 100 else 121, [some (.ref 65), some (.int xa), some (.int x2), some (.int (nI A)), some (.int (nI k))], [], mz_set (mz_set (mz_set w 65 r65) 70 r70) 71 r71)) rfl ?_
            refine mz_ifF q5 ?_
            refine mz_go 4 (c' := (126, [some (.ref 65), some (.int xa), some (.int x2), some (.int (nI A)), some (.int (nI k))], [.int (nI k), .int (nI A), .ref 65, .int x2], mz_set (mz_set (mz_set w 65 r65) 70 r70) 71 r71)) rfl ?_
            refine mz_doQ (R := mz_r196) (as := [.ref 65, .int (nI A), .int (nI k)]) (rest := [.int x2]) (r1 := some (.int ve1)) (m1 := mz_set (mz_set (mz_set w 65 r65) 70 r70) 71 r71) mz_t196 mz_v196_65 rfl rfl rfl rfl rfl (Ee1.deep (by decide)) ?_
            refine mz_go 1 (c' := (if ve1 = 0 then 132 else 136, [some (.ref 65), some (.int xa), some (.int x2), some (.int (nI A)), some (.int (nI k))], [.int x2], mz_set (mz_set (mz_set w 65 r65) 70 r70) 71 r71)) rfl ?_
            refine mz_ifF q6 ?_
            refine mz_go 2 (c' := (if xa = 0 then 140 else 144, [some (.ref 65), some (.int xa), some (.int x2), some (.int (nI A)), some (.int (nI k))], [.int x2], mz_set (mz_set (mz_set w 65 r65) 70 r70) 71 r71)) rfl ?_
            refine mz_ifT q7 ?_
            refine mz_go 6 (c' := (43, [some (.ref 65), some (.int xa), some (.int (x2 + 1)), some (.int (nI A)), some (.int ((nI k) + 1))], [], mz_set (mz_set (mz_set w 65 r65) 70 r70) 71 r71)) rfl ?_
            exact hr
          · obtain ⟨ve2, s65e2, s70e2, s71e2, Ee2, ke2⟩ := xr_fin (w := mz_set (mz_set (mz_set w 65 r65) 70 r70) 71 r71) hw hN hr5 hr80 hr2 h660 h6615 hWW hHH hWH h6660 h6661 hT2 hU2 hV2 (by omega) (by omega) (I := A) (i := nI A) rfl (J := k) (j := nI k) rfl
            obtain ⟨vr, mr, hr, hsc⟩ := ih (k + 1) (by omega) (x2 + ve2) ((mz_set (mz_set (mz_set (mz_set (mz_set (mz_set w 65 r65) 70 r70) 71 r71) 65 s65e2) 70 s70e2) 71 s71e2) 65) ((mz_set (mz_set (mz_set (mz_set (mz_set (mz_set w 65 r65) 70 r70) 71 r71) 65 s65e2) 70 s70e2) 71 s71e2) 70) ((mz_set (mz_set (mz_set (mz_set (mz_set (mz_set w 65 r65) 70 r70) 71 r71) 65 s65e2) 70 s70e2) 71 s71e2) 71) (fun k hk => (ke2 k hk).trans (hkr k hk))
            rw [nI_succ k] at hr
            have hm : mz_set (mz_set (mz_set (mz_set (mz_set (mz_set w 65 r65) 70 r70) 71 r71) 65 s65e2) 70 s70e2) 71 s71e2 = mz_set (mz_set (mz_set w 65 ((mz_set (mz_set (mz_set (mz_set (mz_set (mz_set w 65 r65) 70 r70) 71 r71) 65 s65e2) 70 s70e2) 71 s71e2) 65)) 70 ((mz_set (mz_set (mz_set (mz_set (mz_set (mz_set w 65 r65) 70 r70) 71 r71) 65 s65e2) 70 s70e2) 71 s71e2) 70)) 71 ((mz_set (mz_set (mz_set (mz_set (mz_set (mz_set w 65 r65) 70 r70) 71 r71) 65 s65e2) 70 s70e2) 71 s71e2) 71) := sm_of3 (fun i h1 h2 h3 => by simp only [mz_set_ne h1, mz_set_ne h2, mz_set_ne h3])
            rw [← hm] at hr
            refine ⟨vr, mr, ?_, hsc⟩
            refine mz_go 2 (c' := (46, [some (.ref 65), some (.int xa), some (.int x2), some (.int (nI A)), some (.int (nI k))], [.ref 65, .int (nI k)], mz_set (mz_set (mz_set w 65 r65) 70 r70) 71 r71)) rfl ?_
            refine mz_doQ (R := mz_r184) (as := [.ref 65]) (rest := [.int (nI k)]) (r1 := some (.int (nI HH))) (m1 := mz_set (mz_set (mz_set w 65 r65) 70 r70) 71 r71) mz_t184 mz_v184_65 rfl rfl rfl rfl rfl ⟨?_, rfl⟩ ?_
            · refine mz_go 4 (c' := (7, [some (.ref 65)], [.int (w 66 61)], mz_set (mz_set (mz_set w 65 r65) 70 r70) 71 r71)) rfl ?_
              rw [h6661]
              exact mz_ret rfl
            refine mz_go 1 (c' := (if (nI HH) ≤ (nI k) then 159 else 52, [some (.ref 65), some (.int xa), some (.int x2), some (.int (nI A)), some (.int (nI k))], [], mz_set (mz_set (mz_set w 65 r65) 70 r70) 71 r71)) rfl ?_
            refine mz_ifF (show ¬ ((nI HH) ≤ (nI k)) from (sm_nleN rfl rfl (show k < HH by omega) (show HH < 2 ^ 31 by omega))) ?_
            refine mz_go 3 (c' := (if xa = 1 then 57 else 95, [some (.ref 65), some (.int xa), some (.int x2), some (.int (nI A)), some (.int (nI k))], [], mz_set (mz_set (mz_set w 65 r65) 70 r70) 71 r71)) rfl ?_
            refine mz_ifF q1 ?_
            refine mz_go 3 (c' := (if xa = 3 then 100 else 121, [some (.ref 65), some (.int xa), some (.int x2), some (.int (nI A)), some (.int (nI k))], [], mz_set (mz_set (mz_set w 65 r65) 70 r70) 71 r71)) rfl ?_
            refine mz_ifF q5 ?_
            refine mz_go 4 (c' := (126, [some (.ref 65), some (.int xa), some (.int x2), some (.int (nI A)), some (.int (nI k))], [.int (nI k), .int (nI A), .ref 65, .int x2], mz_set (mz_set (mz_set w 65 r65) 70 r70) 71 r71)) rfl ?_
            refine mz_doQ (R := mz_r196) (as := [.ref 65, .int (nI A), .int (nI k)]) (rest := [.int x2]) (r1 := some (.int ve1)) (m1 := mz_set (mz_set (mz_set w 65 r65) 70 r70) 71 r71) mz_t196 mz_v196_65 rfl rfl rfl rfl rfl (Ee1.deep (by decide)) ?_
            refine mz_go 1 (c' := (if ve1 = 0 then 132 else 136, [some (.ref 65), some (.int xa), some (.int x2), some (.int (nI A)), some (.int (nI k))], [.int x2], mz_set (mz_set (mz_set w 65 r65) 70 r70) 71 r71)) rfl ?_
            refine mz_ifF q6 ?_
            refine mz_go 2 (c' := (if xa = 0 then 140 else 144, [some (.ref 65), some (.int xa), some (.int x2), some (.int (nI A)), some (.int (nI k))], [.int x2], mz_set (mz_set (mz_set w 65 r65) 70 r70) 71 r71)) rfl ?_
            refine mz_ifF q7 ?_
            refine mz_go 3 (c' := (148, [some (.ref 65), some (.int xa), some (.int x2), some (.int (nI A)), some (.int (nI k))], [.int (nI k), .int (nI A), .ref 65, .int x2], mz_set (mz_set (mz_set w 65 r65) 70 r70) 71 r71)) rfl ?_
            refine mz_doQ (R := mz_r198) (as := [.ref 65, .int (nI A), .int (nI k)]) (rest := [.int x2]) (r1 := some (.int ve2)) (m1 := mz_set (mz_set (mz_set (mz_set (mz_set (mz_set w 65 r65) 70 r70) 71 r71) 65 s65e2) 70 s70e2) 71 s71e2) mz_t198 mz_v198_65 rfl rfl rfl rfl rfl (Ee2.deep (by decide)) ?_
            refine mz_go 4 (c' := (43, [some (.ref 65), some (.int xa), some (.int (x2 + ve2)), some (.int (nI A)), some (.int ((nI k) + 1))], [], mz_set (mz_set (mz_set (mz_set (mz_set (mz_set w 65 r65) 70 r70) 71 r71) 65 s65e2) 70 s70e2) 71 s71e2)) rfl ?_
            exact hr
set_option maxHeartbeats 4000000 in
set_option maxRecDepth 100000 in
theorem xr_seei {w : mz_M} {N : Nat} (hw : sm_W w N) (hN : N ≤ 6) (hr5 : w 7 5 = 1 ∨ w 7 5 = 2) (hr80 : sm_N 80 (w 7 2)) (hr2 : sm_HR w (w 66)) (h660 : w 66 0 = nI N) (h6615 : w 66 15 = w 7 5) {WW HH : Nat} (hWW : WW ≤ 6) (hHH : HH ≤ 6) (hWH : WW = 0 ↔ HH = 0) (h6660 : w 66 60 = nI WW) (h6661 : w 66 61 = nI HH) {T2 : Nat} (hT2 : w 16 2 = nI T2) (hU2 : w 66 420 = nI T2) (hV2 : T2 = 0 ∨ sm_wf T2 5 (w 17) (w 18)) (xa : Int32) (HX : ∀ (x2 : Int32) (x4 : Option Value) (r65 : Nat → Int32) (r70 : Nat → Int32) (r71 : Nat → Int32) (hkr : ∀ k, k < 4 ∨ 8 < k → r65 k = w 65 k), ∃ v m', mz_Ex 100 mz_k199 (165, [some (.ref 65), some (.int xa), some (.int x2), some (.int (nI WW)), x4], [], mz_set (mz_set (mz_set w 65 r65) 70 r70) 71 r71) (some (.int v), m') ∧ sm_Sc w m') : ∀ j k : Nat, k + j = WW → ∀ (x2 : Int32) (x4 : Option Value) (r65 : Nat → Int32) (r70 : Nat → Int32) (r71 : Nat → Int32) (hkr : ∀ k, k < 4 ∨ 8 < k → r65 k = w 65 k), ∃ v m', mz_Ex 100 mz_k199 (32, [some (.ref 65), some (.int xa), some (.int x2), some (.int (nI k)), x4], [], mz_set (mz_set (mz_set w 65 r65) 70 r70) 71 r71) (some (.int v), m') ∧ sm_Sc w m' := by
  have hT60c := sm_T60 hV2
  intro j
  induction j with
  | zero =>
    intro k hk x2 x4 r65 r70 r71 hkr
    rw [show k = WW by omega]
    obtain ⟨vr, mr, hr, hsc⟩ := HX x2 x4 ((mz_set (mz_set (mz_set w 65 r65) 70 r70) 71 r71) 65) ((mz_set (mz_set (mz_set w 65 r65) 70 r70) 71 r71) 70) ((mz_set (mz_set (mz_set w 65 r65) 70 r70) 71 r71) 71) hkr
    have hm : mz_set (mz_set (mz_set w 65 r65) 70 r70) 71 r71 = mz_set (mz_set (mz_set w 65 ((mz_set (mz_set (mz_set w 65 r65) 70 r70) 71 r71) 65)) 70 ((mz_set (mz_set (mz_set w 65 r65) 70 r70) 71 r71) 70)) 71 ((mz_set (mz_set (mz_set w 65 r65) 70 r70) 71 r71) 71) := sm_of3 (fun i h1 h2 h3 => by simp only [mz_set_ne h1, mz_set_ne h2, mz_set_ne h3])
    rw [← hm] at hr
    refine ⟨vr, mr, ?_, hsc⟩
    refine mz_go 2 (c' := (34, [some (.ref 65), some (.int xa), some (.int x2), some (.int (nI WW)), x4], [.ref 65, .int (nI WW)], mz_set (mz_set (mz_set w 65 r65) 70 r70) 71 r71)) rfl ?_
    refine mz_doQ (R := mz_r183) (as := [.ref 65]) (rest := [.int (nI WW)]) (r1 := some (.int (nI WW))) (m1 := mz_set (mz_set (mz_set w 65 r65) 70 r70) 71 r71) mz_t183 mz_v183_65 rfl rfl rfl rfl rfl ⟨?_, rfl⟩ ?_
    · refine mz_go 4 (c' := (7, [some (.ref 65)], [.int (w 66 60)], mz_set (mz_set (mz_set w 65 r65) 70 r70) 71 r71)) rfl ?_
      rw [h6660]
      exact mz_ret rfl
    refine mz_go 1 (c' := (if (nI WW) ≤ (nI WW) then 165 else 40, [some (.ref 65), some (.int xa), some (.int x2), some (.int (nI WW)), x4], [], mz_set (mz_set (mz_set w 65 r65) 70 r70) 71 r71)) rfl ?_
    refine mz_ifT (show ((nI WW) ≤ (nI WW)) from (sm_leN rfl rfl (show WW ≤ WW by omega) (show WW < 2 ^ 31 by omega))) ?_
    exact hr
  | succ j ih =>
    intro k hk x2 x4 r65 r70 r71 hkr
    have HX1 : ∀ (x2_1 : Int32) (r65_1 : Nat → Int32) (r70_1 : Nat → Int32) (r71_1 : Nat → Int32) (hkr_1 : ∀ k, k < 4 ∨ 8 < k → r65_1 k = w 65 k), ∃ v m', mz_Ex 100 mz_k199 (159, [some (.ref 65), some (.int xa), some (.int x2_1), some (.int (nI k)), some (.int (nI HH))], [], mz_set (mz_set (mz_set w 65 r65_1) 70 r70_1) 71 r71_1) (some (.int v), m') ∧ sm_Sc w m' := by
      intro x2_1 r65_1 r70_1 r71_1 hkr_1
      obtain ⟨vr, mr, hr, hsc⟩ := ih (k + 1) (by omega) x2_1 (some (.int (nI HH))) ((mz_set (mz_set (mz_set w 65 r65_1) 70 r70_1) 71 r71_1) 65) ((mz_set (mz_set (mz_set w 65 r65_1) 70 r70_1) 71 r71_1) 70) ((mz_set (mz_set (mz_set w 65 r65_1) 70 r70_1) 71 r71_1) 71) hkr_1
      rw [nI_succ k] at hr
      have hm : mz_set (mz_set (mz_set w 65 r65_1) 70 r70_1) 71 r71_1 = mz_set (mz_set (mz_set w 65 ((mz_set (mz_set (mz_set w 65 r65_1) 70 r70_1) 71 r71_1) 65)) 70 ((mz_set (mz_set (mz_set w 65 r65_1) 70 r70_1) 71 r71_1) 70)) 71 ((mz_set (mz_set (mz_set w 65 r65_1) 70 r70_1) 71 r71_1) 71) := sm_of3 (fun i h1 h2 h3 => by simp only [mz_set_ne h1, mz_set_ne h2, mz_set_ne h3])
      rw [← hm] at hr
      refine ⟨vr, mr, ?_, hsc⟩
      refine mz_go 2 (c' := (32, [some (.ref 65), some (.int xa), some (.int x2_1), some (.int ((nI k) + 1)), some (.int (nI HH))], [], mz_set (mz_set (mz_set w 65 r65_1) 70 r70_1) 71 r71_1)) rfl ?_
      exact hr
    obtain ⟨vr, mr, hr, hsc⟩ := xr_seej hw hN hr5 hr80 hr2 h660 h6615 hWW hHH hWH h6660 h6661 hT2 hU2 hV2 xa (A := k) (by omega) HX1 HH 0 (by omega) x2 ((mz_set (mz_set (mz_set w 65 r65) 70 r70) 71 r71) 65) ((mz_set (mz_set (mz_set w 65 r65) 70 r70) 71 r71) 70) ((mz_set (mz_set (mz_set w 65 r65) 70 r70) 71 r71) 71) hkr
    have hm : mz_set (mz_set (mz_set w 65 r65) 70 r70) 71 r71 = mz_set (mz_set (mz_set w 65 ((mz_set (mz_set (mz_set w 65 r65) 70 r70) 71 r71) 65)) 70 ((mz_set (mz_set (mz_set w 65 r65) 70 r70) 71 r71) 70)) 71 ((mz_set (mz_set (mz_set w 65 r65) 70 r70) 71 r71) 71) := sm_of3 (fun i h1 h2 h3 => by simp only [mz_set_ne h1, mz_set_ne h2, mz_set_ne h3])
    rw [← hm] at hr
    refine ⟨vr, mr, ?_, hsc⟩
    refine mz_go 2 (c' := (34, [some (.ref 65), some (.int xa), some (.int x2), some (.int (nI k)), x4], [.ref 65, .int (nI k)], mz_set (mz_set (mz_set w 65 r65) 70 r70) 71 r71)) rfl ?_
    refine mz_doQ (R := mz_r183) (as := [.ref 65]) (rest := [.int (nI k)]) (r1 := some (.int (nI WW))) (m1 := mz_set (mz_set (mz_set w 65 r65) 70 r70) 71 r71) mz_t183 mz_v183_65 rfl rfl rfl rfl rfl ⟨?_, rfl⟩ ?_
    · refine mz_go 4 (c' := (7, [some (.ref 65)], [.int (w 66 60)], mz_set (mz_set (mz_set w 65 r65) 70 r70) 71 r71)) rfl ?_
      rw [h6660]
      exact mz_ret rfl
    refine mz_go 1 (c' := (if (nI WW) ≤ (nI k) then 165 else 40, [some (.ref 65), some (.int xa), some (.int x2), some (.int (nI k)), x4], [], mz_set (mz_set (mz_set w 65 r65) 70 r70) 71 r71)) rfl ?_
    refine mz_ifF (show ¬ ((nI WW) ≤ (nI k)) from (sm_nleN rfl rfl (show k < WW by omega) (show WW < 2 ^ 31 by omega))) ?_
    refine mz_go 2 (c' := (43, [some (.ref 65), some (.int xa), some (.int x2), some (.int (nI k)), some (.int 0)], [], mz_set (mz_set (mz_set w 65 r65) 70 r70) 71 r71)) rfl ?_
    exact hr
set_option maxHeartbeats 4000000 in
set_option maxRecDepth 100000 in
theorem xr_seen {w : mz_M} {N : Nat} (hw : sm_W w N) (hN : N ≤ 6) (hr5 : w 7 5 = 1 ∨ w 7 5 = 2) (hr80 : sm_N 80 (w 7 2)) (hr2 : sm_HR w (w 66)) (h660 : w 66 0 = nI N) (h6615 : w 66 15 = w 7 5) {WW HH : Nat} (hWW : WW ≤ 6) (hHH : HH ≤ 6) (hWH : WW = 0 ↔ HH = 0) (h6660 : w 66 60 = nI WW) (h6661 : w 66 61 = nI HH) {T2 : Nat} (hT2 : w 16 2 = nI T2) (hU2 : w 66 420 = nI T2) (hV2 : T2 = 0 ∨ sm_wf T2 5 (w 17) (w 18)) (xa : Int32) : ∃ v m', mz_Me 100 mz_r199 [.ref 65, .int xa] w (some (.int v)) m' ∧ sm_Sc w m' := by
  have hT60c := sm_T60 hV2
  by_cases q1 : (sm_bI (sm_in xa 0 3)) = 0
  · refine ⟨(-1000001), mz_up w 68 1 ((w 68 1) + 1), ⟨?_, rfl⟩, ⟨fun i hi => (by simp only [mz_up_ne (sm_scne hi (r := 68) rfl)]), rfl, rfl⟩⟩
    refine mz_go 3 (c' := (3, [some (.ref 65), some (.int xa), none, none, none], [.int 3, .int 0, .int xa], w)) rfl ?_
    refine mz_doQ (R := mz_r128) (as := [.int xa, .int 0, .int 3]) (rest := []) (r1 := some (.int (sm_bI (sm_in xa 0 3)))) (m1 := w) mz_t128 mz_v128 rfl rfl rfl rfl rfl ((ct_in (m := w) xa 0 3).deep (by decide)) ?_
    refine mz_go 1 (c' := (if (sm_bI (sm_in xa 0 3)) = 0 then 9 else 15, [some (.ref 65), some (.int xa), none, none, none], [], w)) rfl ?_
    refine mz_ifT q1 ?_
    refine mz_go 2 (c' := (11, [some (.ref 65), some (.int xa), none, none, none], [.int 1, .ref 65], w)) rfl ?_
    refine mz_doQ (R := mz_r127) (as := [.ref 65, .int 1]) (rest := []) (r1 := some (.int (-1000001))) (m1 := mz_up w 68 1 ((w 68 1) + 1)) mz_t127 mz_v127_65 rfl rfl rfl rfl rfl ((ct_err1 (m := w)).deep (by decide)) ?_
    exact mz_ret rfl
  · by_cases q2 : WW ≤ 0
    · refine ⟨(-1000002), mz_up w 68 2 ((w 68 2) + 1), ⟨?_, rfl⟩, ⟨fun i hi => (by simp only [mz_up_ne (sm_scne hi (r := 68) rfl)]), rfl, rfl⟩⟩
      refine mz_go 3 (c' := (3, [some (.ref 65), some (.int xa), none, none, none], [.int 3, .int 0, .int xa], w)) rfl ?_
      refine mz_doQ (R := mz_r128) (as := [.int xa, .int 0, .int 3]) (rest := []) (r1 := some (.int 1)) (m1 := w) mz_t128 mz_v128 rfl rfl rfl rfl rfl ((ct_in1 (m := w) (v := xa) (a := 0) (b := 3) (show ¬ (xa < 0) from (sm_in_lo q1)) (show ¬ (3 < xa) from (sm_in_hi q1))).deep (by decide)) ?_
      refine mz_go 2 (c' := (16, [some (.ref 65), some (.int xa), none, none, none], [.ref 65], w)) rfl ?_
      refine mz_doQ (R := mz_r185) (as := [.ref 65]) (rest := []) (r1 := some (.int 0)) (m1 := w) mz_t185 mz_v185_65 rfl rfl rfl rfl rfl ⟨?_, rfl⟩ ?_
      · refine mz_go 1 (c' := (1, [some (.ref 65)], [.ref 65], w)) rfl ?_
        refine mz_doQ (R := mz_r183) (as := [.ref 65]) (rest := []) (r1 := some (.int (nI WW))) (m1 := w) mz_t183 mz_v183_65 rfl rfl rfl rfl rfl ⟨?_, rfl⟩ ?_
        · refine mz_go 4 (c' := (7, [some (.ref 65)], [.int (w 66 60)], w)) rfl ?_
          rw [h6660]
          exact mz_ret rfl
        refine mz_go 1 (c' := (if (nI WW) ≤ 0 then 11 else 7, [some (.ref 65)], [], w)) rfl ?_
        refine mz_ifT (show ((nI WW) ≤ 0) from (sm_leN rfl rfl (show WW ≤ 0 by omega) (show 0 < 2 ^ 31 by omega))) ?_
        refine mz_go 1 (c' := (12, [some (.ref 65)], [.int 0], w)) rfl ?_
        exact mz_ret rfl
      refine mz_go 3 (c' := (24, [some (.ref 65), some (.int xa), none, none, none], [.int 2, .ref 65], w)) rfl ?_
      refine mz_doQ (R := mz_r127) (as := [.ref 65, .int 2]) (rest := []) (r1 := some (.int (-1000002))) (m1 := mz_up w 68 2 ((w 68 2) + 1)) mz_t127 mz_v127_65 rfl rfl rfl rfl rfl ((ct_err2 (m := w)).deep (by decide)) ?_
      exact mz_ret rfl
    · have HX2 : ∀ (x2_2 : Int32) (x4_2 : Option Value) (r65_2 : Nat → Int32) (r70_2 : Nat → Int32) (r71_2 : Nat → Int32) (hkr_2 : ∀ k, k < 4 ∨ 8 < k → r65_2 k = w 65 k), ∃ v m', mz_Ex 100 mz_k199 (165, [some (.ref 65), some (.int xa), some (.int x2_2), some (.int (nI WW)), x4_2], [], mz_set (mz_set (mz_set w 65 r65_2) 70 r70_2) 71 r71_2) (some (.int v), m') ∧ sm_Sc w m' := by
        intro x2_2 x4_2 r65_2 r70_2 r71_2 hkr_2
        refine ⟨x2_2, mz_set (mz_set (mz_set w 65 r65_2) 70 r70_2) 71 r71_2, ?_, ⟨fun i hi => (by simp only [mz_set_ne (sm_scne hi (r := 65) rfl), mz_set_ne (sm_scne hi (r := 70) rfl), mz_set_ne (sm_scne hi (r := 71) rfl)]), hkr_2 2 (by decide), hkr_2 19 (by decide)⟩⟩
        refine mz_go 1 (c' := (166, [some (.ref 65), some (.int xa), some (.int x2_2), some (.int (nI WW)), x4_2], [.int x2_2], mz_set (mz_set (mz_set w 65 r65_2) 70 r70_2) 71 r71_2)) rfl ?_
        exact mz_ret rfl
      obtain ⟨vr, mr, hr, hsc⟩ := xr_seei hw hN hr5 hr80 hr2 h660 h6615 hWW hHH hWH h6660 h6661 hT2 hU2 hV2 xa HX2 WW 0 (by omega) 0 none ((w) 65) ((w) 70) ((w) 71) (fun _ _ => rfl)
      have hm : w = mz_set (mz_set (mz_set w 65 ((w) 65)) 70 ((w) 70)) 71 ((w) 71) := sm_of3 (fun i h1 h2 h3 => rfl)
      rw [← hm] at hr
      refine ⟨vr, mr, ⟨?_, rfl⟩, hsc⟩
      refine mz_go 3 (c' := (3, [some (.ref 65), some (.int xa), none, none, none], [.int 3, .int 0, .int xa], w)) rfl ?_
      refine mz_doQ (R := mz_r128) (as := [.int xa, .int 0, .int 3]) (rest := []) (r1 := some (.int 1)) (m1 := w) mz_t128 mz_v128 rfl rfl rfl rfl rfl ((ct_in1 (m := w) (v := xa) (a := 0) (b := 3) (show ¬ (xa < 0) from (sm_in_lo q1)) (show ¬ (3 < xa) from (sm_in_hi q1))).deep (by decide)) ?_
      refine mz_go 2 (c' := (16, [some (.ref 65), some (.int xa), none, none, none], [.ref 65], w)) rfl ?_
      refine mz_doQ (R := mz_r185) (as := [.ref 65]) (rest := []) (r1 := some (.int 1)) (m1 := w) mz_t185 mz_v185_65 rfl rfl rfl rfl rfl ⟨?_, rfl⟩ ?_
      · refine mz_go 1 (c' := (1, [some (.ref 65)], [.ref 65], w)) rfl ?_
        refine mz_doQ (R := mz_r183) (as := [.ref 65]) (rest := []) (r1 := some (.int (nI WW))) (m1 := w) mz_t183 mz_v183_65 rfl rfl rfl rfl rfl ⟨?_, rfl⟩ ?_
        · refine mz_go 4 (c' := (7, [some (.ref 65)], [.int (w 66 60)], w)) rfl ?_
          rw [h6660]
          exact mz_ret rfl
        refine mz_go 1 (c' := (if (nI WW) ≤ 0 then 11 else 7, [some (.ref 65)], [], w)) rfl ?_
        refine mz_ifF (show ¬ ((nI WW) ≤ 0) from (sm_nleN rfl rfl (show 0 < WW by omega) (show WW < 2 ^ 31 by omega))) ?_
        refine mz_go 2 (c' := (12, [some (.ref 65)], [.int 1], w)) rfl ?_
        exact mz_ret rfl
      refine mz_go 5 (c' := (32, [some (.ref 65), some (.int xa), some (.int 0), some (.int 0), none], [], w)) rfl ?_
      exact hr
set_option maxHeartbeats 4000000 in
set_option maxRecDepth 100000 in
theorem xr_suri {w : mz_M} {N : Nat} (hw : sm_W w N) (hN : N ≤ 6) (hr5 : w 7 5 = 1 ∨ w 7 5 = 2) (hr80 : sm_N 80 (w 7 2)) (hr2 : sm_HR w (w 66)) (h660 : w 66 0 = nI N) (h6615 : w 66 15 = w 7 5) {WW HH : Nat} (hWW : WW ≤ 6) (hHH : HH ≤ 6) (hWH : WW = 0 ↔ HH = 0) (h6660 : w 66 60 = nI WW) (h6661 : w 66 61 = nI HH) {T2 : Nat} (hT2 : w 16 2 = nI T2) (hU2 : w 66 420 = nI T2) (hV2 : T2 = 0 ∨ sm_wf T2 5 (w 17) (w 18)) {xa xb xc : Int32} (hBd : sm_B 1000 xb) {p6 : Nat} (h6 : p6 < HH) (HX : ∀ (x4 : Int32) (x5 : Int32) (x8 : Option Value), ∃ v m', mz_Ex 100 mz_k200 (130, [some (.ref 65), some (.int xa), some (.int xb), some (.int xc), some (.int x4), some (.int x5), some (.int (nI p6)), some (.int (nI WW)), x8], [], w) (some (.int v), m') ∧ sm_Sc w m') : ∀ j k : Nat, k + j = WW → ∀ (x4 : Int32) (x5 : Int32) (x8 : Option Value), ∃ v m', mz_Ex 100 mz_k200 (65, [some (.ref 65), some (.int xa), some (.int xb), some (.int xc), some (.int x4), some (.int x5), some (.int (nI p6)), some (.int (nI k)), x8], [], w) (some (.int v), m') ∧ sm_Sc w m' := by
  have hT60c := sm_T60 hV2
  intro j
  induction j with
  | zero =>
    intro k hk x4 x5 x8
    rw [show k = WW by omega]
    obtain ⟨vr, mr, hr, hsc⟩ := HX x4 x5 x8
    refine ⟨vr, mr, ?_, hsc⟩
    refine mz_go 2 (c' := (68, [some (.ref 65), some (.int xa), some (.int xb), some (.int xc), some (.int x4), some (.int x5), some (.int (nI p6)), some (.int (nI WW)), x8], [.ref 65, .int (nI WW)], w)) rfl ?_
    refine mz_doQ (R := mz_r183) (as := [.ref 65]) (rest := [.int (nI WW)]) (r1 := some (.int (nI WW))) (m1 := w) mz_t183 mz_v183_65 rfl rfl rfl rfl rfl ⟨?_, rfl⟩ ?_
    · refine mz_go 4 (c' := (7, [some (.ref 65)], [.int (w 66 60)], w)) rfl ?_
      rw [h6660]
      exact mz_ret rfl
    refine mz_go 1 (c' := (if (nI WW) ≤ (nI WW) then 130 else 74, [some (.ref 65), some (.int xa), some (.int xb), some (.int xc), some (.int x4), some (.int x5), some (.int (nI p6)), some (.int (nI WW)), x8], [], w)) rfl ?_
    refine mz_ifT (show ((nI WW) ≤ (nI WW)) from (sm_leN rfl rfl (show WW ≤ WW by omega) (show WW < 2 ^ 31 by omega))) ?_
    exact hr
  | succ j ih =>
    intro k hk x4 x5 x8
    obtain ⟨ve1, Ee1⟩ := xr_aro (m := w) hWW hHH hWH h6660 h6661 xa (sm_BN (k := k) (a := 1000) (by omega) (by decide)) (sm_BN (k := p6) (a := 1000) (by omega) (by decide)) hBd
    by_cases q1 : ve1 ≤ x4
    · obtain ⟨vr, mr, hr, hsc⟩ := ih (k + 1) (by omega) x4 x5 (some (.int ve1))
      rw [nI_succ k] at hr
      refine ⟨vr, mr, ?_, hsc⟩
      refine mz_go 2 (c' := (68, [some (.ref 65), some (.int xa), some (.int xb), some (.int xc), some (.int x4), some (.int x5), some (.int (nI p6)), some (.int (nI k)), x8], [.ref 65, .int (nI k)], w)) rfl ?_
      refine mz_doQ (R := mz_r183) (as := [.ref 65]) (rest := [.int (nI k)]) (r1 := some (.int (nI WW))) (m1 := w) mz_t183 mz_v183_65 rfl rfl rfl rfl rfl ⟨?_, rfl⟩ ?_
      · refine mz_go 4 (c' := (7, [some (.ref 65)], [.int (w 66 60)], w)) rfl ?_
        rw [h6660]
        exact mz_ret rfl
      refine mz_go 1 (c' := (if (nI WW) ≤ (nI k) then 130 else 74, [some (.ref 65), some (.int xa), some (.int xb), some (.int xc), some (.int x4), some (.int x5), some (.int (nI p6)), some (.int (nI k)), x8], [], w)) rfl ?_
      refine mz_ifF (show ¬ ((nI WW) ≤ (nI k)) from (sm_nleN rfl rfl (show k < WW by omega) (show WW < 2 ^ 31 by omega))) ?_
      refine mz_go 5 (c' := (81, [some (.ref 65), some (.int xa), some (.int xb), some (.int xc), some (.int x4), some (.int x5), some (.int (nI p6)), some (.int (nI k)), x8], [.int xb, .int (nI p6), .int (nI k), .int xa, .ref 65], w)) rfl ?_
      refine mz_doQ (R := mz_r192) (as := [.ref 65, .int xa, .int (nI k), .int (nI p6), .int xb]) (rest := []) (r1 := some (.int ve1)) (m1 := w) mz_t192 mz_v192_65 rfl rfl rfl rfl rfl (Ee1.deep (by decide)) ?_
      refine mz_go 4 (c' := (if ve1 ≤ x4 then 104 else 93, [some (.ref 65), some (.int xa), some (.int xb), some (.int xc), some (.int x4), some (.int x5), some (.int (nI p6)), some (.int (nI k)), some (.int ve1)], [], w)) rfl ?_
      refine mz_ifT q1 ?_
      refine mz_go 5 (c' := (if ve1 ≤ x4 then 120 else 115, [some (.ref 65), some (.int xa), some (.int xb), some (.int xc), some (.int x4), some (.int x5), some (.int (nI p6)), some (.int (nI k)), some (.int ve1)], [], w)) rfl ?_
      refine mz_ifT q1 ?_
      refine mz_go 4 (c' := (65, [some (.ref 65), some (.int xa), some (.int xb), some (.int xc), some (.int x4), some (.int x5), some (.int (nI p6)), some (.int ((nI k) + 1)), some (.int ve1)], [], w)) rfl ?_
      exact hr
    · obtain ⟨vr, mr, hr, hsc⟩ := ih (k + 1) (by omega) ve1 ((10 * (nI k)) + (nI p6)) (some (.int ve1))
      rw [nI_succ k] at hr
      refine ⟨vr, mr, ?_, hsc⟩
      refine mz_go 2 (c' := (68, [some (.ref 65), some (.int xa), some (.int xb), some (.int xc), some (.int x4), some (.int x5), some (.int (nI p6)), some (.int (nI k)), x8], [.ref 65, .int (nI k)], w)) rfl ?_
      refine mz_doQ (R := mz_r183) (as := [.ref 65]) (rest := [.int (nI k)]) (r1 := some (.int (nI WW))) (m1 := w) mz_t183 mz_v183_65 rfl rfl rfl rfl rfl ⟨?_, rfl⟩ ?_
      · refine mz_go 4 (c' := (7, [some (.ref 65)], [.int (w 66 60)], w)) rfl ?_
        rw [h6660]
        exact mz_ret rfl
      refine mz_go 1 (c' := (if (nI WW) ≤ (nI k) then 130 else 74, [some (.ref 65), some (.int xa), some (.int xb), some (.int xc), some (.int x4), some (.int x5), some (.int (nI p6)), some (.int (nI k)), x8], [], w)) rfl ?_
      refine mz_ifF (show ¬ ((nI WW) ≤ (nI k)) from (sm_nleN rfl rfl (show k < WW by omega) (show WW < 2 ^ 31 by omega))) ?_
      refine mz_go 5 (c' := (81, [some (.ref 65), some (.int xa), some (.int xb), some (.int xc), some (.int x4), some (.int x5), some (.int (nI p6)), some (.int (nI k)), x8], [.int xb, .int (nI p6), .int (nI k), .int xa, .ref 65], w)) rfl ?_
      refine mz_doQ (R := mz_r192) (as := [.ref 65, .int xa, .int (nI k), .int (nI p6), .int xb]) (rest := []) (r1 := some (.int ve1)) (m1 := w) mz_t192 mz_v192_65 rfl rfl rfl rfl rfl (Ee1.deep (by decide)) ?_
      refine mz_go 4 (c' := (if ve1 ≤ x4 then 104 else 93, [some (.ref 65), some (.int xa), some (.int xb), some (.int xc), some (.int x4), some (.int x5), some (.int (nI p6)), some (.int (nI k)), some (.int ve1)], [], w)) rfl ?_
      refine mz_ifF q1 ?_
      refine mz_go 10 (c' := (if ve1 ≤ x4 then 120 else 115, [some (.ref 65), some (.int xa), some (.int xb), some (.int xc), some (.int x4), some (.int ((10 * (nI k)) + (nI p6))), some (.int (nI p6)), some (.int (nI k)), some (.int ve1)], [], w)) rfl ?_
      refine mz_ifF q1 ?_
      refine mz_go 5 (c' := (65, [some (.ref 65), some (.int xa), some (.int xb), some (.int xc), some (.int ve1), some (.int ((10 * (nI k)) + (nI p6))), some (.int (nI p6)), some (.int ((nI k) + 1)), some (.int ve1)], [], w)) rfl ?_
      exact hr
set_option maxHeartbeats 4000000 in
set_option maxRecDepth 100000 in
theorem xr_surj {w : mz_M} {N : Nat} (hw : sm_W w N) (hN : N ≤ 6) (hr5 : w 7 5 = 1 ∨ w 7 5 = 2) (hr80 : sm_N 80 (w 7 2)) (hr2 : sm_HR w (w 66)) (h660 : w 66 0 = nI N) (h6615 : w 66 15 = w 7 5) {WW HH : Nat} (hWW : WW ≤ 6) (hHH : HH ≤ 6) (hWH : WW = 0 ↔ HH = 0) (h6660 : w 66 60 = nI WW) (h6661 : w 66 61 = nI HH) {T2 : Nat} (hT2 : w 16 2 = nI T2) (hU2 : w 66 420 = nI T2) (hV2 : T2 = 0 ∨ sm_wf T2 5 (w 17) (w 18)) {xa xb xc : Int32} (hBd : sm_B 1000 xb) (HX : ∀ (x4 : Int32) (x5 : Int32) (x7 : Option Value) (x8 : Option Value), ∃ v m', mz_Ex 100 mz_k200 (136, [some (.ref 65), some (.int xa), some (.int xb), some (.int xc), some (.int x4), some (.int x5), some (.int (nI HH)), x7, x8], [], w) (some (.int v), m') ∧ sm_Sc w m') : ∀ j k : Nat, k + j = HH → ∀ (x4 : Int32) (x5 : Int32) (x7 : Option Value) (x8 : Option Value), ∃ v m', mz_Ex 100 mz_k200 (53, [some (.ref 65), some (.int xa), some (.int xb), some (.int xc), some (.int x4), some (.int x5), some (.int (nI k)), x7, x8], [], w) (some (.int v), m') ∧ sm_Sc w m' := by
  have hT60c := sm_T60 hV2
  intro j
  induction j with
  | zero =>
    intro k hk x4 x5 x7 x8
    rw [show k = HH by omega]
    obtain ⟨vr, mr, hr, hsc⟩ := HX x4 x5 x7 x8
    refine ⟨vr, mr, ?_, hsc⟩
    refine mz_go 2 (c' := (56, [some (.ref 65), some (.int xa), some (.int xb), some (.int xc), some (.int x4), some (.int x5), some (.int (nI HH)), x7, x8], [.ref 65, .int (nI HH)], w)) rfl ?_
    refine mz_doQ (R := mz_r184) (as := [.ref 65]) (rest := [.int (nI HH)]) (r1 := some (.int (nI HH))) (m1 := w) mz_t184 mz_v184_65 rfl rfl rfl rfl rfl ⟨?_, rfl⟩ ?_
    · refine mz_go 4 (c' := (7, [some (.ref 65)], [.int (w 66 61)], w)) rfl ?_
      rw [h6661]
      exact mz_ret rfl
    refine mz_go 1 (c' := (if (nI HH) ≤ (nI HH) then 136 else 62, [some (.ref 65), some (.int xa), some (.int xb), some (.int xc), some (.int x4), some (.int x5), some (.int (nI HH)), x7, x8], [], w)) rfl ?_
    refine mz_ifT (show ((nI HH) ≤ (nI HH)) from (sm_leN rfl rfl (show HH ≤ HH by omega) (show HH < 2 ^ 31 by omega))) ?_
    exact hr
  | succ j ih =>
    intro k hk x4 x5 x7 x8
    have HX1 : ∀ (x4_1 : Int32) (x5_1 : Int32) (x8_1 : Option Value), ∃ v m', mz_Ex 100 mz_k200 (130, [some (.ref 65), some (.int xa), some (.int xb), some (.int xc), some (.int x4_1), some (.int x5_1), some (.int (nI k)), some (.int (nI WW)), x8_1], [], w) (some (.int v), m') ∧ sm_Sc w m' := by
      intro x4_1 x5_1 x8_1
      obtain ⟨vr, mr, hr, hsc⟩ := ih (k + 1) (by omega) x4_1 x5_1 (some (.int (nI WW))) x8_1
      rw [nI_succ k] at hr
      refine ⟨vr, mr, ?_, hsc⟩
      refine mz_go 2 (c' := (53, [some (.ref 65), some (.int xa), some (.int xb), some (.int xc), some (.int x4_1), some (.int x5_1), some (.int ((nI k) + 1)), some (.int (nI WW)), x8_1], [], w)) rfl ?_
      exact hr
    obtain ⟨vr, mr, hr, hsc⟩ := xr_suri hw hN hr5 hr80 hr2 h660 h6615 hWW hHH hWH h6660 h6661 hT2 hU2 hV2 (xa := xa) (xc := xc) hBd (p6 := k) (by omega) HX1 WW 0 (by omega) x4 x5 x8
    refine ⟨vr, mr, ?_, hsc⟩
    refine mz_go 2 (c' := (56, [some (.ref 65), some (.int xa), some (.int xb), some (.int xc), some (.int x4), some (.int x5), some (.int (nI k)), x7, x8], [.ref 65, .int (nI k)], w)) rfl ?_
    refine mz_doQ (R := mz_r184) (as := [.ref 65]) (rest := [.int (nI k)]) (r1 := some (.int (nI HH))) (m1 := w) mz_t184 mz_v184_65 rfl rfl rfl rfl rfl ⟨?_, rfl⟩ ?_
    · refine mz_go 4 (c' := (7, [some (.ref 65)], [.int (w 66 61)], w)) rfl ?_
      rw [h6661]
      exact mz_ret rfl
    refine mz_go 1 (c' := (if (nI HH) ≤ (nI k) then 136 else 62, [some (.ref 65), some (.int xa), some (.int xb), some (.int xc), some (.int x4), some (.int x5), some (.int (nI k)), x7, x8], [], w)) rfl ?_
    refine mz_ifF (show ¬ ((nI HH) ≤ (nI k)) from (sm_nleN rfl rfl (show k < HH by omega) (show HH < 2 ^ 31 by omega))) ?_
    refine mz_go 2 (c' := (65, [some (.ref 65), some (.int xa), some (.int xb), some (.int xc), some (.int x4), some (.int x5), some (.int (nI k)), some (.int 0), x8], [], w)) rfl ?_
    exact hr
set_option maxHeartbeats 4000000 in
set_option maxRecDepth 100000 in
theorem xr_sure {w : mz_M} {N : Nat} (hw : sm_W w N) (hN : N ≤ 6) (hr5 : w 7 5 = 1 ∨ w 7 5 = 2) (hr80 : sm_N 80 (w 7 2)) (hr2 : sm_HR w (w 66)) (h660 : w 66 0 = nI N) (h6615 : w 66 15 = w 7 5) {WW HH : Nat} (hWW : WW ≤ 6) (hHH : HH ≤ 6) (hWH : WW = 0 ↔ HH = 0) (h6660 : w 66 60 = nI WW) (h6661 : w 66 61 = nI HH) {T2 : Nat} (hT2 : w 16 2 = nI T2) (hU2 : w 66 420 = nI T2) (hV2 : T2 = 0 ∨ sm_wf T2 5 (w 17) (w 18)) (xa xb xc : Int32) : ∃ v m', mz_Me 100 mz_r200 [.ref 65, .int xa, .int xb, .int xc] w (some (.int v)) m' ∧ sm_Sc w m' := by
  have hT60c := sm_T60 hV2
  by_cases q1 : (sm_bI (sm_in xa 0 5)) = 0
  · by_cases q2 : xa = 9
    · by_cases q3 : (sm_bI (sm_in xb 0 5)) = 0
      · refine ⟨(-1000001), mz_up w 68 1 ((w 68 1) + 1), ⟨?_, rfl⟩, ⟨fun i hi => (by simp only [mz_up_ne (sm_scne hi (r := 68) rfl)]), rfl, rfl⟩⟩
        refine mz_go 1 (c' := (1, [some (.ref 65), some (.int xa), some (.int xb), some (.int xc), none, none, none, none, none], [.int xa], w)) rfl ?_
        refine mz_doQ (R := mz_r188) (as := [.int xa]) (rest := []) (r1 := some (.int 1)) (m1 := w) mz_t188 mz_v188 rfl rfl rfl rfl rfl ⟨?_, rfl⟩ ?_
        · refine mz_go 3 (c' := (3, [some (.int xa)], [.int 5, .int 0, .int xa], w)) rfl ?_
          refine mz_doQ (R := mz_r128) (as := [.int xa, .int 0, .int 5]) (rest := []) (r1 := some (.int (sm_bI (sm_in xa 0 5)))) (m1 := w) mz_t128 mz_v128 rfl rfl rfl rfl rfl ((ct_in (m := w) xa 0 5).deep (by decide)) ?_
          refine mz_go 1 (c' := (if (sm_bI (sm_in xa 0 5)) = 0 then 9 else 15, [some (.int xa)], [], w)) rfl ?_
          refine mz_ifT q1 ?_
          refine mz_go 3 (c' := (if xa = 9 then 15 else 19, [some (.int xa)], [], w)) rfl ?_
          refine mz_ifT q2 ?_
          refine mz_go 2 (c' := (20, [some (.int xa)], [.int 1], w)) rfl ?_
          exact mz_ret rfl
        refine mz_go 4 (c' := (10, [some (.ref 65), some (.int xa), some (.int xb), some (.int xc), none, none, none, none, none], [.int 5, .int 0, .int xb], w)) rfl ?_
        refine mz_doQ (R := mz_r128) (as := [.int xb, .int 0, .int 5]) (rest := []) (r1 := some (.int (sm_bI (sm_in xb 0 5)))) (m1 := w) mz_t128 mz_v128 rfl rfl rfl rfl rfl ((ct_in (m := w) xb 0 5).deep (by decide)) ?_
        refine mz_go 1 (c' := (if (sm_bI (sm_in xb 0 5)) = 0 then 25 else 16, [some (.ref 65), some (.int xa), some (.int xb), some (.int xc), none, none, none, none, none], [], w)) rfl ?_
        refine mz_ifT q3 ?_
        refine mz_go 2 (c' := (27, [some (.ref 65), some (.int xa), some (.int xb), some (.int xc), none, none, none, none, none], [.int 1, .ref 65], w)) rfl ?_
        refine mz_doQ (R := mz_r127) (as := [.ref 65, .int 1]) (rest := []) (r1 := some (.int (-1000001))) (m1 := mz_up w 68 1 ((w 68 1) + 1)) mz_t127 mz_v127_65 rfl rfl rfl rfl rfl ((ct_err1 (m := w)).deep (by decide)) ?_
        exact mz_ret rfl
      · by_cases q4 : (sm_bI (sm_in xc 0 1)) = 0
        · refine ⟨(-1000001), mz_up w 68 1 ((w 68 1) + 1), ⟨?_, rfl⟩, ⟨fun i hi => (by simp only [mz_up_ne (sm_scne hi (r := 68) rfl)]), rfl, rfl⟩⟩
          refine mz_go 1 (c' := (1, [some (.ref 65), some (.int xa), some (.int xb), some (.int xc), none, none, none, none, none], [.int xa], w)) rfl ?_
          refine mz_doQ (R := mz_r188) (as := [.int xa]) (rest := []) (r1 := some (.int 1)) (m1 := w) mz_t188 mz_v188 rfl rfl rfl rfl rfl ⟨?_, rfl⟩ ?_
          · refine mz_go 3 (c' := (3, [some (.int xa)], [.int 5, .int 0, .int xa], w)) rfl ?_
            refine mz_doQ (R := mz_r128) (as := [.int xa, .int 0, .int 5]) (rest := []) (r1 := some (.int (sm_bI (sm_in xa 0 5)))) (m1 := w) mz_t128 mz_v128 rfl rfl rfl rfl rfl ((ct_in (m := w) xa 0 5).deep (by decide)) ?_
            refine mz_go 1 (c' := (if (sm_bI (sm_in xa 0 5)) = 0 then 9 else 15, [some (.int xa)], [], w)) rfl ?_
            refine mz_ifT q1 ?_
            refine mz_go 3 (c' := (if xa = 9 then 15 else 19, [some (.int xa)], [], w)) rfl ?_
            refine mz_ifT q2 ?_
            refine mz_go 2 (c' := (20, [some (.int xa)], [.int 1], w)) rfl ?_
            exact mz_ret rfl
          refine mz_go 4 (c' := (10, [some (.ref 65), some (.int xa), some (.int xb), some (.int xc), none, none, none, none, none], [.int 5, .int 0, .int xb], w)) rfl ?_
          refine mz_doQ (R := mz_r128) (as := [.int xb, .int 0, .int 5]) (rest := []) (r1 := some (.int 1)) (m1 := w) mz_t128 mz_v128 rfl rfl rfl rfl rfl ((ct_in1 (m := w) (v := xb) (a := 0) (b := 5) (show ¬ (xb < 0) from (sm_in_lo q3)) (show ¬ (5 < xb) from (sm_in_hi q3))).deep (by decide)) ?_
          refine mz_go 4 (c' := (19, [some (.ref 65), some (.int xa), some (.int xb), some (.int xc), none, none, none, none, none], [.int 1, .int 0, .int xc], w)) rfl ?_
          refine mz_doQ (R := mz_r128) (as := [.int xc, .int 0, .int 1]) (rest := []) (r1 := some (.int (sm_bI (sm_in xc 0 1)))) (m1 := w) mz_t128 mz_v128 rfl rfl rfl rfl rfl ((ct_in (m := w) xc 0 1).deep (by decide)) ?_
          refine mz_go 1 (c' := (if (sm_bI (sm_in xc 0 1)) = 0 then 25 else 31, [some (.ref 65), some (.int xa), some (.int xb), some (.int xc), none, none, none, none, none], [], w)) rfl ?_
          refine mz_ifT q4 ?_
          refine mz_go 2 (c' := (27, [some (.ref 65), some (.int xa), some (.int xb), some (.int xc), none, none, none, none, none], [.int 1, .ref 65], w)) rfl ?_
          refine mz_doQ (R := mz_r127) (as := [.ref 65, .int 1]) (rest := []) (r1 := some (.int (-1000001))) (m1 := mz_up w 68 1 ((w 68 1) + 1)) mz_t127 mz_v127_65 rfl rfl rfl rfl rfl ((ct_err1 (m := w)).deep (by decide)) ?_
          exact mz_ret rfl
        · by_cases q5 : WW ≤ 0
          · refine ⟨(-1000002), mz_up w 68 2 ((w 68 2) + 1), ⟨?_, rfl⟩, ⟨fun i hi => (by simp only [mz_up_ne (sm_scne hi (r := 68) rfl)]), rfl, rfl⟩⟩
            refine mz_go 1 (c' := (1, [some (.ref 65), some (.int xa), some (.int xb), some (.int xc), none, none, none, none, none], [.int xa], w)) rfl ?_
            refine mz_doQ (R := mz_r188) (as := [.int xa]) (rest := []) (r1 := some (.int 1)) (m1 := w) mz_t188 mz_v188 rfl rfl rfl rfl rfl ⟨?_, rfl⟩ ?_
            · refine mz_go 3 (c' := (3, [some (.int xa)], [.int 5, .int 0, .int xa], w)) rfl ?_
              refine mz_doQ (R := mz_r128) (as := [.int xa, .int 0, .int 5]) (rest := []) (r1 := some (.int (sm_bI (sm_in xa 0 5)))) (m1 := w) mz_t128 mz_v128 rfl rfl rfl rfl rfl ((ct_in (m := w) xa 0 5).deep (by decide)) ?_
              refine mz_go 1 (c' := (if (sm_bI (sm_in xa 0 5)) = 0 then 9 else 15, [some (.int xa)], [], w)) rfl ?_
              refine mz_ifT q1 ?_
              refine mz_go 3 (c' := (if xa = 9 then 15 else 19, [some (.int xa)], [], w)) rfl ?_
              refine mz_ifT q2 ?_
              refine mz_go 2 (c' := (20, [some (.int xa)], [.int 1], w)) rfl ?_
              exact mz_ret rfl
            refine mz_go 4 (c' := (10, [some (.ref 65), some (.int xa), some (.int xb), some (.int xc), none, none, none, none, none], [.int 5, .int 0, .int xb], w)) rfl ?_
            refine mz_doQ (R := mz_r128) (as := [.int xb, .int 0, .int 5]) (rest := []) (r1 := some (.int 1)) (m1 := w) mz_t128 mz_v128 rfl rfl rfl rfl rfl ((ct_in1 (m := w) (v := xb) (a := 0) (b := 5) (show ¬ (xb < 0) from (sm_in_lo q3)) (show ¬ (5 < xb) from (sm_in_hi q3))).deep (by decide)) ?_
            refine mz_go 4 (c' := (19, [some (.ref 65), some (.int xa), some (.int xb), some (.int xc), none, none, none, none, none], [.int 1, .int 0, .int xc], w)) rfl ?_
            refine mz_doQ (R := mz_r128) (as := [.int xc, .int 0, .int 1]) (rest := []) (r1 := some (.int 1)) (m1 := w) mz_t128 mz_v128 rfl rfl rfl rfl rfl ((ct_in1 (m := w) (v := xc) (a := 0) (b := 1) (show ¬ (xc < 0) from (sm_in_lo q4)) (show ¬ (1 < xc) from (sm_in_hi q4))).deep (by decide)) ?_
            refine mz_go 2 (c' := (32, [some (.ref 65), some (.int xa), some (.int xb), some (.int xc), none, none, none, none, none], [.ref 65], w)) rfl ?_
            refine mz_doQ (R := mz_r185) (as := [.ref 65]) (rest := []) (r1 := some (.int 0)) (m1 := w) mz_t185 mz_v185_65 rfl rfl rfl rfl rfl ⟨?_, rfl⟩ ?_
            · refine mz_go 1 (c' := (1, [some (.ref 65)], [.ref 65], w)) rfl ?_
              refine mz_doQ (R := mz_r183) (as := [.ref 65]) (rest := []) (r1 := some (.int (nI WW))) (m1 := w) mz_t183 mz_v183_65 rfl rfl rfl rfl rfl ⟨?_, rfl⟩ ?_
              · refine mz_go 4 (c' := (7, [some (.ref 65)], [.int (w 66 60)], w)) rfl ?_
                rw [h6660]
                exact mz_ret rfl
              refine mz_go 1 (c' := (if (nI WW) ≤ 0 then 11 else 7, [some (.ref 65)], [], w)) rfl ?_
              refine mz_ifT (show ((nI WW) ≤ 0) from (sm_leN rfl rfl (show WW ≤ 0 by omega) (show 0 < 2 ^ 31 by omega))) ?_
              refine mz_go 1 (c' := (12, [some (.ref 65)], [.int 0], w)) rfl ?_
              exact mz_ret rfl
            refine mz_go 3 (c' := (40, [some (.ref 65), some (.int xa), some (.int xb), some (.int xc), none, none, none, none, none], [.int 2, .ref 65], w)) rfl ?_
            refine mz_doQ (R := mz_r127) (as := [.ref 65, .int 2]) (rest := []) (r1 := some (.int (-1000002))) (m1 := mz_up w 68 2 ((w 68 2) + 1)) mz_t127 mz_v127_65 rfl rfl rfl rfl rfl ((ct_err2 (m := w)).deep (by decide)) ?_
            exact mz_ret rfl
          · have HX2 : ∀ (x4_2 : Int32) (x5_2 : Int32) (x7_2 : Option Value) (x8_2 : Option Value), ∃ v m', mz_Ex 100 mz_k200 (136, [some (.ref 65), some (.int xa), some (.int xb), some (.int xc), some (.int x4_2), some (.int x5_2), some (.int (nI HH)), x7_2, x8_2], [], w) (some (.int v), m') ∧ sm_Sc w m' := by
              intro x4_2 x5_2 x7_2 x8_2
              by_cases q6 : xc = 0
              · refine ⟨x5_2, w, ?_, ⟨fun _ _ => rfl, rfl, rfl⟩⟩
                refine mz_go 2 (c' := (if xc = 0 then 140 else 145, [some (.ref 65), some (.int xa), some (.int xb), some (.int xc), some (.int x4_2), some (.int x5_2), some (.int (nI HH)), x7_2, x8_2], [], w)) rfl ?_
                refine mz_ifT q6 ?_
                refine mz_go 2 (c' := (147, [some (.ref 65), some (.int xa), some (.int xb), some (.int xc), some (.int x4_2), some (.int x5_2), some (.int (nI HH)), x7_2, x8_2], [.int x5_2], w)) rfl ?_
                exact mz_ret rfl
              · refine ⟨x4_2, w, ?_, ⟨fun _ _ => rfl, rfl, rfl⟩⟩
                refine mz_go 2 (c' := (if xc = 0 then 140 else 145, [some (.ref 65), some (.int xa), some (.int xb), some (.int xc), some (.int x4_2), some (.int x5_2), some (.int (nI HH)), x7_2, x8_2], [], w)) rfl ?_
                refine mz_ifF q6 ?_
                refine mz_go 1 (c' := (147, [some (.ref 65), some (.int xa), some (.int xb), some (.int xc), some (.int x4_2), some (.int x5_2), some (.int (nI HH)), x7_2, x8_2], [.int x4_2], w)) rfl ?_
                exact mz_ret rfl
            obtain ⟨vr, mr, hr, hsc⟩ := xr_surj hw hN hr5 hr80 hr2 h660 h6615 hWW hHH hWH h6660 h6661 hT2 hU2 hV2 (xa := xa) (xc := xc) (sm_Bd (sm_in_lo q3) (sm_in_hi q3)) HX2 HH 0 (by omega) (-1) 0 none none
            refine ⟨vr, mr, ⟨?_, rfl⟩, hsc⟩
            refine mz_go 1 (c' := (1, [some (.ref 65), some (.int xa), some (.int xb), some (.int xc), none, none, none, none, none], [.int xa], w)) rfl ?_
            refine mz_doQ (R := mz_r188) (as := [.int xa]) (rest := []) (r1 := some (.int 1)) (m1 := w) mz_t188 mz_v188 rfl rfl rfl rfl rfl ⟨?_, rfl⟩ ?_
            · refine mz_go 3 (c' := (3, [some (.int xa)], [.int 5, .int 0, .int xa], w)) rfl ?_
              refine mz_doQ (R := mz_r128) (as := [.int xa, .int 0, .int 5]) (rest := []) (r1 := some (.int (sm_bI (sm_in xa 0 5)))) (m1 := w) mz_t128 mz_v128 rfl rfl rfl rfl rfl ((ct_in (m := w) xa 0 5).deep (by decide)) ?_
              refine mz_go 1 (c' := (if (sm_bI (sm_in xa 0 5)) = 0 then 9 else 15, [some (.int xa)], [], w)) rfl ?_
              refine mz_ifT q1 ?_
              refine mz_go 3 (c' := (if xa = 9 then 15 else 19, [some (.int xa)], [], w)) rfl ?_
              refine mz_ifT q2 ?_
              refine mz_go 2 (c' := (20, [some (.int xa)], [.int 1], w)) rfl ?_
              exact mz_ret rfl
            refine mz_go 4 (c' := (10, [some (.ref 65), some (.int xa), some (.int xb), some (.int xc), none, none, none, none, none], [.int 5, .int 0, .int xb], w)) rfl ?_
            refine mz_doQ (R := mz_r128) (as := [.int xb, .int 0, .int 5]) (rest := []) (r1 := some (.int 1)) (m1 := w) mz_t128 mz_v128 rfl rfl rfl rfl rfl ((ct_in1 (m := w) (v := xb) (a := 0) (b := 5) (show ¬ (xb < 0) from (sm_in_lo q3)) (show ¬ (5 < xb) from (sm_in_hi q3))).deep (by decide)) ?_
            refine mz_go 4 (c' := (19, [some (.ref 65), some (.int xa), some (.int xb), some (.int xc), none, none, none, none, none], [.int 1, .int 0, .int xc], w)) rfl ?_
            refine mz_doQ (R := mz_r128) (as := [.int xc, .int 0, .int 1]) (rest := []) (r1 := some (.int 1)) (m1 := w) mz_t128 mz_v128 rfl rfl rfl rfl rfl ((ct_in1 (m := w) (v := xc) (a := 0) (b := 1) (show ¬ (xc < 0) from (sm_in_lo q4)) (show ¬ (1 < xc) from (sm_in_hi q4))).deep (by decide)) ?_
            refine mz_go 2 (c' := (32, [some (.ref 65), some (.int xa), some (.int xb), some (.int xc), none, none, none, none, none], [.ref 65], w)) rfl ?_
            refine mz_doQ (R := mz_r185) (as := [.ref 65]) (rest := []) (r1 := some (.int 1)) (m1 := w) mz_t185 mz_v185_65 rfl rfl rfl rfl rfl ⟨?_, rfl⟩ ?_
            · refine mz_go 1 (c' := (1, [some (.ref 65)], [.ref 65], w)) rfl ?_
              refine mz_doQ (R := mz_r183) (as := [.ref 65]) (rest := []) (r1 := some (.int (nI WW))) (m1 := w) mz_t183 mz_v183_65 rfl rfl rfl rfl rfl ⟨?_, rfl⟩ ?_
              · refine mz_go 4 (c' := (7, [some (.ref 65)], [.int (w 66 60)], w)) rfl ?_
                rw [h6660]
                exact mz_ret rfl
              refine mz_go 1 (c' := (if (nI WW) ≤ 0 then 11 else 7, [some (.ref 65)], [], w)) rfl ?_
              refine mz_ifF (show ¬ ((nI WW) ≤ 0) from (sm_nleN rfl rfl (show 0 < WW by omega) (show WW < 2 ^ 31 by omega))) ?_
              refine mz_go 2 (c' := (12, [some (.ref 65)], [.int 1], w)) rfl ?_
              exact mz_ret rfl
            refine mz_go 7 (c' := (53, [some (.ref 65), some (.int xa), some (.int xb), some (.int xc), some (.int (-1)), some (.int 0), some (.int 0), none, none], [], w)) rfl ?_
            exact hr
    · refine ⟨(-1000001), mz_up w 68 1 ((w 68 1) + 1), ⟨?_, rfl⟩, ⟨fun i hi => (by simp only [mz_up_ne (sm_scne hi (r := 68) rfl)]), rfl, rfl⟩⟩
      refine mz_go 1 (c' := (1, [some (.ref 65), some (.int xa), some (.int xb), some (.int xc), none, none, none, none, none], [.int xa], w)) rfl ?_
      refine mz_doQ (R := mz_r188) (as := [.int xa]) (rest := []) (r1 := some (.int 0)) (m1 := w) mz_t188 mz_v188 rfl rfl rfl rfl rfl ⟨?_, rfl⟩ ?_
      · refine mz_go 3 (c' := (3, [some (.int xa)], [.int 5, .int 0, .int xa], w)) rfl ?_
        refine mz_doQ (R := mz_r128) (as := [.int xa, .int 0, .int 5]) (rest := []) (r1 := some (.int (sm_bI (sm_in xa 0 5)))) (m1 := w) mz_t128 mz_v128 rfl rfl rfl rfl rfl ((ct_in (m := w) xa 0 5).deep (by decide)) ?_
        refine mz_go 1 (c' := (if (sm_bI (sm_in xa 0 5)) = 0 then 9 else 15, [some (.int xa)], [], w)) rfl ?_
        refine mz_ifT q1 ?_
        refine mz_go 3 (c' := (if xa = 9 then 15 else 19, [some (.int xa)], [], w)) rfl ?_
        refine mz_ifF q2 ?_
        refine mz_go 1 (c' := (20, [some (.int xa)], [.int 0], w)) rfl ?_
        exact mz_ret rfl
      refine mz_go 3 (c' := (27, [some (.ref 65), some (.int xa), some (.int xb), some (.int xc), none, none, none, none, none], [.int 1, .ref 65], w)) rfl ?_
      refine mz_doQ (R := mz_r127) (as := [.ref 65, .int 1]) (rest := []) (r1 := some (.int (-1000001))) (m1 := mz_up w 68 1 ((w 68 1) + 1)) mz_t127 mz_v127_65 rfl rfl rfl rfl rfl ((ct_err1 (m := w)).deep (by decide)) ?_
      exact mz_ret rfl
  · by_cases q7 : (sm_bI (sm_in xb 0 5)) = 0
    · refine ⟨(-1000001), mz_up w 68 1 ((w 68 1) + 1), ⟨?_, rfl⟩, ⟨fun i hi => (by simp only [mz_up_ne (sm_scne hi (r := 68) rfl)]), rfl, rfl⟩⟩
      refine mz_go 1 (c' := (1, [some (.ref 65), some (.int xa), some (.int xb), some (.int xc), none, none, none, none, none], [.int xa], w)) rfl ?_
      refine mz_doQ (R := mz_r188) (as := [.int xa]) (rest := []) (r1 := some (.int 1)) (m1 := w) mz_t188 mz_v188 rfl rfl rfl rfl rfl ⟨?_, rfl⟩ ?_
      · refine mz_go 3 (c' := (3, [some (.int xa)], [.int 5, .int 0, .int xa], w)) rfl ?_
        refine mz_doQ (R := mz_r128) (as := [.int xa, .int 0, .int 5]) (rest := []) (r1 := some (.int 1)) (m1 := w) mz_t128 mz_v128 rfl rfl rfl rfl rfl ((ct_in1 (m := w) (v := xa) (a := 0) (b := 5) (show ¬ (xa < 0) from (sm_in_lo q1)) (show ¬ (5 < xa) from (sm_in_hi q1))).deep (by decide)) ?_
        refine mz_go 3 (c' := (20, [some (.int xa)], [.int 1], w)) rfl ?_
        exact mz_ret rfl
      refine mz_go 4 (c' := (10, [some (.ref 65), some (.int xa), some (.int xb), some (.int xc), none, none, none, none, none], [.int 5, .int 0, .int xb], w)) rfl ?_
      refine mz_doQ (R := mz_r128) (as := [.int xb, .int 0, .int 5]) (rest := []) (r1 := some (.int (sm_bI (sm_in xb 0 5)))) (m1 := w) mz_t128 mz_v128 rfl rfl rfl rfl rfl ((ct_in (m := w) xb 0 5).deep (by decide)) ?_
      refine mz_go 1 (c' := (if (sm_bI (sm_in xb 0 5)) = 0 then 25 else 16, [some (.ref 65), some (.int xa), some (.int xb), some (.int xc), none, none, none, none, none], [], w)) rfl ?_
      refine mz_ifT q7 ?_
      refine mz_go 2 (c' := (27, [some (.ref 65), some (.int xa), some (.int xb), some (.int xc), none, none, none, none, none], [.int 1, .ref 65], w)) rfl ?_
      refine mz_doQ (R := mz_r127) (as := [.ref 65, .int 1]) (rest := []) (r1 := some (.int (-1000001))) (m1 := mz_up w 68 1 ((w 68 1) + 1)) mz_t127 mz_v127_65 rfl rfl rfl rfl rfl ((ct_err1 (m := w)).deep (by decide)) ?_
      exact mz_ret rfl
    · by_cases q8 : (sm_bI (sm_in xc 0 1)) = 0
      · refine ⟨(-1000001), mz_up w 68 1 ((w 68 1) + 1), ⟨?_, rfl⟩, ⟨fun i hi => (by simp only [mz_up_ne (sm_scne hi (r := 68) rfl)]), rfl, rfl⟩⟩
        refine mz_go 1 (c' := (1, [some (.ref 65), some (.int xa), some (.int xb), some (.int xc), none, none, none, none, none], [.int xa], w)) rfl ?_
        refine mz_doQ (R := mz_r188) (as := [.int xa]) (rest := []) (r1 := some (.int 1)) (m1 := w) mz_t188 mz_v188 rfl rfl rfl rfl rfl ⟨?_, rfl⟩ ?_
        · refine mz_go 3 (c' := (3, [some (.int xa)], [.int 5, .int 0, .int xa], w)) rfl ?_
          refine mz_doQ (R := mz_r128) (as := [.int xa, .int 0, .int 5]) (rest := []) (r1 := some (.int 1)) (m1 := w) mz_t128 mz_v128 rfl rfl rfl rfl rfl ((ct_in1 (m := w) (v := xa) (a := 0) (b := 5) (show ¬ (xa < 0) from (sm_in_lo q1)) (show ¬ (5 < xa) from (sm_in_hi q1))).deep (by decide)) ?_
          refine mz_go 3 (c' := (20, [some (.int xa)], [.int 1], w)) rfl ?_
          exact mz_ret rfl
        refine mz_go 4 (c' := (10, [some (.ref 65), some (.int xa), some (.int xb), some (.int xc), none, none, none, none, none], [.int 5, .int 0, .int xb], w)) rfl ?_
        refine mz_doQ (R := mz_r128) (as := [.int xb, .int 0, .int 5]) (rest := []) (r1 := some (.int 1)) (m1 := w) mz_t128 mz_v128 rfl rfl rfl rfl rfl ((ct_in1 (m := w) (v := xb) (a := 0) (b := 5) (show ¬ (xb < 0) from (sm_in_lo q7)) (show ¬ (5 < xb) from (sm_in_hi q7))).deep (by decide)) ?_
        refine mz_go 4 (c' := (19, [some (.ref 65), some (.int xa), some (.int xb), some (.int xc), none, none, none, none, none], [.int 1, .int 0, .int xc], w)) rfl ?_
        refine mz_doQ (R := mz_r128) (as := [.int xc, .int 0, .int 1]) (rest := []) (r1 := some (.int (sm_bI (sm_in xc 0 1)))) (m1 := w) mz_t128 mz_v128 rfl rfl rfl rfl rfl ((ct_in (m := w) xc 0 1).deep (by decide)) ?_
        refine mz_go 1 (c' := (if (sm_bI (sm_in xc 0 1)) = 0 then 25 else 31, [some (.ref 65), some (.int xa), some (.int xb), some (.int xc), none, none, none, none, none], [], w)) rfl ?_
        refine mz_ifT q8 ?_
        refine mz_go 2 (c' := (27, [some (.ref 65), some (.int xa), some (.int xb), some (.int xc), none, none, none, none, none], [.int 1, .ref 65], w)) rfl ?_
        refine mz_doQ (R := mz_r127) (as := [.ref 65, .int 1]) (rest := []) (r1 := some (.int (-1000001))) (m1 := mz_up w 68 1 ((w 68 1) + 1)) mz_t127 mz_v127_65 rfl rfl rfl rfl rfl ((ct_err1 (m := w)).deep (by decide)) ?_
        exact mz_ret rfl
      · by_cases q9 : WW ≤ 0
        · refine ⟨(-1000002), mz_up w 68 2 ((w 68 2) + 1), ⟨?_, rfl⟩, ⟨fun i hi => (by simp only [mz_up_ne (sm_scne hi (r := 68) rfl)]), rfl, rfl⟩⟩
          refine mz_go 1 (c' := (1, [some (.ref 65), some (.int xa), some (.int xb), some (.int xc), none, none, none, none, none], [.int xa], w)) rfl ?_
          refine mz_doQ (R := mz_r188) (as := [.int xa]) (rest := []) (r1 := some (.int 1)) (m1 := w) mz_t188 mz_v188 rfl rfl rfl rfl rfl ⟨?_, rfl⟩ ?_
          · refine mz_go 3 (c' := (3, [some (.int xa)], [.int 5, .int 0, .int xa], w)) rfl ?_
            refine mz_doQ (R := mz_r128) (as := [.int xa, .int 0, .int 5]) (rest := []) (r1 := some (.int 1)) (m1 := w) mz_t128 mz_v128 rfl rfl rfl rfl rfl ((ct_in1 (m := w) (v := xa) (a := 0) (b := 5) (show ¬ (xa < 0) from (sm_in_lo q1)) (show ¬ (5 < xa) from (sm_in_hi q1))).deep (by decide)) ?_
            refine mz_go 3 (c' := (20, [some (.int xa)], [.int 1], w)) rfl ?_
            exact mz_ret rfl
          refine mz_go 4 (c' := (10, [some (.ref 65), some (.int xa), some (.int xb), some (.int xc), none, none, none, none, none], [.int 5, .int 0, .int xb], w)) rfl ?_
          refine mz_doQ (R := mz_r128) (as := [.int xb, .int 0, .int 5]) (rest := []) (r1 := some (.int 1)) (m1 := w) mz_t128 mz_v128 rfl rfl rfl rfl rfl ((ct_in1 (m := w) (v := xb) (a := 0) (b := 5) (show ¬ (xb < 0) from (sm_in_lo q7)) (show ¬ (5 < xb) from (sm_in_hi q7))).deep (by decide)) ?_
          refine mz_go 4 (c' := (19, [some (.ref 65), some (.int xa), some (.int xb), some (.int xc), none, none, none, none, none], [.int 1, .int 0, .int xc], w)) rfl ?_
          refine mz_doQ (R := mz_r128) (as := [.int xc, .int 0, .int 1]) (rest := []) (r1 := some (.int 1)) (m1 := w) mz_t128 mz_v128 rfl rfl rfl rfl rfl ((ct_in1 (m := w) (v := xc) (a := 0) (b := 1) (show ¬ (xc < 0) from (sm_in_lo q8)) (show ¬ (1 < xc) from (sm_in_hi q8))).deep (by decide)) ?_
          refine mz_go 2 (c' := (32, [some (.ref 65), some (.int xa), some (.int xb), some (.int xc), none, none, none, none, none], [.ref 65], w)) rfl ?_
          refine mz_doQ (R := mz_r185) (as := [.ref 65]) (rest := []) (r1 := some (.int 0)) (m1 := w) mz_t185 mz_v185_65 rfl rfl rfl rfl rfl ⟨?_, rfl⟩ ?_
          · refine mz_go 1 (c' := (1, [some (.ref 65)], [.ref 65], w)) rfl ?_
            refine mz_doQ (R := mz_r183) (as := [.ref 65]) (rest := []) (r1 := some (.int (nI WW))) (m1 := w) mz_t183 mz_v183_65 rfl rfl rfl rfl rfl ⟨?_, rfl⟩ ?_
            · refine mz_go 4 (c' := (7, [some (.ref 65)], [.int (w 66 60)], w)) rfl ?_
              rw [h6660]
              exact mz_ret rfl
            refine mz_go 1 (c' := (if (nI WW) ≤ 0 then 11 else 7, [some (.ref 65)], [], w)) rfl ?_
            refine mz_ifT (show ((nI WW) ≤ 0) from (sm_leN rfl rfl (show WW ≤ 0 by omega) (show 0 < 2 ^ 31 by omega))) ?_
            refine mz_go 1 (c' := (12, [some (.ref 65)], [.int 0], w)) rfl ?_
            exact mz_ret rfl
          refine mz_go 3 (c' := (40, [some (.ref 65), some (.int xa), some (.int xb), some (.int xc), none, none, none, none, none], [.int 2, .ref 65], w)) rfl ?_
          refine mz_doQ (R := mz_r127) (as := [.ref 65, .int 2]) (rest := []) (r1 := some (.int (-1000002))) (m1 := mz_up w 68 2 ((w 68 2) + 1)) mz_t127 mz_v127_65 rfl rfl rfl rfl rfl ((ct_err2 (m := w)).deep (by decide)) ?_
          exact mz_ret rfl
        · have HX3 : ∀ (x4_3 : Int32) (x5_3 : Int32) (x7_3 : Option Value) (x8_3 : Option Value), ∃ v m', mz_Ex 100 mz_k200 (136, [some (.ref 65), some (.int xa), some (.int xb), some (.int xc), some (.int x4_3), some (.int x5_3), some (.int (nI HH)), x7_3, x8_3], [], w) (some (.int v), m') ∧ sm_Sc w m' := by
            intro x4_3 x5_3 x7_3 x8_3
            by_cases q10 : xc = 0
            · refine ⟨x5_3, w, ?_, ⟨fun _ _ => rfl, rfl, rfl⟩⟩
              refine mz_go 2 (c' := (if xc = 0 then 140 else 145, [some (.ref 65), some (.int xa), some (.int xb), some (.int xc), some (.int x4_3), some (.int x5_3), some (.int (nI HH)), x7_3, x8_3], [], w)) rfl ?_
              refine mz_ifT q10 ?_
              refine mz_go 2 (c' := (147, [some (.ref 65), some (.int xa), some (.int xb), some (.int xc), some (.int x4_3), some (.int x5_3), some (.int (nI HH)), x7_3, x8_3], [.int x5_3], w)) rfl ?_
              exact mz_ret rfl
            · refine ⟨x4_3, w, ?_, ⟨fun _ _ => rfl, rfl, rfl⟩⟩
              refine mz_go 2 (c' := (if xc = 0 then 140 else 145, [some (.ref 65), some (.int xa), some (.int xb), some (.int xc), some (.int x4_3), some (.int x5_3), some (.int (nI HH)), x7_3, x8_3], [], w)) rfl ?_
              refine mz_ifF q10 ?_
              refine mz_go 1 (c' := (147, [some (.ref 65), some (.int xa), some (.int xb), some (.int xc), some (.int x4_3), some (.int x5_3), some (.int (nI HH)), x7_3, x8_3], [.int x4_3], w)) rfl ?_
              exact mz_ret rfl
          obtain ⟨vr, mr, hr, hsc⟩ := xr_surj hw hN hr5 hr80 hr2 h660 h6615 hWW hHH hWH h6660 h6661 hT2 hU2 hV2 (xa := xa) (xc := xc) (sm_Bd (sm_in_lo q7) (sm_in_hi q7)) HX3 HH 0 (by omega) (-1) 0 none none
          refine ⟨vr, mr, ⟨?_, rfl⟩, hsc⟩
          refine mz_go 1 (c' := (1, [some (.ref 65), some (.int xa), some (.int xb), some (.int xc), none, none, none, none, none], [.int xa], w)) rfl ?_
          refine mz_doQ (R := mz_r188) (as := [.int xa]) (rest := []) (r1 := some (.int 1)) (m1 := w) mz_t188 mz_v188 rfl rfl rfl rfl rfl ⟨?_, rfl⟩ ?_
          · refine mz_go 3 (c' := (3, [some (.int xa)], [.int 5, .int 0, .int xa], w)) rfl ?_
            refine mz_doQ (R := mz_r128) (as := [.int xa, .int 0, .int 5]) (rest := []) (r1 := some (.int 1)) (m1 := w) mz_t128 mz_v128 rfl rfl rfl rfl rfl ((ct_in1 (m := w) (v := xa) (a := 0) (b := 5) (show ¬ (xa < 0) from (sm_in_lo q1)) (show ¬ (5 < xa) from (sm_in_hi q1))).deep (by decide)) ?_
            refine mz_go 3 (c' := (20, [some (.int xa)], [.int 1], w)) rfl ?_
            exact mz_ret rfl
          refine mz_go 4 (c' := (10, [some (.ref 65), some (.int xa), some (.int xb), some (.int xc), none, none, none, none, none], [.int 5, .int 0, .int xb], w)) rfl ?_
          refine mz_doQ (R := mz_r128) (as := [.int xb, .int 0, .int 5]) (rest := []) (r1 := some (.int 1)) (m1 := w) mz_t128 mz_v128 rfl rfl rfl rfl rfl ((ct_in1 (m := w) (v := xb) (a := 0) (b := 5) (show ¬ (xb < 0) from (sm_in_lo q7)) (show ¬ (5 < xb) from (sm_in_hi q7))).deep (by decide)) ?_
          refine mz_go 4 (c' := (19, [some (.ref 65), some (.int xa), some (.int xb), some (.int xc), none, none, none, none, none], [.int 1, .int 0, .int xc], w)) rfl ?_
          refine mz_doQ (R := mz_r128) (as := [.int xc, .int 0, .int 1]) (rest := []) (r1 := some (.int 1)) (m1 := w) mz_t128 mz_v128 rfl rfl rfl rfl rfl ((ct_in1 (m := w) (v := xc) (a := 0) (b := 1) (show ¬ (xc < 0) from (sm_in_lo q8)) (show ¬ (1 < xc) from (sm_in_hi q8))).deep (by decide)) ?_
          refine mz_go 2 (c' := (32, [some (.ref 65), some (.int xa), some (.int xb), some (.int xc), none, none, none, none, none], [.ref 65], w)) rfl ?_
          refine mz_doQ (R := mz_r185) (as := [.ref 65]) (rest := []) (r1 := some (.int 1)) (m1 := w) mz_t185 mz_v185_65 rfl rfl rfl rfl rfl ⟨?_, rfl⟩ ?_
          · refine mz_go 1 (c' := (1, [some (.ref 65)], [.ref 65], w)) rfl ?_
            refine mz_doQ (R := mz_r183) (as := [.ref 65]) (rest := []) (r1 := some (.int (nI WW))) (m1 := w) mz_t183 mz_v183_65 rfl rfl rfl rfl rfl ⟨?_, rfl⟩ ?_
            · refine mz_go 4 (c' := (7, [some (.ref 65)], [.int (w 66 60)], w)) rfl ?_
              rw [h6660]
              exact mz_ret rfl
            refine mz_go 1 (c' := (if (nI WW) ≤ 0 then 11 else 7, [some (.ref 65)], [], w)) rfl ?_
            refine mz_ifF (show ¬ ((nI WW) ≤ 0) from (sm_nleN rfl rfl (show 0 < WW by omega) (show WW < 2 ^ 31 by omega))) ?_
            refine mz_go 2 (c' := (12, [some (.ref 65)], [.int 1], w)) rfl ?_
            exact mz_ret rfl
          refine mz_go 7 (c' := (53, [some (.ref 65), some (.int xa), some (.int xb), some (.int xc), some (.int (-1)), some (.int 0), some (.int 0), none, none], [], w)) rfl ?_
          exact hr
set_option maxHeartbeats 4000000 in
set_option maxRecDepth 100000 in
theorem xr_fairm {w : mz_M} {N : Nat} (hw : sm_W w N) (hN : N ≤ 6) (hr5 : w 7 5 = 1 ∨ w 7 5 = 2) (hr80 : sm_N 80 (w 7 2)) (hr2 : sm_HR w (w 66)) (h660 : w 66 0 = nI N) (h6615 : w 66 15 = w 7 5) {WW HH : Nat} (hWW : WW ≤ 6) (hHH : HH ≤ 6) (hWH : WW = 0 ↔ HH = 0) (h6660 : w 66 60 = nI WW) (h6661 : w 66 61 = nI HH) {T2 : Nat} (hT2 : w 16 2 = nI T2) (hU2 : w 66 420 = nI T2) (hV2 : T2 = 0 ∨ sm_wf T2 5 (w 17) (w 18)) (xa : Int32) (HX : ∀ (x4 : Int32) (x2 : Int32) (x3 : Int32) (x5 : Option Value), ∃ v m', mz_Ex 100 mz_k202 (96, [some (.ref 65), some (.int xa), some (.int x2), some (.int x3), some (.int x4), x5, none], [], w) (some (.int v), m') ∧ sm_Sc w m') : ∀ fu : Nat, ∀ x4 : Int32, (nI N).toInt - x4.toInt < (fu : Int) → ∀ (x2 : Int32) (x3 : Int32) (x5 : Option Value), ∃ v m', mz_Ex 100 mz_k202 (45, [some (.ref 65), some (.int xa), some (.int x2), some (.int x3), some (.int x4), x5, none], [], w) (some (.int v), m') ∧ sm_Sc w m' := by
  have hT60c := sm_T60 hV2
  intro fu
  induction fu with
  | zero =>
    intro x4 hms x2 x3 x5
    have hmz : (nI N) ≤ x4 := sm_mz2 hms
    obtain ⟨vr, mr, hr, hsc⟩ := HX x4 x2 x3 x5
    refine ⟨vr, mr, ?_, hsc⟩
    refine mz_go 5 (c' := (53, [some (.ref 65), some (.int xa), some (.int x2), some (.int x3), some (.int x4), x5, none], [.int (w 66 0), .int x4], w)) rfl ?_
    rw [h660]
    refine mz_go 1 (c' := (if (nI N) ≤ x4 then 96 else 56, [some (.ref 65), some (.int xa), some (.int x2), some (.int x3), some (.int x4), x5, none], [], w)) rfl ?_
    refine mz_ifT hmz ?_
    exact hr
  | succ fu ih =>
    intro x4 hms x2 x3 x5
    by_cases q1 : (nI N) ≤ x4
    · obtain ⟨vr, mr, hr, hsc⟩ := HX x4 x2 x3 x5
      refine ⟨vr, mr, ?_, hsc⟩
      refine mz_go 5 (c' := (53, [some (.ref 65), some (.int xa), some (.int x2), some (.int x3), some (.int x4), x5, none], [.int (w 66 0), .int x4], w)) rfl ?_
      rw [h660]
      refine mz_go 1 (c' := (if (nI N) ≤ x4 then 96 else 56, [some (.ref 65), some (.int xa), some (.int x2), some (.int x3), some (.int x4), x5, none], [], w)) rfl ?_
      refine mz_ifT q1 ?_
      exact hr
    · obtain ⟨ve1, Ee1⟩ := xr_sof (m := w) hWW hHH hWH h6660 h6661 x4
      by_cases q2 : ve1 ≤ x2
      · by_cases q3 : x3 ≤ ve1
        · obtain ⟨vr, mr, hr, hsc⟩ := ih (x4 + 1) (sm_me2 (sm_hN (by omega)) q1 hms) x2 x3 (some (.int ve1))
          refine ⟨vr, mr, ?_, hsc⟩
          refine mz_go 5 (c' := (53, [some (.ref 65), some (.int xa), some (.int x2), some (.int x3), some (.int x4), x5, none], [.int (w 66 0), .int x4], w)) rfl ?_
          rw [h660]
          refine mz_go 1 (c' := (if (nI N) ≤ x4 then 96 else 56, [some (.ref 65), some (.int xa), some (.int x2), some (.int x3), some (.int x4), x5, none], [], w)) rfl ?_
          refine mz_ifF q1 ?_
          refine mz_go 2 (c' := (59, [some (.ref 65), some (.int xa), some (.int x2), some (.int x3), some (.int x4), x5, none], [.int x4, .ref 65], w)) rfl ?_
          refine mz_doQ (R := mz_r193) (as := [.ref 65, .int x4]) (rest := []) (r1 := some (.int ve1)) (m1 := w) mz_t193 mz_v193_65 rfl rfl rfl rfl rfl (Ee1.deep (by decide)) ?_
          refine mz_go 4 (c' := (if ve1 ≤ x2 then 75 else 70, [some (.ref 65), some (.int xa), some (.int x2), some (.int x3), some (.int x4), some (.int ve1), none], [], w)) rfl ?_
          refine mz_ifT q2 ?_
          refine mz_go 5 (c' := (if x3 ≤ ve1 then 88 else 83, [some (.ref 65), some (.int xa), some (.int x2), some (.int x3), some (.int x4), some (.int ve1), none], [], w)) rfl ?_
          refine mz_ifT q3 ?_
          refine mz_go 4 (c' := (45, [some (.ref 65), some (.int xa), some (.int x2), some (.int x3), some (.int (x4 + 1)), some (.int ve1), none], [], w)) rfl ?_
          exact hr
        · obtain ⟨vr, mr, hr, hsc⟩ := ih (x4 + 1) (sm_me2 (sm_hN (by omega)) q1 hms) x2 ve1 (some (.int ve1))
          refine ⟨vr, mr, ?_, hsc⟩
          refine mz_go 5 (c' := (53, [some (.ref 65), some (.int xa), some (.int x2), some (.int x3), some (.int x4), x5, none], [.int (w 66 0), .int x4], w)) rfl ?_
          rw [h660]
          refine mz_go 1 (c' := (if (nI N) ≤ x4 then 96 else 56, [some (.ref 65), some (.int xa), some (.int x2), some (.int x3), some (.int x4), x5, none], [], w)) rfl ?_
          refine mz_ifF q1 ?_
          refine mz_go 2 (c' := (59, [some (.ref 65), some (.int xa), some (.int x2), some (.int x3), some (.int x4), x5, none], [.int x4, .ref 65], w)) rfl ?_
          refine mz_doQ (R := mz_r193) (as := [.ref 65, .int x4]) (rest := []) (r1 := some (.int ve1)) (m1 := w) mz_t193 mz_v193_65 rfl rfl rfl rfl rfl (Ee1.deep (by decide)) ?_
          refine mz_go 4 (c' := (if ve1 ≤ x2 then 75 else 70, [some (.ref 65), some (.int xa), some (.int x2), some (.int x3), some (.int x4), some (.int ve1), none], [], w)) rfl ?_
          refine mz_ifT q2 ?_
          refine mz_go 5 (c' := (if x3 ≤ ve1 then 88 else 83, [some (.ref 65), some (.int xa), some (.int x2), some (.int x3), some (.int x4), some (.int ve1), none], [], w)) rfl ?_
          refine mz_ifF q3 ?_
          refine mz_go 5 (c' := (45, [some (.ref 65), some (.int xa), some (.int x2), some (.int ve1), some (.int (x4 + 1)), some (.int ve1), none], [], w)) rfl ?_
          exact hr
      · by_cases q4 : x3 ≤ ve1
        · obtain ⟨vr, mr, hr, hsc⟩ := ih (x4 + 1) (sm_me2 (sm_hN (by omega)) q1 hms) ve1 x3 (some (.int ve1))
          refine ⟨vr, mr, ?_, hsc⟩
          refine mz_go 5 (c' := (53, [some (.ref 65), some (.int xa), some (.int x2), some (.int x3), some (.int x4), x5, none], [.int (w 66 0), .int x4], w)) rfl ?_
          rw [h660]
          refine mz_go 1 (c' := (if (nI N) ≤ x4 then 96 else 56, [some (.ref 65), some (.int xa), some (.int x2), some (.int x3), some (.int x4), x5, none], [], w)) rfl ?_
          refine mz_ifF q1 ?_
          refine mz_go 2 (c' := (59, [some (.ref 65), some (.int xa), some (.int x2), some (.int x3), some (.int x4), x5, none], [.int x4, .ref 65], w)) rfl ?_
          refine mz_doQ (R := mz_r193) (as := [.ref 65, .int x4]) (rest := []) (r1 := some (.int ve1)) (m1 := w) mz_t193 mz_v193_65 rfl rfl rfl rfl rfl (Ee1.deep (by decide)) ?_
          refine mz_go 4 (c' := (if ve1 ≤ x2 then 75 else 70, [some (.ref 65), some (.int xa), some (.int x2), some (.int x3), some (.int x4), some (.int ve1), none], [], w)) rfl ?_
          refine mz_ifF q2 ?_
          refine mz_go 6 (c' := (if x3 ≤ ve1 then 88 else 83, [some (.ref 65), some (.int xa), some (.int ve1), some (.int x3), some (.int x4), some (.int ve1), none], [], w)) rfl ?_
          refine mz_ifT q4 ?_
          refine mz_go 4 (c' := (45, [some (.ref 65), some (.int xa), some (.int ve1), some (.int x3), some (.int (x4 + 1)), some (.int ve1), none], [], w)) rfl ?_
          exact hr
        · obtain ⟨vr, mr, hr, hsc⟩ := ih (x4 + 1) (sm_me2 (sm_hN (by omega)) q1 hms) ve1 ve1 (some (.int ve1))
          refine ⟨vr, mr, ?_, hsc⟩
          refine mz_go 5 (c' := (53, [some (.ref 65), some (.int xa), some (.int x2), some (.int x3), some (.int x4), x5, none], [.int (w 66 0), .int x4], w)) rfl ?_
          rw [h660]
          refine mz_go 1 (c' := (if (nI N) ≤ x4 then 96 else 56, [some (.ref 65), some (.int xa), some (.int x2), some (.int x3), some (.int x4), x5, none], [], w)) rfl ?_
          refine mz_ifF q1 ?_
          refine mz_go 2 (c' := (59, [some (.ref 65), some (.int xa), some (.int x2), some (.int x3), some (.int x4), x5, none], [.int x4, .ref 65], w)) rfl ?_
          refine mz_doQ (R := mz_r193) (as := [.ref 65, .int x4]) (rest := []) (r1 := some (.int ve1)) (m1 := w) mz_t193 mz_v193_65 rfl rfl rfl rfl rfl (Ee1.deep (by decide)) ?_
          refine mz_go 4 (c' := (if ve1 ≤ x2 then 75 else 70, [some (.ref 65), some (.int xa), some (.int x2), some (.int x3), some (.int x4), some (.int ve1), none], [], w)) rfl ?_
          refine mz_ifF q2 ?_
          refine mz_go 6 (c' := (if x3 ≤ ve1 then 88 else 83, [some (.ref 65), some (.int xa), some (.int ve1), some (.int x3), some (.int x4), some (.int ve1), none], [], w)) rfl ?_
          refine mz_ifF q4 ?_
          refine mz_go 5 (c' := (45, [some (.ref 65), some (.int xa), some (.int ve1), some (.int ve1), some (.int (x4 + 1)), some (.int ve1), none], [], w)) rfl ?_
          exact hr
set_option maxHeartbeats 4000000 in
set_option maxRecDepth 100000 in
theorem xr_fairg {w : mz_M} {N : Nat} (hw : sm_W w N) (hN : N ≤ 6) (hr5 : w 7 5 = 1 ∨ w 7 5 = 2) (hr80 : sm_N 80 (w 7 2)) (hr2 : sm_HR w (w 66)) (h660 : w 66 0 = nI N) (h6615 : w 66 15 = w 7 5) {WW HH : Nat} (hWW : WW ≤ 6) (hHH : HH ≤ 6) (hWH : WW = 0 ↔ HH = 0) (h6660 : w 66 60 = nI WW) (h6661 : w 66 61 = nI HH) {T2 : Nat} (hT2 : w 16 2 = nI T2) (hU2 : w 66 420 = nI T2) (hV2 : T2 = 0 ∨ sm_wf T2 5 (w 17) (w 18)) (xa x2 x3 : Int32) (HX : ∀ (x4 : Int32) (x5 : Int32) (x6 : Option Value), ¬ x4 = 0 → ∃ v m', mz_Ex 100 mz_k202 (135, [some (.ref 65), some (.int xa), some (.int x2), some (.int x3), some (.int x4), some (.int x5), x6], [], w) (some (.int v), m') ∧ sm_Sc w m') : ∀ fu : Nat, ∀ (x4 : Int32) (x5 : Int32) (x6 : Option Value), x5.toInt.natAbs < fu → (hex : ¬ x5 = 0 ∨ ¬ x4 = 0) → ∃ v m', mz_Ex 100 mz_k202 (112, [some (.ref 65), some (.int xa), some (.int x2), some (.int x3), some (.int x4), some (.int x5), x6], [], w) (some (.int v), m') ∧ sm_Sc w m' := by
  have hT60c := sm_T60 hV2
  intro fu
  induction fu with
  | zero =>
    intro x4 x5 x6 hms hex
    exact absurd hms (Nat.not_lt_zero _)
  | succ fu ih =>
    intro x4 x5 x6 hms hex
    by_cases q1 : x5 = 0
    · obtain ⟨vr, mr, hr, hsc⟩ := HX x4 x5 x6 (hex.resolve_left (fun h => h q1))
      refine ⟨vr, mr, ?_, hsc⟩
      refine mz_go 2 (c' := (if x5 = 0 then 135 else 117, [some (.ref 65), some (.int xa), some (.int x2), some (.int x3), some (.int x4), some (.int x5), x6], [], w)) rfl ?_
      refine mz_ifT q1 ?_
      exact hr
    · obtain ⟨vr, mr, hr, hsc⟩ := ih x5 (x4 - x4 / x5 * x5) (some (.int (x4 - x4 / x5 * x5))) (Nat.lt_of_lt_of_le (sm_remlt q1) (Nat.le_of_lt_succ hms)) (Or.inr q1)
      refine ⟨vr, mr, ?_, hsc⟩
      refine mz_go 2 (c' := (if x5 = 0 then 135 else 117, [some (.ref 65), some (.int xa), some (.int x2), some (.int x3), some (.int x4), some (.int x5), x6], [], w)) rfl ?_
      refine mz_ifF q1 ?_
      refine mz_go 2 (c' := (121, [some (.ref 65), some (.int xa), some (.int x2), some (.int x3), some (.int x4), some (.int x5), x6], [.int x5, .int x4], w)) rfl ?_
      refine mz_div (c' := (122, [some (.ref 65), some (.int xa), some (.int x2), some (.int x3), some (.int x4), some (.int x5), x6], [.int (x4 - x4 / x5 * x5)], w)) rfl q1 ?_
      refine mz_go 6 (c' := (112, [some (.ref 65), some (.int xa), some (.int x2), some (.int x3), some (.int x5), some (.int (x4 - x4 / x5 * x5)), some (.int (x4 - x4 / x5 * x5))], [], w)) rfl ?_
      exact hr
set_option maxHeartbeats 4000000 in
set_option maxRecDepth 100000 in
theorem xr_fair {w : mz_M} {N : Nat} (hw : sm_W w N) (hN : N ≤ 6) (hr5 : w 7 5 = 1 ∨ w 7 5 = 2) (hr80 : sm_N 80 (w 7 2)) (hr2 : sm_HR w (w 66)) (h660 : w 66 0 = nI N) (h6615 : w 66 15 = w 7 5) {WW HH : Nat} (hWW : WW ≤ 6) (hHH : HH ≤ 6) (hWH : WW = 0 ↔ HH = 0) (h6660 : w 66 60 = nI WW) (h6661 : w 66 61 = nI HH) {T2 : Nat} (hT2 : w 16 2 = nI T2) (hU2 : w 66 420 = nI T2) (hV2 : T2 = 0 ∨ sm_wf T2 5 (w 17) (w 18)) (xa : Int32) : ∃ v m', mz_Me 100 mz_r202 [.ref 65, .int xa] w (some (.int v)) m' ∧ sm_Sc w m' := by
  have hT60c := sm_T60 hV2
  by_cases q1 : (sm_bI (sm_in xa 0 1)) = 0
  · refine ⟨(-1000001), mz_up w 68 1 ((w 68 1) + 1), ⟨?_, rfl⟩, ⟨fun i hi => (by simp only [mz_up_ne (sm_scne hi (r := 68) rfl)]), rfl, rfl⟩⟩
    refine mz_go 3 (c' := (3, [some (.ref 65), some (.int xa), none, none, none, none, none], [.int 1, .int 0, .int xa], w)) rfl ?_
    refine mz_doQ (R := mz_r128) (as := [.int xa, .int 0, .int 1]) (rest := []) (r1 := some (.int (sm_bI (sm_in xa 0 1)))) (m1 := w) mz_t128 mz_v128 rfl rfl rfl rfl rfl ((ct_in (m := w) xa 0 1).deep (by decide)) ?_
    refine mz_go 1 (c' := (if (sm_bI (sm_in xa 0 1)) = 0 then 9 else 15, [some (.ref 65), some (.int xa), none, none, none, none, none], [], w)) rfl ?_
    refine mz_ifT q1 ?_
    refine mz_go 2 (c' := (11, [some (.ref 65), some (.int xa), none, none, none, none, none], [.int 1, .ref 65], w)) rfl ?_
    refine mz_doQ (R := mz_r127) (as := [.ref 65, .int 1]) (rest := []) (r1 := some (.int (-1000001))) (m1 := mz_up w 68 1 ((w 68 1) + 1)) mz_t127 mz_v127_65 rfl rfl rfl rfl rfl ((ct_err1 (m := w)).deep (by decide)) ?_
    exact mz_ret rfl
  · by_cases q2 : WW ≤ 0
    · refine ⟨(-1000002), mz_up w 68 2 ((w 68 2) + 1), ⟨?_, rfl⟩, ⟨fun i hi => (by simp only [mz_up_ne (sm_scne hi (r := 68) rfl)]), rfl, rfl⟩⟩
      refine mz_go 3 (c' := (3, [some (.ref 65), some (.int xa), none, none, none, none, none], [.int 1, .int 0, .int xa], w)) rfl ?_
      refine mz_doQ (R := mz_r128) (as := [.int xa, .int 0, .int 1]) (rest := []) (r1 := some (.int 1)) (m1 := w) mz_t128 mz_v128 rfl rfl rfl rfl rfl ((ct_in1 (m := w) (v := xa) (a := 0) (b := 1) (show ¬ (xa < 0) from (sm_in_lo q1)) (show ¬ (1 < xa) from (sm_in_hi q1))).deep (by decide)) ?_
      refine mz_go 2 (c' := (16, [some (.ref 65), some (.int xa), none, none, none, none, none], [.ref 65], w)) rfl ?_
      refine mz_doQ (R := mz_r185) (as := [.ref 65]) (rest := []) (r1 := some (.int 0)) (m1 := w) mz_t185 mz_v185_65 rfl rfl rfl rfl rfl ⟨?_, rfl⟩ ?_
      · refine mz_go 1 (c' := (1, [some (.ref 65)], [.ref 65], w)) rfl ?_
        refine mz_doQ (R := mz_r183) (as := [.ref 65]) (rest := []) (r1 := some (.int (nI WW))) (m1 := w) mz_t183 mz_v183_65 rfl rfl rfl rfl rfl ⟨?_, rfl⟩ ?_
        · refine mz_go 4 (c' := (7, [some (.ref 65)], [.int (w 66 60)], w)) rfl ?_
          rw [h6660]
          exact mz_ret rfl
        refine mz_go 1 (c' := (if (nI WW) ≤ 0 then 11 else 7, [some (.ref 65)], [], w)) rfl ?_
        refine mz_ifT (show ((nI WW) ≤ 0) from (sm_leN rfl rfl (show WW ≤ 0 by omega) (show 0 < 2 ^ 31 by omega))) ?_
        refine mz_go 1 (c' := (12, [some (.ref 65)], [.int 0], w)) rfl ?_
        exact mz_ret rfl
      refine mz_go 3 (c' := (33, [some (.ref 65), some (.int xa), none, none, none, none, none], [.int 2, .ref 65], w)) rfl ?_
      refine mz_doQ (R := mz_r127) (as := [.ref 65, .int 2]) (rest := []) (r1 := some (.int (-1000002))) (m1 := mz_up w 68 2 ((w 68 2) + 1)) mz_t127 mz_v127_65 rfl rfl rfl rfl rfl ((ct_err2 (m := w)).deep (by decide)) ?_
      exact mz_ret rfl
    · by_cases q3 : N = 0
      · refine ⟨(-1000002), mz_up w 68 2 ((w 68 2) + 1), ⟨?_, rfl⟩, ⟨fun i hi => (by simp only [mz_up_ne (sm_scne hi (r := 68) rfl)]), rfl, rfl⟩⟩
        refine mz_go 3 (c' := (3, [some (.ref 65), some (.int xa), none, none, none, none, none], [.int 1, .int 0, .int xa], w)) rfl ?_
        refine mz_doQ (R := mz_r128) (as := [.int xa, .int 0, .int 1]) (rest := []) (r1 := some (.int 1)) (m1 := w) mz_t128 mz_v128 rfl rfl rfl rfl rfl ((ct_in1 (m := w) (v := xa) (a := 0) (b := 1) (show ¬ (xa < 0) from (sm_in_lo q1)) (show ¬ (1 < xa) from (sm_in_hi q1))).deep (by decide)) ?_
        refine mz_go 2 (c' := (16, [some (.ref 65), some (.int xa), none, none, none, none, none], [.ref 65], w)) rfl ?_
        refine mz_doQ (R := mz_r185) (as := [.ref 65]) (rest := []) (r1 := some (.int 1)) (m1 := w) mz_t185 mz_v185_65 rfl rfl rfl rfl rfl ⟨?_, rfl⟩ ?_
        · refine mz_go 1 (c' := (1, [some (.ref 65)], [.ref 65], w)) rfl ?_
          refine mz_doQ (R := mz_r183) (as := [.ref 65]) (rest := []) (r1 := some (.int (nI WW))) (m1 := w) mz_t183 mz_v183_65 rfl rfl rfl rfl rfl ⟨?_, rfl⟩ ?_
          · refine mz_go 4 (c' := (7, [some (.ref 65)], [.int (w 66 60)], w)) rfl ?_
            rw [h6660]
            exact mz_ret rfl
          refine mz_go 1 (c' := (if (nI WW) ≤ 0 then 11 else 7, [some (.ref 65)], [], w)) rfl ?_
          refine mz_ifF (show ¬ ((nI WW) ≤ 0) from (sm_nleN rfl rfl (show 0 < WW by omega) (show WW < 2 ^ 31 by omega))) ?_
          refine mz_go 2 (c' := (12, [some (.ref 65)], [.int 1], w)) rfl ?_
          exact mz_ret rfl
        refine mz_go 5 (c' := (28, [some (.ref 65), some (.int xa), none, none, none, none, none], [.int (w 66 0)], w)) rfl ?_
        rw [h660]
        refine mz_go 1 (c' := (if (nI N) = 0 then 31 else 37, [some (.ref 65), some (.int xa), none, none, none, none, none], [], w)) rfl ?_
        refine mz_ifT (show ((nI N) = 0) from (sm_eqN rfl rfl (show N = 0 by omega))) ?_
        refine mz_go 2 (c' := (33, [some (.ref 65), some (.int xa), none, none, none, none, none], [.int 2, .ref 65], w)) rfl ?_
        refine mz_doQ (R := mz_r127) (as := [.ref 65, .int 2]) (rest := []) (r1 := some (.int (-1000002))) (m1 := mz_up w 68 2 ((w 68 2) + 1)) mz_t127 mz_v127_65 rfl rfl rfl rfl rfl ((ct_err2 (m := w)).deep (by decide)) ?_
        exact mz_ret rfl
      · have HX2 : ∀ (x4_1 : Int32) (x2_1 : Int32) (x3_1 : Int32) (x5_1 : Option Value), ∃ v m', mz_Ex 100 mz_k202 (96, [some (.ref 65), some (.int xa), some (.int x2_1), some (.int x3_1), some (.int x4_1), x5_1, none], [], w) (some (.int v), m') ∧ sm_Sc w m' := by
          intro x4_1 x2_1 x3_1 x5_1
          have HX2 : ∀ (x4_2 : Int32) (x5_2 : Int32) (x6_2 : Option Value) (hox_2 : ¬ x4_2 = 0), ∃ v m', mz_Ex 100 mz_k202 (135, [some (.ref 65), some (.int xa), some (.int x2_1), some (.int x3_1), some (.int x4_2), some (.int x5_2), x6_2], [], w) (some (.int v), m') ∧ sm_Sc w m' := by
            intro x4_2 x5_2 x6_2 hox_2
            by_cases q4 : xa = 0
            · refine ⟨(x2_1 - x3_1) / x4_2, w, ?_, ⟨fun _ _ => rfl, rfl, rfl⟩⟩
              refine mz_go 2 (c' := (if xa = 0 then 139 else 145, [some (.ref 65), some (.int xa), some (.int x2_1), some (.int x3_1), some (.int x4_2), some (.int x5_2), x6_2], [], w)) rfl ?_
              refine mz_ifT q4 ?_
              refine mz_go 5 (c' := (156, [some (.ref 65), some (.int xa), some (.int x2_1), some (.int x3_1), some (.int x4_2), some (.int x5_2), x6_2], [.int x4_2, .int (x2_1 - x3_1)], w)) rfl ?_
              refine mz_div (c' := (157, [some (.ref 65), some (.int xa), some (.int x2_1), some (.int x3_1), some (.int x4_2), some (.int x5_2), x6_2], [.int ((x2_1 - x3_1) / x4_2)], w)) rfl hox_2 ?_
              exact mz_ret rfl
            · refine ⟨((nI WW) * (nI HH)) / x4_2, w, ?_, ⟨fun _ _ => rfl, rfl, rfl⟩⟩
              refine mz_go 2 (c' := (if xa = 0 then 139 else 145, [some (.ref 65), some (.int xa), some (.int x2_1), some (.int x3_1), some (.int x4_2), some (.int x5_2), x6_2], [], w)) rfl ?_
              refine mz_ifF q4 ?_
              refine mz_go 1 (c' := (146, [some (.ref 65), some (.int xa), some (.int x2_1), some (.int x3_1), some (.int x4_2), some (.int x5_2), x6_2], [.ref 65], w)) rfl ?_
              refine mz_doQ (R := mz_r183) (as := [.ref 65]) (rest := []) (r1 := some (.int (nI WW))) (m1 := w) mz_t183 mz_v183_65 rfl rfl rfl rfl rfl ⟨?_, rfl⟩ ?_
              · refine mz_go 4 (c' := (7, [some (.ref 65)], [.int (w 66 60)], w)) rfl ?_
                rw [h6660]
                exact mz_ret rfl
              refine mz_go 1 (c' := (150, [some (.ref 65), some (.int xa), some (.int x2_1), some (.int x3_1), some (.int x4_2), some (.int x5_2), x6_2], [.ref 65, .int (nI WW)], w)) rfl ?_
              refine mz_doQ (R := mz_r184) (as := [.ref 65]) (rest := [.int (nI WW)]) (r1 := some (.int (nI HH))) (m1 := w) mz_t184 mz_v184_65 rfl rfl rfl rfl rfl ⟨?_, rfl⟩ ?_
              · refine mz_go 4 (c' := (7, [some (.ref 65)], [.int (w 66 61)], w)) rfl ?_
                rw [h6661]
                exact mz_ret rfl
              refine mz_go 2 (c' := (156, [some (.ref 65), some (.int xa), some (.int x2_1), some (.int x3_1), some (.int x4_2), some (.int x5_2), x6_2], [.int x4_2, .int ((nI WW) * (nI HH))], w)) rfl ?_
              refine mz_div (c' := (157, [some (.ref 65), some (.int xa), some (.int x2_1), some (.int x3_1), some (.int x4_2), some (.int x5_2), x6_2], [.int (((nI WW) * (nI HH)) / x4_2)], w)) rfl hox_2 ?_
              exact mz_ret rfl
          obtain ⟨vr, mr, hr, hsc⟩ := xr_fairg hw hN hr5 hr80 hr2 h660 h6615 hWW hHH hWH h6660 h6661 hT2 hU2 hV2 xa x2_1 x3_1 HX2 _ (x2_1 - x3_1) ((nI WW) * (nI HH)) none (Nat.lt_succ_self _) (Or.inl (sm_neN (a := WW * HH) (b := 0) (sm_mulN rfl rfl) rfl (by have := Nat.mul_pos (show 0 < WW by omega) (show 0 < HH by omega); omega) (by have := Nat.mul_le_mul hWW hHH; omega) (by decide)))
          refine ⟨vr, mr, ?_, hsc⟩
          refine mz_go 5 (c' := (102, [some (.ref 65), some (.int xa), some (.int x2_1), some (.int x3_1), some (.int (x2_1 - x3_1)), x5_1, none], [.ref 65], w)) rfl ?_
          refine mz_doQ (R := mz_r183) (as := [.ref 65]) (rest := []) (r1 := some (.int (nI WW))) (m1 := w) mz_t183 mz_v183_65 rfl rfl rfl rfl rfl ⟨?_, rfl⟩ ?_
          · refine mz_go 4 (c' := (7, [some (.ref 65)], [.int (w 66 60)], w)) rfl ?_
            rw [h6660]
            exact mz_ret rfl
          refine mz_go 1 (c' := (106, [some (.ref 65), some (.int xa), some (.int x2_1), some (.int x3_1), some (.int (x2_1 - x3_1)), x5_1, none], [.ref 65, .int (nI WW)], w)) rfl ?_
          refine mz_doQ (R := mz_r184) (as := [.ref 65]) (rest := [.int (nI WW)]) (r1 := some (.int (nI HH))) (m1 := w) mz_t184 mz_v184_65 rfl rfl rfl rfl rfl ⟨?_, rfl⟩ ?_
          · refine mz_go 4 (c' := (7, [some (.ref 65)], [.int (w 66 61)], w)) rfl ?_
            rw [h6661]
            exact mz_ret rfl
          refine mz_go 2 (c' := (112, [some (.ref 65), some (.int xa), some (.int x2_1), some (.int x3_1), some (.int (x2_1 - x3_1)), some (.int ((nI WW) * (nI HH))), none], [], w)) rfl ?_
          exact hr
        obtain ⟨vr, mr, hr, hsc⟩ := xr_fairm hw hN hr5 hr80 hr2 h660 h6615 hWW hHH hWH h6660 h6661 hT2 hU2 hV2 xa HX2 ((nI N : Int32).toInt - (0 : Int32).toInt + 1).toNat 0 (by omega) 0 99 none
        refine ⟨vr, mr, ⟨?_, rfl⟩, hsc⟩
        refine mz_go 3 (c' := (3, [some (.ref 65), some (.int xa), none, none, none, none, none], [.int 1, .int 0, .int xa], w)) rfl ?_
        refine mz_doQ (R := mz_r128) (as := [.int xa, .int 0, .int 1]) (rest := []) (r1 := some (.int 1)) (m1 := w) mz_t128 mz_v128 rfl rfl rfl rfl rfl ((ct_in1 (m := w) (v := xa) (a := 0) (b := 1) (show ¬ (xa < 0) from (sm_in_lo q1)) (show ¬ (1 < xa) from (sm_in_hi q1))).deep (by decide)) ?_
        refine mz_go 2 (c' := (16, [some (.ref 65), some (.int xa), none, none, none, none, none], [.ref 65], w)) rfl ?_
        refine mz_doQ (R := mz_r185) (as := [.ref 65]) (rest := []) (r1 := some (.int 1)) (m1 := w) mz_t185 mz_v185_65 rfl rfl rfl rfl rfl ⟨?_, rfl⟩ ?_
        · refine mz_go 1 (c' := (1, [some (.ref 65)], [.ref 65], w)) rfl ?_
          refine mz_doQ (R := mz_r183) (as := [.ref 65]) (rest := []) (r1 := some (.int (nI WW))) (m1 := w) mz_t183 mz_v183_65 rfl rfl rfl rfl rfl ⟨?_, rfl⟩ ?_
          · refine mz_go 4 (c' := (7, [some (.ref 65)], [.int (w 66 60)], w)) rfl ?_
            rw [h6660]
            exact mz_ret rfl
          refine mz_go 1 (c' := (if (nI WW) ≤ 0 then 11 else 7, [some (.ref 65)], [], w)) rfl ?_
          refine mz_ifF (show ¬ ((nI WW) ≤ 0) from (sm_nleN rfl rfl (show 0 < WW by omega) (show WW < 2 ^ 31 by omega))) ?_
          refine mz_go 2 (c' := (12, [some (.ref 65)], [.int 1], w)) rfl ?_
          exact mz_ret rfl
        refine mz_go 5 (c' := (28, [some (.ref 65), some (.int xa), none, none, none, none, none], [.int (w 66 0)], w)) rfl ?_
        rw [h660]
        refine mz_go 1 (c' := (if (nI N) = 0 then 31 else 37, [some (.ref 65), some (.int xa), none, none, none, none, none], [], w)) rfl ?_
        refine mz_ifF (show ¬ ((nI N) = 0) from (sm_neN rfl rfl (show N ≠ 0 by omega) (show N < 2 ^ 31 by omega) (show 0 < 2 ^ 31 by omega))) ?_
        refine mz_go 6 (c' := (45, [some (.ref 65), some (.int xa), some (.int 0), some (.int 99), some (.int 0), none, none], [], w)) rfl ?_
        exact hr
theorem xs_ev2 {w m : mz_M} (hr2 : sm_HR w (m 66)) {T2 : Nat} (hT2 : w 16 2 = nI T2) (hV2 : sm_wf T2 5 (w 17) (w 18)) : ∃ v g, mz_Me 10 mz_r173 [.ref 65, .int 2] m (some (.int v)) (mz_set m 71 g) := by
  obtain ⟨g, E⟩ := ct_ev2 (w := w) (m := m) hT2 hV2 (by decide) hr2.2.2.2.2.2 sm_chs2 (fun j => m 70 (sm_ch2 j).toNatClampNeg) (fun _ _ => rfl)
  exact ⟨_, g, E⟩
set_option maxHeartbeats 4000000 in
set_option maxRecDepth 100000 in
theorem xr_wof {w : mz_M} {N : Nat} (hw : sm_W w N) (hN : N ≤ 6) (hr5 : w 7 5 = 1 ∨ w 7 5 = 2) (hr80 : sm_N 80 (w 7 2)) (hr2 : sm_HR w (w 66)) (h660 : w 66 0 = nI N) (h6615 : w 66 15 = w 7 5) {WW HH : Nat} (hWW : WW ≤ 6) (hHH : HH ≤ 6) (hWH : WW = 0 ↔ HH = 0) (h6660 : w 66 60 = nI WW) (h6661 : w 66 61 = nI HH) {T2 : Nat} (hT2 : w 16 2 = nI T2) (hU2 : w 66 420 = nI T2) (hV2 : T2 = 0 ∨ sm_wf T2 5 (w 17) (w 18)) {I J : Nat} (hI6 : I < 6) (hJ6 : J < 6) {i j : Int32} (ei : i = nI I) (ej : j = nI J) : ∃ v s70 s71, mz_Me 60 mz_r203 [.ref 65, .int i, .int j] w (some (.int v)) (mz_set (mz_set w 70 s70) 71 s71) := by
  have hT60c := sm_T60 hV2
  subst ei
  subst ej
  by_cases q1 : T2 ≤ 0
  · refine ⟨0, ((w) 70), ((w) 71), ⟨?_, rfl⟩⟩
    have hm : w = mz_set (mz_set w 70 ((w) 70)) 71 ((w) 71) := sm_of2 (fun i h1 h2 => rfl)
    rw [← hm]
    refine mz_go 2 (c' := (2, [some (.ref 65), some (.int (nI I)), some (.int (nI J))], [.int 2, .ref 65], w)) rfl ?_
    refine mz_doQ (R := mz_r169) (as := [.ref 65, .int 2]) (rest := []) (r1 := some (.int 0)) (m1 := w) mz_t169 mz_v169_65 rfl rfl rfl rfl rfl ⟨?_, rfl⟩ ?_
    · refine mz_go 8 (c' := (13, [some (.ref 65), some (.int 2)], [.int (w 66 420)], w)) rfl ?_
      rw [hU2]
      refine mz_go 1 (c' := (if (nI T2) ≤ 0 then 20 else 16, [some (.ref 65), some (.int 2)], [], w)) rfl ?_
      refine mz_ifT (show ((nI T2) ≤ 0) from (sm_leN rfl rfl (show T2 ≤ 0 by omega) (show 0 < 2 ^ 31 by omega))) ?_
      refine mz_go 1 (c' := (21, [some (.ref 65), some (.int 2)], [.int 0], w)) rfl ?_
      exact mz_ret rfl
    refine mz_go 2 (c' := (9, [some (.ref 65), some (.int (nI I)), some (.int (nI J))], [.int 0], w)) rfl ?_
    exact mz_ret rfl
  · obtain ⟨ve1, Ee1⟩ := xr_col (m := w) (A := I) (B := J) (by omega) (by omega) (a := nI I) (b := nI J) rfl rfl
    obtain ⟨ve2, Ee2⟩ := xr_edg (m := mz_up (mz_up (mz_up (mz_up w 70 99 ve1) 70 108 (w 66 ((110 + (6 * J)) + I))) 70 120 ((w 66 62) + ((nI I) * (w 66 64)))) 70 121 ((w 66 63) + ((nI J) * (w 66 64)))) hWW hHH hWH h6660 h6661 (by omega) (by omega) (I := I) (i := nI I) rfl (J := J) (j := nI J) rfl
    by_cases q2 : ve2 = 0
    · obtain ⟨ve3, ge3, Ee3⟩ := xs_ev2 (w := w) (m := mz_up (mz_up (mz_up (mz_up (mz_up w 70 99 ve1) 70 108 (w 66 ((110 + (6 * J)) + I))) 70 120 ((w 66 62) + ((nI I) * (w 66 64)))) 70 121 ((w 66 63) + ((nI J) * (w 66 64)))) 70 101 0) hr2 hT2 (hV2.resolve_left (by omega))
      refine ⟨ve3, ((mz_set (mz_up (mz_up (mz_up (mz_up (mz_up w 70 99 ve1) 70 108 (w 66 ((110 + (6 * J)) + I))) 70 120 ((w 66 62) + ((nI I) * (w 66 64)))) 70 121 ((w 66 63) + ((nI J) * (w 66 64)))) 70 101 0) 71 ge3) 70), ((mz_set (mz_up (mz_up (mz_up (mz_up (mz_up w 70 99 ve1) 70 108 (w 66 ((110 + (6 * J)) + I))) 70 120 ((w 66 62) + ((nI I) * (w 66 64)))) 70 121 ((w 66 63) + ((nI J) * (w 66 64)))) 70 101 0) 71 ge3) 71), ⟨?_, rfl⟩⟩
      have hm : mz_set (mz_up (mz_up (mz_up (mz_up (mz_up w 70 99 ve1) 70 108 (w 66 ((110 + (6 * J)) + I))) 70 120 ((w 66 62) + ((nI I) * (w 66 64)))) 70 121 ((w 66 63) + ((nI J) * (w 66 64)))) 70 101 0) 71 ge3 = mz_set (mz_set w 70 ((mz_set (mz_up (mz_up (mz_up (mz_up (mz_up w 70 99 ve1) 70 108 (w 66 ((110 + (6 * J)) + I))) 70 120 ((w 66 62) + ((nI I) * (w 66 64)))) 70 121 ((w 66 63) + ((nI J) * (w 66 64)))) 70 101 0) 71 ge3) 70)) 71 ((mz_set (mz_up (mz_up (mz_up (mz_up (mz_up w 70 99 ve1) 70 108 (w 66 ((110 + (6 * J)) + I))) 70 120 ((w 66 62) + ((nI I) * (w 66 64)))) 70 121 ((w 66 63) + ((nI J) * (w 66 64)))) 70 101 0) 71 ge3) 71) := sm_of2 (fun i h1 h2 => by simp only [mz_set_ne h2, mz_up_ne h1])
      rw [← hm]
      refine mz_go 2 (c' := (2, [some (.ref 65), some (.int (nI I)), some (.int (nI J))], [.int 2, .ref 65], w)) rfl ?_
      refine mz_doQ (R := mz_r169) (as := [.ref 65, .int 2]) (rest := []) (r1 := some (.int 1)) (m1 := w) mz_t169 mz_v169_65 rfl rfl rfl rfl rfl ⟨?_, rfl⟩ ?_
      · refine mz_go 8 (c' := (13, [some (.ref 65), some (.int 2)], [.int (w 66 420)], w)) rfl ?_
        rw [hU2]
        refine mz_go 1 (c' := (if (nI T2) ≤ 0 then 20 else 16, [some (.ref 65), some (.int 2)], [], w)) rfl ?_
        refine mz_ifF (show ¬ ((nI T2) ≤ 0) from (sm_nleN rfl rfl (show 0 < T2 by omega) (show T2 < 2 ^ 31 by omega))) ?_
        refine mz_go 2 (c' := (21, [some (.ref 65), some (.int 2)], [.int 1], w)) rfl ?_
        exact mz_ret rfl
      refine mz_go 7 (c' := (19, [some (.ref 65), some (.int (nI I)), some (.int (nI J))], [.int (nI J), .int (nI I), .ref 65, .int 99, .ref 70], w)) rfl ?_
      refine mz_doQ (R := mz_r186) (as := [.ref 65, .int (nI I), .int (nI J)]) (rest := [.int 99, .ref 70]) (r1 := some (.int ve1)) (m1 := w) mz_t186 mz_v186_65 rfl rfl rfl rfl rfl (Ee1.deep (by decide)) ?_
      refine mz_go 13 (c' := (42, [some (.ref 65), some (.int (nI I)), some (.int (nI J))], [.int ((110 + (6 * (nI J))) + (nI I)), .ref 66, .int 108, .ref 70], mz_up w 70 99 ve1)) rfl ?_
      refine mz_arr (c' := (43, [some (.ref 65), some (.int (nI I)), some (.int (nI J))], [.int (w 66 (((110 + (6 * (nI J))) + (nI I)).toNatClampNeg)), .int 108, .ref 70], mz_up w 70 99 ve1)) rfl (show mz_in ((110 + (6 * (nI J))) + (nI I)) 650 = true from sm_inN (sm_addN (sm_addN rfl (sm_mulN rfl rfl)) rfl) (show ((110 + (6 * J)) + I) < 650 by omega) (by decide)) ?_
      rw [show ((110 + (6 * (nI J))) + (nI I) : Int32).toNatClampNeg = ((110 + (6 * J)) + I) from sm_clN (sm_addN (sm_addN rfl (sm_mulN rfl rfl)) rfl) (show ((110 + (6 * J)) + I) < 2 ^ 31 by omega)]
      refine mz_go 24 (c' := (82, [some (.ref 65), some (.int (nI I)), some (.int (nI J))], [.int (nI J), .int (w 66 63), .int 121, .ref 70], mz_up (mz_up (mz_up w 70 99 ve1) 70 108 (w 66 ((110 + (6 * J)) + I))) 70 120 ((w 66 62) + ((nI I) * (w 66 64))))) rfl ?_
      refine mz_go 13 (c' := (101, [some (.ref 65), some (.int (nI I)), some (.int (nI J))], [.int (nI J), .int (nI I), .ref 65, .int 101, .ref 70], mz_up (mz_up (mz_up (mz_up w 70 99 ve1) 70 108 (w 66 ((110 + (6 * J)) + I))) 70 120 ((w 66 62) + ((nI I) * (w 66 64)))) 70 121 ((w 66 63) + ((nI J) * (w 66 64))))) rfl ?_
      refine mz_doQ (R := mz_r196) (as := [.ref 65, .int (nI I), .int (nI J)]) (rest := [.int 101, .ref 70]) (r1 := some (.int ve2)) (m1 := mz_up (mz_up (mz_up (mz_up w 70 99 ve1) 70 108 (w 66 ((110 + (6 * J)) + I))) 70 120 ((w 66 62) + ((nI I) * (w 66 64)))) 70 121 ((w 66 63) + ((nI J) * (w 66 64)))) mz_t196 mz_v196_65 rfl rfl rfl rfl rfl (Ee2.deep (by decide)) ?_
      refine mz_go 1 (c' := (if ve2 = 0 then 111 else 107, [some (.ref 65), some (.int (nI I)), some (.int (nI J))], [.int 101, .ref 70], mz_up (mz_up (mz_up (mz_up w 70 99 ve1) 70 108 (w 66 ((110 + (6 * J)) + I))) 70 120 ((w 66 62) + ((nI I) * (w 66 64)))) 70 121 ((w 66 63) + ((nI J) * (w 66 64))))) rfl ?_
      refine mz_ifT q2 ?_
      refine mz_go 4 (c' := (115, [some (.ref 65), some (.int (nI I)), some (.int (nI J))], [.int 2, .ref 65], mz_up (mz_up (mz_up (mz_up (mz_up w 70 99 ve1) 70 108 (w 66 ((110 + (6 * J)) + I))) 70 120 ((w 66 62) + ((nI I) * (w 66 64)))) 70 121 ((w 66 63) + ((nI J) * (w 66 64)))) 70 101 0)) rfl ?_
      refine mz_doQ (R := mz_r173) (as := [.ref 65, .int 2]) (rest := []) (r1 := some (.int ve3)) (m1 := mz_set (mz_up (mz_up (mz_up (mz_up (mz_up w 70 99 ve1) 70 108 (w 66 ((110 + (6 * J)) + I))) 70 120 ((w 66 62) + ((nI I) * (w 66 64)))) 70 121 ((w 66 63) + ((nI J) * (w 66 64)))) 70 101 0) 71 ge3) mz_t173 mz_v173_65 rfl rfl rfl rfl rfl (Ee3.deep (by decide)) ?_
      exact mz_ret rfl
    · obtain ⟨ve3, ge3, Ee3⟩ := xs_ev2 (w := w) (m := mz_up (mz_up (mz_up (mz_up (mz_up w 70 99 ve1) 70 108 (w 66 ((110 + (6 * J)) + I))) 70 120 ((w 66 62) + ((nI I) * (w 66 64)))) 70 121 ((w 66 63) + ((nI J) * (w 66 64)))) 70 101 1) hr2 hT2 (hV2.resolve_left (by omega))
      refine ⟨ve3, ((mz_set (mz_up (mz_up (mz_up (mz_up (mz_up w 70 99 ve1) 70 108 (w 66 ((110 + (6 * J)) + I))) 70 120 ((w 66 62) + ((nI I) * (w 66 64)))) 70 121 ((w 66 63) + ((nI J) * (w 66 64)))) 70 101 1) 71 ge3) 70), ((mz_set (mz_up (mz_up (mz_up (mz_up (mz_up w 70 99 ve1) 70 108 (w 66 ((110 + (6 * J)) + I))) 70 120 ((w 66 62) + ((nI I) * (w 66 64)))) 70 121 ((w 66 63) + ((nI J) * (w 66 64)))) 70 101 1) 71 ge3) 71), ⟨?_, rfl⟩⟩
      have hm : mz_set (mz_up (mz_up (mz_up (mz_up (mz_up w 70 99 ve1) 70 108 (w 66 ((110 + (6 * J)) + I))) 70 120 ((w 66 62) + ((nI I) * (w 66 64)))) 70 121 ((w 66 63) + ((nI J) * (w 66 64)))) 70 101 1) 71 ge3 = mz_set (mz_set w 70 ((mz_set (mz_up (mz_up (mz_up (mz_up (mz_up w 70 99 ve1) 70 108 (w 66 ((110 + (6 * J)) + I))) 70 120 ((w 66 62) + ((nI I) * (w 66 64)))) 70 121 ((w 66 63) + ((nI J) * (w 66 64)))) 70 101 1) 71 ge3) 70)) 71 ((mz_set (mz_up (mz_up (mz_up (mz_up (mz_up w 70 99 ve1) 70 108 (w 66 ((110 + (6 * J)) + I))) 70 120 ((w 66 62) + ((nI I) * (w 66 64)))) 70 121 ((w 66 63) + ((nI J) * (w 66 64)))) 70 101 1) 71 ge3) 71) := sm_of2 (fun i h1 h2 => by simp only [mz_set_ne h2, mz_up_ne h1])
      rw [← hm]
      refine mz_go 2 (c' := (2, [some (.ref 65), some (.int (nI I)), some (.int (nI J))], [.int 2, .ref 65], w)) rfl ?_
      refine mz_doQ (R := mz_r169) (as := [.ref 65, .int 2]) (rest := []) (r1 := some (.int 1)) (m1 := w) mz_t169 mz_v169_65 rfl rfl rfl rfl rfl ⟨?_, rfl⟩ ?_
      · refine mz_go 8 (c' := (13, [some (.ref 65), some (.int 2)], [.int (w 66 420)], w)) rfl ?_
        rw [hU2]
        refine mz_go 1 (c' := (if (nI T2) ≤ 0 then 20 else 16, [some (.ref 65), some (.int 2)], [], w)) rfl ?_
        refine mz_ifF (show ¬ ((nI T2) ≤ 0) from (sm_nleN rfl rfl (show 0 < T2 by omega) (show T2 < 2 ^ 31 by omega))) ?_
        refine mz_go 2 (c' := (21, [some (.ref 65), some (.int 2)], [.int 1], w)) rfl ?_
        exact mz_ret rfl
      refine mz_go 7 (c' := (19, [some (.ref 65), some (.int (nI I)), some (.int (nI J))], [.int (nI J), .int (nI I), .ref 65, .int 99, .ref 70], w)) rfl ?_
      refine mz_doQ (R := mz_r186) (as := [.ref 65, .int (nI I), .int (nI J)]) (rest := [.int 99, .ref 70]) (r1 := some (.int ve1)) (m1 := w) mz_t186 mz_v186_65 rfl rfl rfl rfl rfl (Ee1.deep (by decide)) ?_
      refine mz_go 13 (c' := (42, [some (.ref 65), some (.int (nI I)), some (.int (nI J))], [.int ((110 + (6 * (nI J))) + (nI I)), .ref 66, .int 108, .ref 70], mz_up w 70 99 ve1)) rfl ?_
      refine mz_arr (c' := (43, [some (.ref 65), some (.int (nI I)), some (.int (nI J))], [.int (w 66 (((110 + (6 * (nI J))) + (nI I)).toNatClampNeg)), .int 108, .ref 70], mz_up w 70 99 ve1)) rfl (show mz_in ((110 + (6 * (nI J))) + (nI I)) 650 = true from sm_inN (sm_addN (sm_addN rfl (sm_mulN rfl rfl)) rfl) (show ((110 + (6 * J)) + I) < 650 by omega) (by decide)) ?_
      rw [show ((110 + (6 * (nI J))) + (nI I) : Int32).toNatClampNeg = ((110 + (6 * J)) + I) from sm_clN (sm_addN (sm_addN rfl (sm_mulN rfl rfl)) rfl) (show ((110 + (6 * J)) + I) < 2 ^ 31 by omega)]
      refine mz_go 24 (c' := (82, [some (.ref 65), some (.int (nI I)), some (.int (nI J))], [.int (nI J), .int (w 66 63), .int 121, .ref 70], mz_up (mz_up (mz_up w 70 99 ve1) 70 108 (w 66 ((110 + (6 * J)) + I))) 70 120 ((w 66 62) + ((nI I) * (w 66 64))))) rfl ?_
      refine mz_go 13 (c' := (101, [some (.ref 65), some (.int (nI I)), some (.int (nI J))], [.int (nI J), .int (nI I), .ref 65, .int 101, .ref 70], mz_up (mz_up (mz_up (mz_up w 70 99 ve1) 70 108 (w 66 ((110 + (6 * J)) + I))) 70 120 ((w 66 62) + ((nI I) * (w 66 64)))) 70 121 ((w 66 63) + ((nI J) * (w 66 64))))) rfl ?_
      refine mz_doQ (R := mz_r196) (as := [.ref 65, .int (nI I), .int (nI J)]) (rest := [.int 101, .ref 70]) (r1 := some (.int ve2)) (m1 := mz_up (mz_up (mz_up (mz_up w 70 99 ve1) 70 108 (w 66 ((110 + (6 * J)) + I))) 70 120 ((w 66 62) + ((nI I) * (w 66 64)))) 70 121 ((w 66 63) + ((nI J) * (w 66 64)))) mz_t196 mz_v196_65 rfl rfl rfl rfl rfl (Ee2.deep (by decide)) ?_
      refine mz_go 1 (c' := (if ve2 = 0 then 111 else 107, [some (.ref 65), some (.int (nI I)), some (.int (nI J))], [.int 101, .ref 70], mz_up (mz_up (mz_up (mz_up w 70 99 ve1) 70 108 (w 66 ((110 + (6 * J)) + I))) 70 120 ((w 66 62) + ((nI I) * (w 66 64)))) 70 121 ((w 66 63) + ((nI J) * (w 66 64))))) rfl ?_
      refine mz_ifF q2 ?_
      refine mz_go 5 (c' := (115, [some (.ref 65), some (.int (nI I)), some (.int (nI J))], [.int 2, .ref 65], mz_up (mz_up (mz_up (mz_up (mz_up w 70 99 ve1) 70 108 (w 66 ((110 + (6 * J)) + I))) 70 120 ((w 66 62) + ((nI I) * (w 66 64)))) 70 121 ((w 66 63) + ((nI J) * (w 66 64)))) 70 101 1)) rfl ?_
      refine mz_doQ (R := mz_r173) (as := [.ref 65, .int 2]) (rest := []) (r1 := some (.int ve3)) (m1 := mz_set (mz_up (mz_up (mz_up (mz_up (mz_up w 70 99 ve1) 70 108 (w 66 ((110 + (6 * J)) + I))) 70 120 ((w 66 62) + ((nI I) * (w 66 64)))) 70 121 ((w 66 63) + ((nI J) * (w 66 64)))) 70 101 1) 71 ge3) mz_t173 mz_v173_65 rfl rfl rfl rfl rfl (Ee3.deep (by decide)) ?_
      exact mz_ret rfl
set_option maxHeartbeats 4000000 in
set_option maxRecDepth 100000 in
theorem xr_wank {w : mz_M} {N : Nat} (hw : sm_W w N) (hN : N ≤ 6) (hr5 : w 7 5 = 1 ∨ w 7 5 = 2) (hr80 : sm_N 80 (w 7 2)) (hr2 : sm_HR w (w 66)) (h660 : w 66 0 = nI N) (h6615 : w 66 15 = w 7 5) {WW HH : Nat} (hWW : WW ≤ 6) (hHH : HH ≤ 6) (hWH : WW = 0 ↔ HH = 0) (h6660 : w 66 60 = nI WW) (h6661 : w 66 61 = nI HH) {T2 : Nat} (hT2 : w 16 2 = nI T2) (hU2 : w 66 420 = nI T2) (hV2 : T2 = 0 ∨ sm_wf T2 5 (w 17) (w 18)) (xa : Int32) (hW1 : 1 ≤ WW) (HX : ∀ (x2 : Int32) (x3 : Int32) (x5 : Option Value) (r70 : Nat → Int32) (r71 : Nat → Int32), ∃ v m', mz_Ex 100 mz_k204 (122, [some (.ref 65), some (.int xa), some (.int x2), some (.int x3), some (.int (nI (WW * HH))), x5], [], mz_set (mz_set w 70 r70) 71 r71) (some (.int v), m') ∧ sm_Sc w m') : ∀ j k : Nat, k + j = (WW * HH) → ∀ (x2 : Int32) (x3 : Int32) (x5 : Option Value) (r70 : Nat → Int32) (r71 : Nat → Int32), ∃ v m', mz_Ex 100 mz_k204 (40, [some (.ref 65), some (.int xa), some (.int x2), some (.int x3), some (.int (nI k)), x5], [], mz_set (mz_set w 70 r70) 71 r71) (some (.int v), m') ∧ sm_Sc w m' := by
  have hT60c := sm_T60 hV2
  have hWHm : WW * HH ≤ 6 * 6 := Nat.mul_le_mul hWW hHH
  intro j
  induction j with
  | zero =>
    intro k hk x2 x3 x5 r70 r71
    rw [show k = (WW * HH) by omega]
    obtain ⟨vr, mr, hr, hsc⟩ := HX x2 x3 x5 ((mz_set (mz_set w 70 r70) 71 r71) 70) ((mz_set (mz_set w 70 r70) 71 r71) 71)
    have hm : mz_set (mz_set w 70 r70) 71 r71 = mz_set (mz_set w 70 ((mz_set (mz_set w 70 r70) 71 r71) 70)) 71 ((mz_set (mz_set w 70 r70) 71 r71) 71) := sm_of2 (fun i h1 h2 => by simp only [mz_set_ne h1, mz_set_ne h2])
    rw [← hm] at hr
    refine ⟨vr, mr, ?_, hsc⟩
    refine mz_go 2 (c' := (43, [some (.ref 65), some (.int xa), some (.int x2), some (.int x3), some (.int (nI (WW * HH))), x5], [.ref 65, .int (nI (WW * HH))], mz_set (mz_set w 70 r70) 71 r71)) rfl ?_
    refine mz_doQ (R := mz_r183) (as := [.ref 65]) (rest := [.int (nI (WW * HH))]) (r1 := some (.int (nI WW))) (m1 := mz_set (mz_set w 70 r70) 71 r71) mz_t183 mz_v183_65 rfl rfl rfl rfl rfl ⟨?_, rfl⟩ ?_
    · refine mz_go 4 (c' := (7, [some (.ref 65)], [.int (w 66 60)], mz_set (mz_set w 70 r70) 71 r71)) rfl ?_
      rw [h6660]
      exact mz_ret rfl
    refine mz_go 1 (c' := (47, [some (.ref 65), some (.int xa), some (.int x2), some (.int x3), some (.int (nI (WW * HH))), x5], [.ref 65, .int (nI WW), .int (nI (WW * HH))], mz_set (mz_set w 70 r70) 71 r71)) rfl ?_
    refine mz_doQ (R := mz_r184) (as := [.ref 65]) (rest := [.int (nI WW), .int (nI (WW * HH))]) (r1 := some (.int (nI HH))) (m1 := mz_set (mz_set w 70 r70) 71 r71) mz_t184 mz_v184_65 rfl rfl rfl rfl rfl ⟨?_, rfl⟩ ?_
    · refine mz_go 4 (c' := (7, [some (.ref 65)], [.int (w 66 61)], mz_set (mz_set w 70 r70) 71 r71)) rfl ?_
      rw [h6661]
      exact mz_ret rfl
    refine mz_go 2 (c' := (if ((nI WW) * (nI HH)) ≤ (nI (WW * HH)) then 122 else 54, [some (.ref 65), some (.int xa), some (.int x2), some (.int x3), some (.int (nI (WW * HH))), x5], [], mz_set (mz_set w 70 r70) 71 r71)) rfl ?_
    refine mz_ifT (show (((nI WW) * (nI HH)) ≤ (nI (WW * HH))) from (sm_leN (sm_mulN rfl rfl) rfl (show (WW * HH) ≤ (WW * HH) by omega) (show (WW * HH) < 2 ^ 31 by omega))) ?_
    exact hr
  | succ j ih =>
    intro k hk x2 x3 x5 r70 r71
    have hdm : k % WW < WW := Nat.mod_lt _ (by omega)
    have hdd : k / WW < HH := Nat.div_lt_of_lt_mul (by omega)
    obtain ⟨ve1, s70e1, s71e1, Ee1⟩ := xr_wof (w := mz_set (mz_set w 70 r70) 71 r71) hw hN hr5 hr80 hr2 h660 h6615 hWW hHH hWH h6660 h6661 hT2 hU2 hV2 (by omega) (by omega) (I := (k % WW)) (i := nI (k % WW)) rfl (J := (k / WW)) (j := nI (k / WW)) rfl
    by_cases q1 : ve1 ≤ x3
    · obtain ⟨vr, mr, hr, hsc⟩ := ih (k + 1) (by omega) x2 x3 (some (.int ve1)) ((mz_set (mz_set (mz_set (mz_set w 70 r70) 71 r71) 70 s70e1) 71 s71e1) 70) ((mz_set (mz_set (mz_set (mz_set w 70 r70) 71 r71) 70 s70e1) 71 s71e1) 71)
      rw [nI_succ k] at hr
      have hm : mz_set (mz_set (mz_set (mz_set w 70 r70) 71 r71) 70 s70e1) 71 s71e1 = mz_set (mz_set w 70 ((mz_set (mz_set (mz_set (mz_set w 70 r70) 71 r71) 70 s70e1) 71 s71e1) 70)) 71 ((mz_set (mz_set (mz_set (mz_set w 70 r70) 71 r71) 70 s70e1) 71 s71e1) 71) := sm_of2 (fun i h1 h2 => by simp only [mz_set_ne h1, mz_set_ne h2])
      rw [← hm] at hr
      refine ⟨vr, mr, ?_, hsc⟩
      refine mz_go 2 (c' := (43, [some (.ref 65), some (.int xa), some (.int x2), some (.int x3), some (.int (nI k)), x5], [.ref 65, .int (nI k)], mz_set (mz_set w 70 r70) 71 r71)) rfl ?_
      refine mz_doQ (R := mz_r183) (as := [.ref 65]) (rest := [.int (nI k)]) (r1 := some (.int (nI WW))) (m1 := mz_set (mz_set w 70 r70) 71 r71) mz_t183 mz_v183_65 rfl rfl rfl rfl rfl ⟨?_, rfl⟩ ?_
      · refine mz_go 4 (c' := (7, [some (.ref 65)], [.int (w 66 60)], mz_set (mz_set w 70 r70) 71 r71)) rfl ?_
        rw [h6660]
        exact mz_ret rfl
      refine mz_go 1 (c' := (47, [some (.ref 65), some (.int xa), some (.int x2), some (.int x3), some (.int (nI k)), x5], [.ref 65, .int (nI WW), .int (nI k)], mz_set (mz_set w 70 r70) 71 r71)) rfl ?_
      refine mz_doQ (R := mz_r184) (as := [.ref 65]) (rest := [.int (nI WW), .int (nI k)]) (r1 := some (.int (nI HH))) (m1 := mz_set (mz_set w 70 r70) 71 r71) mz_t184 mz_v184_65 rfl rfl rfl rfl rfl ⟨?_, rfl⟩ ?_
      · refine mz_go 4 (c' := (7, [some (.ref 65)], [.int (w 66 61)], mz_set (mz_set w 70 r70) 71 r71)) rfl ?_
        rw [h6661]
        exact mz_ret rfl
      refine mz_go 2 (c' := (if ((nI WW) * (nI HH)) ≤ (nI k) then 122 else 54, [some (.ref 65), some (.int xa), some (.int x2), some (.int x3), some (.int (nI k)), x5], [], mz_set (mz_set w 70 r70) 71 r71)) rfl ?_
      refine mz_ifF (show ¬ (((nI WW) * (nI HH)) ≤ (nI k)) from (sm_nleN (sm_mulN rfl rfl) rfl (show k < (WW * HH) by omega) (show (WW * HH) < 2 ^ 31 by omega))) ?_
      refine mz_go 3 (c' := (58, [some (.ref 65), some (.int xa), some (.int x2), some (.int x3), some (.int (nI k)), x5], [.ref 65, .int (nI k), .ref 65], mz_set (mz_set w 70 r70) 71 r71)) rfl ?_
      refine mz_doQ (R := mz_r183) (as := [.ref 65]) (rest := [.int (nI k), .ref 65]) (r1 := some (.int (nI WW))) (m1 := mz_set (mz_set w 70 r70) 71 r71) mz_t183 mz_v183_65 rfl rfl rfl rfl rfl ⟨?_, rfl⟩ ?_
      · refine mz_go 4 (c' := (7, [some (.ref 65)], [.int (w 66 60)], mz_set (mz_set w 70 r70) 71 r71)) rfl ?_
        rw [h6660]
        exact mz_ret rfl
      refine mz_div (c' := (62, [some (.ref 65), some (.int xa), some (.int x2), some (.int x3), some (.int (nI k)), x5], [.int ((nI k) - (nI k) / (nI WW) * (nI WW)), .ref 65], mz_set (mz_set w 70 r70) 71 r71)) rfl (sm_nz (k := WW) (by omega)) ?_
      rw [show (nI k) - (nI k) / (nI WW) * (nI WW) = nI (k % WW) from sm_modN (by omega) (by omega)]
      refine mz_go 2 (c' := (65, [some (.ref 65), some (.int xa), some (.int x2), some (.int x3), some (.int (nI k)), x5], [.ref 65, .int (nI k), .int (nI (k % WW)), .ref 65], mz_set (mz_set w 70 r70) 71 r71)) rfl ?_
      refine mz_doQ (R := mz_r183) (as := [.ref 65]) (rest := [.int (nI k), .int (nI (k % WW)), .ref 65]) (r1 := some (.int (nI WW))) (m1 := mz_set (mz_set w 70 r70) 71 r71) mz_t183 mz_v183_65 rfl rfl rfl rfl rfl ⟨?_, rfl⟩ ?_
      · refine mz_go 4 (c' := (7, [some (.ref 65)], [.int (w 66 60)], mz_set (mz_set w 70 r70) 71 r71)) rfl ?_
        rw [h6660]
        exact mz_ret rfl
      refine mz_div (c' := (69, [some (.ref 65), some (.int xa), some (.int x2), some (.int x3), some (.int (nI k)), x5], [.int ((nI k) / (nI WW)), .int (nI (k % WW)), .ref 65], mz_set (mz_set w 70 r70) 71 r71)) rfl (sm_nz (k := WW) (by omega)) ?_
      rw [show (nI k) / (nI WW) = nI (k / WW) from sm_divN (by omega) (by omega)]
      refine mz_doQ (R := mz_r203) (as := [.ref 65, .int (nI (k % WW)), .int (nI (k / WW))]) (rest := []) (r1 := some (.int ve1)) (m1 := mz_set (mz_set (mz_set (mz_set w 70 r70) 71 r71) 70 s70e1) 71 s71e1) mz_t203 mz_v203_65 rfl rfl rfl rfl rfl (Ee1.deep (by decide)) ?_
      refine mz_go 4 (c' := (if ve1 ≤ x3 then 101 else 80, [some (.ref 65), some (.int xa), some (.int x2), some (.int x3), some (.int (nI k)), some (.int ve1)], [], mz_set (mz_set (mz_set (mz_set w 70 r70) 71 r71) 70 s70e1) 71 s71e1)) rfl ?_
      refine mz_ifT q1 ?_
      refine mz_go 5 (c' := (if ve1 ≤ x3 then 114 else 109, [some (.ref 65), some (.int xa), some (.int x2), some (.int x3), some (.int (nI k)), some (.int ve1)], [], mz_set (mz_set (mz_set (mz_set w 70 r70) 71 r71) 70 s70e1) 71 s71e1)) rfl ?_
      refine mz_ifT q1 ?_
      refine mz_go 4 (c' := (40, [some (.ref 65), some (.int xa), some (.int x2), some (.int x3), some (.int ((nI k) + 1)), some (.int ve1)], [], mz_set (mz_set (mz_set (mz_set w 70 r70) 71 r71) 70 s70e1) 71 s71e1)) rfl ?_
      exact hr
    · obtain ⟨vr, mr, hr, hsc⟩ := ih (k + 1) (by omega) ((10 * (nI (k % WW))) + (nI (k / WW))) ve1 (some (.int ve1)) ((mz_set (mz_set (mz_set (mz_set w 70 r70) 71 r71) 70 s70e1) 71 s71e1) 70) ((mz_set (mz_set (mz_set (mz_set w 70 r70) 71 r71) 70 s70e1) 71 s71e1) 71)
      rw [nI_succ k] at hr
      have hm : mz_set (mz_set (mz_set (mz_set w 70 r70) 71 r71) 70 s70e1) 71 s71e1 = mz_set (mz_set w 70 ((mz_set (mz_set (mz_set (mz_set w 70 r70) 71 r71) 70 s70e1) 71 s71e1) 70)) 71 ((mz_set (mz_set (mz_set (mz_set w 70 r70) 71 r71) 70 s70e1) 71 s71e1) 71) := sm_of2 (fun i h1 h2 => by simp only [mz_set_ne h1, mz_set_ne h2])
      rw [← hm] at hr
      refine ⟨vr, mr, ?_, hsc⟩
      refine mz_go 2 (c' := (43, [some (.ref 65), some (.int xa), some (.int x2), some (.int x3), some (.int (nI k)), x5], [.ref 65, .int (nI k)], mz_set (mz_set w 70 r70) 71 r71)) rfl ?_
      refine mz_doQ (R := mz_r183) (as := [.ref 65]) (rest := [.int (nI k)]) (r1 := some (.int (nI WW))) (m1 := mz_set (mz_set w 70 r70) 71 r71) mz_t183 mz_v183_65 rfl rfl rfl rfl rfl ⟨?_, rfl⟩ ?_
      · refine mz_go 4 (c' := (7, [some (.ref 65)], [.int (w 66 60)], mz_set (mz_set w 70 r70) 71 r71)) rfl ?_
        rw [h6660]
        exact mz_ret rfl
      refine mz_go 1 (c' := (47, [some (.ref 65), some (.int xa), some (.int x2), some (.int x3), some (.int (nI k)), x5], [.ref 65, .int (nI WW), .int (nI k)], mz_set (mz_set w 70 r70) 71 r71)) rfl ?_
      refine mz_doQ (R := mz_r184) (as := [.ref 65]) (rest := [.int (nI WW), .int (nI k)]) (r1 := some (.int (nI HH))) (m1 := mz_set (mz_set w 70 r70) 71 r71) mz_t184 mz_v184_65 rfl rfl rfl rfl rfl ⟨?_, rfl⟩ ?_
      · refine mz_go 4 (c' := (7, [some (.ref 65)], [.int (w 66 61)], mz_set (mz_set w 70 r70) 71 r71)) rfl ?_
        rw [h6661]
        exact mz_ret rfl
      refine mz_go 2 (c' := (if ((nI WW) * (nI HH)) ≤ (nI k) then 122 else 54, [some (.ref 65), some (.int xa), some (.int x2), some (.int x3), some (.int (nI k)), x5], [], mz_set (mz_set w 70 r70) 71 r71)) rfl ?_
      refine mz_ifF (show ¬ (((nI WW) * (nI HH)) ≤ (nI k)) from (sm_nleN (sm_mulN rfl rfl) rfl (show k < (WW * HH) by omega) (show (WW * HH) < 2 ^ 31 by omega))) ?_
      refine mz_go 3 (c' := (58, [some (.ref 65), some (.int xa), some (.int x2), some (.int x3), some (.int (nI k)), x5], [.ref 65, .int (nI k), .ref 65], mz_set (mz_set w 70 r70) 71 r71)) rfl ?_
      refine mz_doQ (R := mz_r183) (as := [.ref 65]) (rest := [.int (nI k), .ref 65]) (r1 := some (.int (nI WW))) (m1 := mz_set (mz_set w 70 r70) 71 r71) mz_t183 mz_v183_65 rfl rfl rfl rfl rfl ⟨?_, rfl⟩ ?_
      · refine mz_go 4 (c' := (7, [some (.ref 65)], [.int (w 66 60)], mz_set (mz_set w 70 r70) 71 r71)) rfl ?_
        rw [h6660]
        exact mz_ret rfl
      refine mz_div (c' := (62, [some (.ref 65), some (.int xa), some (.int x2), some (.int x3), some (.int (nI k)), x5], [.int ((nI k) - (nI k) / (nI WW) * (nI WW)), .ref 65], mz_set (mz_set w 70 r70) 71 r71)) rfl (sm_nz (k := WW) (by omega)) ?_
      rw [show (nI k) - (nI k) / (nI WW) * (nI WW) = nI (k % WW) from sm_modN (by omega) (by omega)]
      refine mz_go 2 (c' := (65, [some (.ref 65), some (.int xa), some (.int x2), some (.int x3), some (.int (nI k)), x5], [.ref 65, .int (nI k), .int (nI (k % WW)), .ref 65], mz_set (mz_set w 70 r70) 71 r71)) rfl ?_
      refine mz_doQ (R := mz_r183) (as := [.ref 65]) (rest := [.int (nI k), .int (nI (k % WW)), .ref 65]) (r1 := some (.int (nI WW))) (m1 := mz_set (mz_set w 70 r70) 71 r71) mz_t183 mz_v183_65 rfl rfl rfl rfl rfl ⟨?_, rfl⟩ ?_
      · refine mz_go 4 (c' := (7, [some (.ref 65)], [.int (w 66 60)], mz_set (mz_set w 70 r70) 71 r71)) rfl ?_
        rw [h6660]
        exact mz_ret rfl
      refine mz_div (c' := (69, [some (.ref 65), some (.int xa), some (.int x2), some (.int x3), some (.int (nI k)), x5], [.int ((nI k) / (nI WW)), .int (nI (k % WW)), .ref 65], mz_set (mz_set w 70 r70) 71 r71)) rfl (sm_nz (k := WW) (by omega)) ?_
      rw [show (nI k) / (nI WW) = nI (k / WW) from sm_divN (by omega) (by omega)]
      refine mz_doQ (R := mz_r203) (as := [.ref 65, .int (nI (k % WW)), .int (nI (k / WW))]) (rest := []) (r1 := some (.int ve1)) (m1 := mz_set (mz_set (mz_set (mz_set w 70 r70) 71 r71) 70 s70e1) 71 s71e1) mz_t203 mz_v203_65 rfl rfl rfl rfl rfl (Ee1.deep (by decide)) ?_
      refine mz_go 4 (c' := (if ve1 ≤ x3 then 101 else 80, [some (.ref 65), some (.int xa), some (.int x2), some (.int x3), some (.int (nI k)), some (.int ve1)], [], mz_set (mz_set (mz_set (mz_set w 70 r70) 71 r71) 70 s70e1) 71 s71e1)) rfl ?_
      refine mz_ifF q1 ?_
      refine mz_go 3 (c' := (85, [some (.ref 65), some (.int xa), some (.int x2), some (.int x3), some (.int (nI k)), some (.int ve1)], [.ref 65, .int (nI k), .int 10], mz_set (mz_set (mz_set (mz_set w 70 r70) 71 r71) 70 s70e1) 71 s71e1)) rfl ?_
      refine mz_doQ (R := mz_r183) (as := [.ref 65]) (rest := [.int (nI k), .int 10]) (r1 := some (.int (nI WW))) (m1 := mz_set (mz_set (mz_set (mz_set w 70 r70) 71 r71) 70 s70e1) 71 s71e1) mz_t183 mz_v183_65 rfl rfl rfl rfl rfl ⟨?_, rfl⟩ ?_
      · refine mz_go 4 (c' := (7, [some (.ref 65)], [.int (w 66 60)], mz_set (mz_set (mz_set (mz_set w 70 r70) 71 r71) 70 s70e1) 71 s71e1)) rfl ?_
        rw [h6660]
        exact mz_ret rfl
      refine mz_div (c' := (89, [some (.ref 65), some (.int xa), some (.int x2), some (.int x3), some (.int (nI k)), some (.int ve1)], [.int ((nI k) - (nI k) / (nI WW) * (nI WW)), .int 10], mz_set (mz_set (mz_set (mz_set w 70 r70) 71 r71) 70 s70e1) 71 s71e1)) rfl (sm_nz (k := WW) (by omega)) ?_
      rw [show (nI k) - (nI k) / (nI WW) * (nI WW) = nI (k % WW) from sm_modN (by omega) (by omega)]
      refine mz_go 3 (c' := (93, [some (.ref 65), some (.int xa), some (.int x2), some (.int x3), some (.int (nI k)), some (.int ve1)], [.ref 65, .int (nI k), .int (10 * (nI (k % WW)))], mz_set (mz_set (mz_set (mz_set w 70 r70) 71 r71) 70 s70e1) 71 s71e1)) rfl ?_
      refine mz_doQ (R := mz_r183) (as := [.ref 65]) (rest := [.int (nI k), .int (10 * (nI (k % WW)))]) (r1 := some (.int (nI WW))) (m1 := mz_set (mz_set (mz_set (mz_set w 70 r70) 71 r71) 70 s70e1) 71 s71e1) mz_t183 mz_v183_65 rfl rfl rfl rfl rfl ⟨?_, rfl⟩ ?_
      · refine mz_go 4 (c' := (7, [some (.ref 65)], [.int (w 66 60)], mz_set (mz_set (mz_set (mz_set w 70 r70) 71 r71) 70 s70e1) 71 s71e1)) rfl ?_
        rw [h6660]
        exact mz_ret rfl
      refine mz_div (c' := (97, [some (.ref 65), some (.int xa), some (.int x2), some (.int x3), some (.int (nI k)), some (.int ve1)], [.int ((nI k) / (nI WW)), .int (10 * (nI (k % WW)))], mz_set (mz_set (mz_set (mz_set w 70 r70) 71 r71) 70 s70e1) 71 s71e1)) rfl (sm_nz (k := WW) (by omega)) ?_
      rw [show (nI k) / (nI WW) = nI (k / WW) from sm_divN (by omega) (by omega)]
      refine mz_go 6 (c' := (if ve1 ≤ x3 then 114 else 109, [some (.ref 65), some (.int xa), some (.int ((10 * (nI (k % WW))) + (nI (k / WW)))), some (.int x3), some (.int (nI k)), some (.int ve1)], [], mz_set (mz_set (mz_set (mz_set w 70 r70) 71 r71) 70 s70e1) 71 s71e1)) rfl ?_
      refine mz_ifF q1 ?_
      refine mz_go 5 (c' := (40, [some (.ref 65), some (.int xa), some (.int ((10 * (nI (k % WW))) + (nI (k / WW)))), some (.int ve1), some (.int ((nI k) + 1)), some (.int ve1)], [], mz_set (mz_set (mz_set (mz_set w 70 r70) 71 r71) 70 s70e1) 71 s71e1)) rfl ?_
      exact hr
set_option maxHeartbeats 4000000 in
set_option maxRecDepth 100000 in
theorem xr_want {w : mz_M} {N : Nat} (hw : sm_W w N) (hN : N ≤ 6) (hr5 : w 7 5 = 1 ∨ w 7 5 = 2) (hr80 : sm_N 80 (w 7 2)) (hr2 : sm_HR w (w 66)) (h660 : w 66 0 = nI N) (h6615 : w 66 15 = w 7 5) {WW HH : Nat} (hWW : WW ≤ 6) (hHH : HH ≤ 6) (hWH : WW = 0 ↔ HH = 0) (h6660 : w 66 60 = nI WW) (h6661 : w 66 61 = nI HH) {T2 : Nat} (hT2 : w 16 2 = nI T2) (hU2 : w 66 420 = nI T2) (hV2 : T2 = 0 ∨ sm_wf T2 5 (w 17) (w 18)) (xa : Int32) : ∃ v m', mz_Me 100 mz_r204 [.ref 65, .int xa] w (some (.int v)) m' ∧ sm_Sc w m' := by
  have hT60c := sm_T60 hV2
  have hWHm : WW * HH ≤ 6 * 6 := Nat.mul_le_mul hWW hHH
  by_cases q1 : (sm_bI (sm_in xa 0 1)) = 0
  · refine ⟨(-1000001), mz_up w 68 1 ((w 68 1) + 1), ⟨?_, rfl⟩, ⟨fun i hi => (by simp only [mz_up_ne (sm_scne hi (r := 68) rfl)]), rfl, rfl⟩⟩
    refine mz_go 3 (c' := (3, [some (.ref 65), some (.int xa), none, none, none, none], [.int 1, .int 0, .int xa], w)) rfl ?_
    refine mz_doQ (R := mz_r128) (as := [.int xa, .int 0, .int 1]) (rest := []) (r1 := some (.int (sm_bI (sm_in xa 0 1)))) (m1 := w) mz_t128 mz_v128 rfl rfl rfl rfl rfl ((ct_in (m := w) xa 0 1).deep (by decide)) ?_
    refine mz_go 1 (c' := (if (sm_bI (sm_in xa 0 1)) = 0 then 9 else 15, [some (.ref 65), some (.int xa), none, none, none, none], [], w)) rfl ?_
    refine mz_ifT q1 ?_
    refine mz_go 2 (c' := (11, [some (.ref 65), some (.int xa), none, none, none, none], [.int 1, .ref 65], w)) rfl ?_
    refine mz_doQ (R := mz_r127) (as := [.ref 65, .int 1]) (rest := []) (r1 := some (.int (-1000001))) (m1 := mz_up w 68 1 ((w 68 1) + 1)) mz_t127 mz_v127_65 rfl rfl rfl rfl rfl ((ct_err1 (m := w)).deep (by decide)) ?_
    exact mz_ret rfl
  · by_cases q2 : WW ≤ 0
    · refine ⟨(-1000002), mz_up w 68 2 ((w 68 2) + 1), ⟨?_, rfl⟩, ⟨fun i hi => (by simp only [mz_up_ne (sm_scne hi (r := 68) rfl)]), rfl, rfl⟩⟩
      refine mz_go 3 (c' := (3, [some (.ref 65), some (.int xa), none, none, none, none], [.int 1, .int 0, .int xa], w)) rfl ?_
      refine mz_doQ (R := mz_r128) (as := [.int xa, .int 0, .int 1]) (rest := []) (r1 := some (.int 1)) (m1 := w) mz_t128 mz_v128 rfl rfl rfl rfl rfl ((ct_in1 (m := w) (v := xa) (a := 0) (b := 1) (show ¬ (xa < 0) from (sm_in_lo q1)) (show ¬ (1 < xa) from (sm_in_hi q1))).deep (by decide)) ?_
      refine mz_go 2 (c' := (16, [some (.ref 65), some (.int xa), none, none, none, none], [.ref 65], w)) rfl ?_
      refine mz_doQ (R := mz_r185) (as := [.ref 65]) (rest := []) (r1 := some (.int 0)) (m1 := w) mz_t185 mz_v185_65 rfl rfl rfl rfl rfl ⟨?_, rfl⟩ ?_
      · refine mz_go 1 (c' := (1, [some (.ref 65)], [.ref 65], w)) rfl ?_
        refine mz_doQ (R := mz_r183) (as := [.ref 65]) (rest := []) (r1 := some (.int (nI WW))) (m1 := w) mz_t183 mz_v183_65 rfl rfl rfl rfl rfl ⟨?_, rfl⟩ ?_
        · refine mz_go 4 (c' := (7, [some (.ref 65)], [.int (w 66 60)], w)) rfl ?_
          rw [h6660]
          exact mz_ret rfl
        refine mz_go 1 (c' := (if (nI WW) ≤ 0 then 11 else 7, [some (.ref 65)], [], w)) rfl ?_
        refine mz_ifT (show ((nI WW) ≤ 0) from (sm_leN rfl rfl (show WW ≤ 0 by omega) (show 0 < 2 ^ 31 by omega))) ?_
        refine mz_go 1 (c' := (12, [some (.ref 65)], [.int 0], w)) rfl ?_
        exact mz_ret rfl
      refine mz_go 3 (c' := (24, [some (.ref 65), some (.int xa), none, none, none, none], [.int 2, .ref 65], w)) rfl ?_
      refine mz_doQ (R := mz_r127) (as := [.ref 65, .int 2]) (rest := []) (r1 := some (.int (-1000002))) (m1 := mz_up w 68 2 ((w 68 2) + 1)) mz_t127 mz_v127_65 rfl rfl rfl rfl rfl ((ct_err2 (m := w)).deep (by decide)) ?_
      exact mz_ret rfl
    · obtain ⟨ve1, s70e1, s71e1, Ee1⟩ := xr_wof (w := w) hw hN hr5 hr80 hr2 h660 h6615 hWW hHH hWH h6660 h6661 hT2 hU2 hV2 (by omega) (by omega) (I := 0) (i := 0) rfl (J := 0) (j := 0) rfl
      have HX1 : ∀ (x2_1 : Int32) (x3_1 : Int32) (x5_1 : Option Value) (r70_1 : Nat → Int32) (r71_1 : Nat → Int32), ∃ v m', mz_Ex 100 mz_k204 (122, [some (.ref 65), some (.int xa), some (.int x2_1), some (.int x3_1), some (.int (nI (WW * HH))), x5_1], [], mz_set (mz_set w 70 r70_1) 71 r71_1) (some (.int v), m') ∧ sm_Sc w m' := by
        intro x2_1 x3_1 x5_1 r70_1 r71_1
        by_cases q3 : xa = 0
        · refine ⟨x2_1, mz_set (mz_set w 70 r70_1) 71 r71_1, ?_, ⟨fun i hi => (by simp only [mz_set_ne (sm_scne hi (r := 70) rfl), mz_set_ne (sm_scne hi (r := 71) rfl)]), rfl, rfl⟩⟩
          refine mz_go 2 (c' := (if xa = 0 then 126 else 130, [some (.ref 65), some (.int xa), some (.int x2_1), some (.int x3_1), some (.int (nI (WW * HH))), x5_1], [], mz_set (mz_set w 70 r70_1) 71 r71_1)) rfl ?_
          refine mz_ifT q3 ?_
          refine mz_go 2 (c' := (131, [some (.ref 65), some (.int xa), some (.int x2_1), some (.int x3_1), some (.int (nI (WW * HH))), x5_1], [.int x2_1], mz_set (mz_set w 70 r70_1) 71 r71_1)) rfl ?_
          exact mz_ret rfl
        · refine ⟨x3_1, mz_set (mz_set w 70 r70_1) 71 r71_1, ?_, ⟨fun i hi => (by simp only [mz_set_ne (sm_scne hi (r := 70) rfl), mz_set_ne (sm_scne hi (r := 71) rfl)]), rfl, rfl⟩⟩
          refine mz_go 2 (c' := (if xa = 0 then 126 else 130, [some (.ref 65), some (.int xa), some (.int x2_1), some (.int x3_1), some (.int (nI (WW * HH))), x5_1], [], mz_set (mz_set w 70 r70_1) 71 r71_1)) rfl ?_
          refine mz_ifF q3 ?_
          refine mz_go 1 (c' := (131, [some (.ref 65), some (.int xa), some (.int x2_1), some (.int x3_1), some (.int (nI (WW * HH))), x5_1], [.int x3_1], mz_set (mz_set w 70 r70_1) 71 r71_1)) rfl ?_
          exact mz_ret rfl
      have hWHp : 0 < WW * HH := Nat.mul_pos (by omega) (by omega)
      obtain ⟨vr, mr, hr, hsc⟩ := xr_wank hw hN hr5 hr80 hr2 h660 h6615 hWW hHH hWH h6660 h6661 hT2 hU2 hV2 xa (by omega) HX1 ((WW * HH) - 1) 1 (by omega) 0 ve1 none ((mz_set (mz_set w 70 s70e1) 71 s71e1) 70) ((mz_set (mz_set w 70 s70e1) 71 s71e1) 71)
      have hm : mz_set (mz_set w 70 s70e1) 71 s71e1 = mz_set (mz_set w 70 ((mz_set (mz_set w 70 s70e1) 71 s71e1) 70)) 71 ((mz_set (mz_set w 70 s70e1) 71 s71e1) 71) := sm_of2 (fun i h1 h2 => by simp only [mz_set_ne h1, mz_set_ne h2])
      rw [← hm] at hr
      refine ⟨vr, mr, ⟨?_, rfl⟩, hsc⟩
      refine mz_go 3 (c' := (3, [some (.ref 65), some (.int xa), none, none, none, none], [.int 1, .int 0, .int xa], w)) rfl ?_
      refine mz_doQ (R := mz_r128) (as := [.int xa, .int 0, .int 1]) (rest := []) (r1 := some (.int 1)) (m1 := w) mz_t128 mz_v128 rfl rfl rfl rfl rfl ((ct_in1 (m := w) (v := xa) (a := 0) (b := 1) (show ¬ (xa < 0) from (sm_in_lo q1)) (show ¬ (1 < xa) from (sm_in_hi q1))).deep (by decide)) ?_
      refine mz_go 2 (c' := (16, [some (.ref 65), some (.int xa), none, none, none, none], [.ref 65], w)) rfl ?_
      refine mz_doQ (R := mz_r185) (as := [.ref 65]) (rest := []) (r1 := some (.int 1)) (m1 := w) mz_t185 mz_v185_65 rfl rfl rfl rfl rfl ⟨?_, rfl⟩ ?_
      · refine mz_go 1 (c' := (1, [some (.ref 65)], [.ref 65], w)) rfl ?_
        refine mz_doQ (R := mz_r183) (as := [.ref 65]) (rest := []) (r1 := some (.int (nI WW))) (m1 := w) mz_t183 mz_v183_65 rfl rfl rfl rfl rfl ⟨?_, rfl⟩ ?_
        · refine mz_go 4 (c' := (7, [some (.ref 65)], [.int (w 66 60)], w)) rfl ?_
          rw [h6660]
          exact mz_ret rfl
        refine mz_go 1 (c' := (if (nI WW) ≤ 0 then 11 else 7, [some (.ref 65)], [], w)) rfl ?_
        refine mz_ifF (show ¬ ((nI WW) ≤ 0) from (sm_nleN rfl rfl (show 0 < WW by omega) (show WW < 2 ^ 31 by omega))) ?_
        refine mz_go 2 (c' := (12, [some (.ref 65)], [.int 1], w)) rfl ?_
        exact mz_ret rfl
      refine mz_go 6 (c' := (33, [some (.ref 65), some (.int xa), some (.int 0), none, none, none], [.int 0, .int 0, .ref 65], w)) rfl ?_
      refine mz_doQ (R := mz_r203) (as := [.ref 65, .int 0, .int 0]) (rest := []) (r1 := some (.int ve1)) (m1 := mz_set (mz_set w 70 s70e1) 71 s71e1) mz_t203 mz_v203_65 rfl rfl rfl rfl rfl (Ee1.deep (by decide)) ?_
      refine mz_go 3 (c' := (40, [some (.ref 65), some (.int xa), some (.int 0), some (.int ve1), some (.int 1), none], [], mz_set (mz_set w 70 s70e1) 71 s71e1)) rfl ?_
      exact hr
