set_option maxHeartbeats 4000000 in
set_option maxRecDepth 100000 in
theorem xw_share {w : mz_M} {N : Nat} (hw : sm_W w N) (hN : N ≤ 6) (h4 : w 2 4 = nI N) (hr5 : w 7 5 = 1 ∨ w 7 5 = 2) (hr80 : sm_N 80 (w 7 2)) {WW HH : Nat} (hWW : WW ≤ 6) (hHH : HH ≤ 6) (hWH : WW = 0 ↔ HH = 0) (h202 : w 20 2 = nI WW) (h203 : w 20 3 = nI HH) {T2 : Nat} (hT2 : w 16 2 = nI T2) (hV2 : T2 = 0 ∨ sm_wf T2 5 (w 17) (w 18)) (xa : Int32) : ∃ v m', mz_Me 100 mz_r87 [.ref 0, .int xa] w (some (.int v)) m' ∧ sm_Sc w m' := by
  have hT60c := sm_T60 hV2
  by_cases q1 : xa = 9
  · by_cases q2 : WW ≤ 0
    · refine ⟨(-1000002), mz_up w 64 2 ((w 64 2) + 1), ⟨?_, rfl⟩, ⟨fun i hi => (by simp only [mz_up_ne (sm_scne hi (r := 64) rfl)]), rfl, rfl⟩⟩
      refine mz_go 1 (c' := (1, [some (.ref 0), some (.int xa)], [.int xa], w)) rfl ?_
      refine mz_doQ (R := mz_r118) (as := [.int xa]) (rest := []) (r1 := some (.int 1)) (m1 := w) mz_t118 mz_v118 rfl rfl rfl rfl rfl ⟨?_, rfl⟩ ?_
      · refine mz_go 3 (c' := (if xa = 9 then 15 else 6, [some (.int xa)], [], w)) rfl ?_
        refine mz_ifT q1 ?_
        refine mz_go 2 (c' := (20, [some (.int xa)], [.int 1], w)) rfl ?_
        exact mz_ret rfl
      refine mz_go 4 (c' := (20, [some (.ref 0), some (.int xa)], [.ref 20], w)) rfl ?_
      refine mz_doQ (R := mz_r2) (as := [.ref 20]) (rest := []) (r1 := some (.int 0)) (m1 := w) mz_t2 mz_v2_20 rfl rfl rfl rfl rfl ⟨?_, rfl⟩ ?_
      · refine mz_go 2 (c' := (4, [some (.ref 20)], [.int (w 20 2)], w)) rfl ?_
        rw [h202]
        refine mz_go 1 (c' := (if (nI WW) ≤ 0 then 18 else 7, [some (.ref 20)], [], w)) rfl ?_
        refine mz_ifT (show ((nI WW) ≤ 0) from (sm_leN rfl rfl (show WW ≤ 0 by omega) (show 0 < 2 ^ 31 by omega))) ?_
        refine mz_go 1 (c' := (19, [some (.ref 20)], [.int 0], w)) rfl ?_
        exact mz_ret rfl
      refine mz_go 3 (c' := (28, [some (.ref 0), some (.int xa)], [.int 2, .ref 0], w)) rfl ?_
      refine mz_doQ (R := mz_r109) (as := [.ref 0, .int 2]) (rest := []) (r1 := some (.int (-1000002))) (m1 := mz_up w 64 2 ((w 64 2) + 1)) mz_t109 mz_v109_0 rfl rfl rfl rfl rfl ((cs_err2 (m := w)).deep (by decide)) ?_
      exact mz_ret rfl
    · obtain ⟨ve1, Ee1⟩ := xc_cof (m := w) hWW hHH h202 h203 xa
      refine ⟨ve1, w, ⟨?_, rfl⟩, ⟨fun _ _ => rfl, rfl, rfl⟩⟩
      refine mz_go 1 (c' := (1, [some (.ref 0), some (.int xa)], [.int xa], w)) rfl ?_
      refine mz_doQ (R := mz_r118) (as := [.int xa]) (rest := []) (r1 := some (.int 1)) (m1 := w) mz_t118 mz_v118 rfl rfl rfl rfl rfl ⟨?_, rfl⟩ ?_
      · refine mz_go 3 (c' := (if xa = 9 then 15 else 6, [some (.int xa)], [], w)) rfl ?_
        refine mz_ifT q1 ?_
        refine mz_go 2 (c' := (20, [some (.int xa)], [.int 1], w)) rfl ?_
        exact mz_ret rfl
      refine mz_go 4 (c' := (20, [some (.ref 0), some (.int xa)], [.ref 20], w)) rfl ?_
      refine mz_doQ (R := mz_r2) (as := [.ref 20]) (rest := []) (r1 := some (.int 1)) (m1 := w) mz_t2 mz_v2_20 rfl rfl rfl rfl rfl ⟨?_, rfl⟩ ?_
      · refine mz_go 2 (c' := (4, [some (.ref 20)], [.int (w 20 2)], w)) rfl ?_
        rw [h202]
        refine mz_go 1 (c' := (if (nI WW) ≤ 0 then 18 else 7, [some (.ref 20)], [], w)) rfl ?_
        refine mz_ifF (show ¬ ((nI WW) ≤ 0) from (sm_nleN rfl rfl (show 0 < WW by omega) (show WW < 2 ^ 31 by omega))) ?_
        refine mz_go 2 (c' := (11, [some (.ref 20)], [.int (w 20 3)], w)) rfl ?_
        rw [h203]
        refine mz_go 1 (c' := (if (nI HH) ≤ 0 then 18 else 14, [some (.ref 20)], [], w)) rfl ?_
        refine mz_ifF (show ¬ ((nI HH) ≤ 0) from (sm_nleN rfl rfl (show 0 < HH by omega) (show HH < 2 ^ 31 by omega))) ?_
        refine mz_go 2 (c' := (19, [some (.ref 20)], [.int 1], w)) rfl ?_
        exact mz_ret rfl
      refine mz_go 5 (c' := (40, [some (.ref 0), some (.int xa)], [.int xa, .ref 20], w)) rfl ?_
      refine mz_doQ (R := mz_r9) (as := [.ref 20, .int xa]) (rest := []) (r1 := some (.int ve1)) (m1 := w) mz_t9 mz_v9_20 rfl rfl rfl rfl rfl (Ee1.deep (by decide)) ?_
      exact mz_ret rfl
  · by_cases q3 : (sm_bI (sm_in xa 0 5)) = 0
    · refine ⟨(-1000001), mz_up w 64 1 ((w 64 1) + 1), ⟨?_, rfl⟩, ⟨fun i hi => (by simp only [mz_up_ne (sm_scne hi (r := 64) rfl)]), rfl, rfl⟩⟩
      refine mz_go 1 (c' := (1, [some (.ref 0), some (.int xa)], [.int xa], w)) rfl ?_
      refine mz_doQ (R := mz_r118) (as := [.int xa]) (rest := []) (r1 := some (.int 0)) (m1 := w) mz_t118 mz_v118 rfl rfl rfl rfl rfl ⟨?_, rfl⟩ ?_
      · refine mz_go 3 (c' := (if xa = 9 then 15 else 6, [some (.int xa)], [], w)) rfl ?_
        refine mz_ifF q1 ?_
        refine mz_go 3 (c' := (9, [some (.int xa)], [.int 5, .int 0, .int xa], w)) rfl ?_
        refine mz_doQ (R := mz_r121) (as := [.int xa, .int 0, .int 5]) (rest := []) (r1 := some (.int (sm_bI (sm_in xa 0 5)))) (m1 := w) mz_t121 mz_v121 rfl rfl rfl rfl rfl ((cs_in (m := w) xa 0 5).deep (by decide)) ?_
        refine mz_go 1 (c' := (if (sm_bI (sm_in xa 0 5)) = 0 then 19 else 15, [some (.int xa)], [], w)) rfl ?_
        refine mz_ifT q3 ?_
        refine mz_go 1 (c' := (20, [some (.int xa)], [.int 0], w)) rfl ?_
        exact mz_ret rfl
      refine mz_go 3 (c' := (9, [some (.ref 0), some (.int xa)], [.int 1, .ref 0], w)) rfl ?_
      refine mz_doQ (R := mz_r109) (as := [.ref 0, .int 1]) (rest := []) (r1 := some (.int (-1000001))) (m1 := mz_up w 64 1 ((w 64 1) + 1)) mz_t109 mz_v109_0 rfl rfl rfl rfl rfl ((cs_err1 (m := w)).deep (by decide)) ?_
      exact mz_ret rfl
    · by_cases q4 : WW ≤ 0
      · refine ⟨(-1000002), mz_up w 64 2 ((w 64 2) + 1), ⟨?_, rfl⟩, ⟨fun i hi => (by simp only [mz_up_ne (sm_scne hi (r := 64) rfl)]), rfl, rfl⟩⟩
        refine mz_go 1 (c' := (1, [some (.ref 0), some (.int xa)], [.int xa], w)) rfl ?_
        refine mz_doQ (R := mz_r118) (as := [.int xa]) (rest := []) (r1 := some (.int 1)) (m1 := w) mz_t118 mz_v118 rfl rfl rfl rfl rfl ⟨?_, rfl⟩ ?_
        · refine mz_go 3 (c' := (if xa = 9 then 15 else 6, [some (.int xa)], [], w)) rfl ?_
          refine mz_ifF q1 ?_
          refine mz_go 3 (c' := (9, [some (.int xa)], [.int 5, .int 0, .int xa], w)) rfl ?_
          refine mz_doQ (R := mz_r121) (as := [.int xa, .int 0, .int 5]) (rest := []) (r1 := some (.int 1)) (m1 := w) mz_t121 mz_v121 rfl rfl rfl rfl rfl ((cs_in1 (m := w) (v := xa) (a := 0) (b := 5) (show ¬ (xa < 0) from (sm_in_lo q3)) (show ¬ (5 < xa) from (sm_in_hi q3))).deep (by decide)) ?_
          refine mz_go 3 (c' := (20, [some (.int xa)], [.int 1], w)) rfl ?_
          exact mz_ret rfl
        refine mz_go 4 (c' := (20, [some (.ref 0), some (.int xa)], [.ref 20], w)) rfl ?_
        refine mz_doQ (R := mz_r2) (as := [.ref 20]) (rest := []) (r1 := some (.int 0)) (m1 := w) mz_t2 mz_v2_20 rfl rfl rfl rfl rfl ⟨?_, rfl⟩ ?_
        · refine mz_go 2 (c' := (4, [some (.ref 20)], [.int (w 20 2)], w)) rfl ?_
          rw [h202]
          refine mz_go 1 (c' := (if (nI WW) ≤ 0 then 18 else 7, [some (.ref 20)], [], w)) rfl ?_
          refine mz_ifT (show ((nI WW) ≤ 0) from (sm_leN rfl rfl (show WW ≤ 0 by omega) (show 0 < 2 ^ 31 by omega))) ?_
          refine mz_go 1 (c' := (19, [some (.ref 20)], [.int 0], w)) rfl ?_
          exact mz_ret rfl
        refine mz_go 3 (c' := (28, [some (.ref 0), some (.int xa)], [.int 2, .ref 0], w)) rfl ?_
        refine mz_doQ (R := mz_r109) (as := [.ref 0, .int 2]) (rest := []) (r1 := some (.int (-1000002))) (m1 := mz_up w 64 2 ((w 64 2) + 1)) mz_t109 mz_v109_0 rfl rfl rfl rfl rfl ((cs_err2 (m := w)).deep (by decide)) ?_
        exact mz_ret rfl
      · obtain ⟨ve1, Ee1⟩ := xc_cof (m := w) hWW hHH h202 h203 xa
        refine ⟨ve1, w, ⟨?_, rfl⟩, ⟨fun _ _ => rfl, rfl, rfl⟩⟩
        refine mz_go 1 (c' := (1, [some (.ref 0), some (.int xa)], [.int xa], w)) rfl ?_
        refine mz_doQ (R := mz_r118) (as := [.int xa]) (rest := []) (r1 := some (.int 1)) (m1 := w) mz_t118 mz_v118 rfl rfl rfl rfl rfl ⟨?_, rfl⟩ ?_
        · refine mz_go 3 (c' := (if xa = 9 then 15 else 6, [some (.int xa)], [], w)) rfl ?_
          refine mz_ifF q1 ?_
          refine mz_go 3 (c' := (9, [some (.int xa)], [.int 5, .int 0, .int xa], w)) rfl ?_
          refine mz_doQ (R := mz_r121) (as := [.int xa, .int 0, .int 5]) (rest := []) (r1 := some (.int 1)) (m1 := w) mz_t121 mz_v121 rfl rfl rfl rfl rfl ((cs_in1 (m := w) (v := xa) (a := 0) (b := 5) (show ¬ (xa < 0) from (sm_in_lo q3)) (show ¬ (5 < xa) from (sm_in_hi q3))).deep (by decide)) ?_
          refine mz_go 3 (c' := (20, [some (.int xa)], [.int 1], w)) rfl ?_
          exact mz_ret rfl
        refine mz_go 4 (c' := (20, [some (.ref 0), some (.int xa)], [.ref 20], w)) rfl ?_
        refine mz_doQ (R := mz_r2) (as := [.ref 20]) (rest := []) (r1 := some (.int 1)) (m1 := w) mz_t2 mz_v2_20 rfl rfl rfl rfl rfl ⟨?_, rfl⟩ ?_
        · refine mz_go 2 (c' := (4, [some (.ref 20)], [.int (w 20 2)], w)) rfl ?_
          rw [h202]
          refine mz_go 1 (c' := (if (nI WW) ≤ 0 then 18 else 7, [some (.ref 20)], [], w)) rfl ?_
          refine mz_ifF (show ¬ ((nI WW) ≤ 0) from (sm_nleN rfl rfl (show 0 < WW by omega) (show WW < 2 ^ 31 by omega))) ?_
          refine mz_go 2 (c' := (11, [some (.ref 20)], [.int (w 20 3)], w)) rfl ?_
          rw [h203]
          refine mz_go 1 (c' := (if (nI HH) ≤ 0 then 18 else 14, [some (.ref 20)], [], w)) rfl ?_
          refine mz_ifF (show ¬ ((nI HH) ≤ 0) from (sm_nleN rfl rfl (show 0 < HH by omega) (show HH < 2 ^ 31 by omega))) ?_
          refine mz_go 2 (c' := (19, [some (.ref 20)], [.int 1], w)) rfl ?_
          exact mz_ret rfl
        refine mz_go 5 (c' := (40, [some (.ref 0), some (.int xa)], [.int xa, .ref 20], w)) rfl ?_
        refine mz_doQ (R := mz_r9) (as := [.ref 20, .int xa]) (rest := []) (r1 := some (.int ve1)) (m1 := w) mz_t9 mz_v9_20 rfl rfl rfl rfl rfl (Ee1.deep (by decide)) ?_
        exact mz_ret rfl
set_option maxHeartbeats 4000000 in
set_option maxRecDepth 100000 in
theorem xw_edge {w : mz_M} {N : Nat} (hw : sm_W w N) (hN : N ≤ 6) (h4 : w 2 4 = nI N) (hr5 : w 7 5 = 1 ∨ w 7 5 = 2) (hr80 : sm_N 80 (w 7 2)) {WW HH : Nat} (hWW : WW ≤ 6) (hHH : HH ≤ 6) (hWH : WW = 0 ↔ HH = 0) (h202 : w 20 2 = nI WW) (h203 : w 20 3 = nI HH) {T2 : Nat} (hT2 : w 16 2 = nI T2) (hV2 : T2 = 0 ∨ sm_wf T2 5 (w 17) (w 18)) (xa xb : Int32) : ∃ v m', mz_Me 100 mz_r88 [.ref 0, .int xa, .int xb] w (some (.int v)) m' ∧ sm_Sc w m' := by
  have hT60c := sm_T60 hV2
  by_cases q1 : WW ≤ 0
  · refine ⟨(-1000002), mz_up w 64 2 ((w 64 2) + 1), ⟨?_, rfl⟩, ⟨fun i hi => (by simp only [mz_up_ne (sm_scne hi (r := 64) rfl)]), rfl, rfl⟩⟩
    refine mz_go 3 (c' := (7, [some (.ref 0), some (.int xa), some (.int xb)], [.ref 20], w)) rfl ?_
    refine mz_doQ (R := mz_r2) (as := [.ref 20]) (rest := []) (r1 := some (.int 0)) (m1 := w) mz_t2 mz_v2_20 rfl rfl rfl rfl rfl ⟨?_, rfl⟩ ?_
    · refine mz_go 2 (c' := (4, [some (.ref 20)], [.int (w 20 2)], w)) rfl ?_
      rw [h202]
      refine mz_go 1 (c' := (if (nI WW) ≤ 0 then 18 else 7, [some (.ref 20)], [], w)) rfl ?_
      refine mz_ifT (show ((nI WW) ≤ 0) from (sm_leN rfl rfl (show WW ≤ 0 by omega) (show 0 < 2 ^ 31 by omega))) ?_
      refine mz_go 1 (c' := (19, [some (.ref 20)], [.int 0], w)) rfl ?_
      exact mz_ret rfl
    refine mz_go 3 (c' := (15, [some (.ref 0), some (.int xa), some (.int xb)], [.int 2, .ref 0], w)) rfl ?_
    refine mz_doQ (R := mz_r109) (as := [.ref 0, .int 2]) (rest := []) (r1 := some (.int (-1000002))) (m1 := mz_up w 64 2 ((w 64 2) + 1)) mz_t109 mz_v109_0 rfl rfl rfl rfl rfl ((cs_err2 (m := w)).deep (by decide)) ?_
    exact mz_ret rfl
  · obtain ⟨ve1, Ee1⟩ := xc_has (m := w) hWW hHH h202 h203 xa xb
    by_cases q2 : ve1 = 0
    · refine ⟨(-1000001), mz_up w 64 1 ((w 64 1) + 1), ⟨?_, rfl⟩, ⟨fun i hi => (by simp only [mz_up_ne (sm_scne hi (r := 64) rfl)]), rfl, rfl⟩⟩
      refine mz_go 3 (c' := (7, [some (.ref 0), some (.int xa), some (.int xb)], [.ref 20], w)) rfl ?_
      refine mz_doQ (R := mz_r2) (as := [.ref 20]) (rest := []) (r1 := some (.int 1)) (m1 := w) mz_t2 mz_v2_20 rfl rfl rfl rfl rfl ⟨?_, rfl⟩ ?_
      · refine mz_go 2 (c' := (4, [some (.ref 20)], [.int (w 20 2)], w)) rfl ?_
        rw [h202]
        refine mz_go 1 (c' := (if (nI WW) ≤ 0 then 18 else 7, [some (.ref 20)], [], w)) rfl ?_
        refine mz_ifF (show ¬ ((nI WW) ≤ 0) from (sm_nleN rfl rfl (show 0 < WW by omega) (show WW < 2 ^ 31 by omega))) ?_
        refine mz_go 2 (c' := (11, [some (.ref 20)], [.int (w 20 3)], w)) rfl ?_
        rw [h203]
        refine mz_go 1 (c' := (if (nI HH) ≤ 0 then 18 else 14, [some (.ref 20)], [], w)) rfl ?_
        refine mz_ifF (show ¬ ((nI HH) ≤ 0) from (sm_nleN rfl rfl (show 0 < HH by omega) (show HH < 2 ^ 31 by omega))) ?_
        refine mz_go 2 (c' := (19, [some (.ref 20)], [.int 1], w)) rfl ?_
        exact mz_ret rfl
      refine mz_go 6 (c' := (28, [some (.ref 0), some (.int xa), some (.int xb)], [.int xb, .int xa, .ref 20], w)) rfl ?_
      refine mz_doQ (R := mz_r4) (as := [.ref 20, .int xa, .int xb]) (rest := []) (r1 := some (.int ve1)) (m1 := w) mz_t4 mz_v4_20 rfl rfl rfl rfl rfl (Ee1.deep (by decide)) ?_
      refine mz_go 1 (c' := (if ve1 = 0 then 34 else 40, [some (.ref 0), some (.int xa), some (.int xb)], [], w)) rfl ?_
      refine mz_ifT q2 ?_
      refine mz_go 2 (c' := (36, [some (.ref 0), some (.int xa), some (.int xb)], [.int 1, .ref 0], w)) rfl ?_
      refine mz_doQ (R := mz_r109) (as := [.ref 0, .int 1]) (rest := []) (r1 := some (.int (-1000001))) (m1 := mz_up w 64 1 ((w 64 1) + 1)) mz_t109 mz_v109_0 rfl rfl rfl rfl rfl ((cs_err1 (m := w)).deep (by decide)) ?_
      exact mz_ret rfl
    · obtain ⟨ve2, Ee2⟩ := xc_edg (m := w) hWW hHH h202 h203 xa xb
      by_cases q3 : ve2 = 0
      · refine ⟨0, w, ⟨?_, rfl⟩, ⟨fun _ _ => rfl, rfl, rfl⟩⟩
        refine mz_go 3 (c' := (7, [some (.ref 0), some (.int xa), some (.int xb)], [.ref 20], w)) rfl ?_
        refine mz_doQ (R := mz_r2) (as := [.ref 20]) (rest := []) (r1 := some (.int 1)) (m1 := w) mz_t2 mz_v2_20 rfl rfl rfl rfl rfl ⟨?_, rfl⟩ ?_
        · refine mz_go 2 (c' := (4, [some (.ref 20)], [.int (w 20 2)], w)) rfl ?_
          rw [h202]
          refine mz_go 1 (c' := (if (nI WW) ≤ 0 then 18 else 7, [some (.ref 20)], [], w)) rfl ?_
          refine mz_ifF (show ¬ ((nI WW) ≤ 0) from (sm_nleN rfl rfl (show 0 < WW by omega) (show WW < 2 ^ 31 by omega))) ?_
          refine mz_go 2 (c' := (11, [some (.ref 20)], [.int (w 20 3)], w)) rfl ?_
          rw [h203]
          refine mz_go 1 (c' := (if (nI HH) ≤ 0 then 18 else 14, [some (.ref 20)], [], w)) rfl ?_
          refine mz_ifF (show ¬ ((nI HH) ≤ 0) from (sm_nleN rfl rfl (show 0 < HH by omega) (show HH < 2 ^ 31 by omega))) ?_
          refine mz_go 2 (c' := (19, [some (.ref 20)], [.int 1], w)) rfl ?_
          exact mz_ret rfl
        refine mz_go 6 (c' := (28, [some (.ref 0), some (.int xa), some (.int xb)], [.int xb, .int xa, .ref 20], w)) rfl ?_
        refine mz_doQ (R := mz_r4) (as := [.ref 20, .int xa, .int xb]) (rest := []) (r1 := some (.int ve1)) (m1 := w) mz_t4 mz_v4_20 rfl rfl rfl rfl rfl (Ee1.deep (by decide)) ?_
        refine mz_go 1 (c' := (if ve1 = 0 then 34 else 40, [some (.ref 0), some (.int xa), some (.int xb)], [], w)) rfl ?_
        refine mz_ifF q2 ?_
        refine mz_go 5 (c' := (49, [some (.ref 0), some (.int xa), some (.int xb)], [.int xb, .int xa, .ref 20], w)) rfl ?_
        refine mz_doQ (R := mz_r12) (as := [.ref 20, .int xa, .int xb]) (rest := []) (r1 := some (.int ve2)) (m1 := w) mz_t12 mz_v12_20 rfl rfl rfl rfl rfl (Ee2.deep (by decide)) ?_
        refine mz_go 1 (c' := (if ve2 = 0 then 59 else 55, [some (.ref 0), some (.int xa), some (.int xb)], [], w)) rfl ?_
        refine mz_ifT q3 ?_
        refine mz_go 1 (c' := (60, [some (.ref 0), some (.int xa), some (.int xb)], [.int 0], w)) rfl ?_
        exact mz_ret rfl
      · refine ⟨1, w, ⟨?_, rfl⟩, ⟨fun _ _ => rfl, rfl, rfl⟩⟩
        refine mz_go 3 (c' := (7, [some (.ref 0), some (.int xa), some (.int xb)], [.ref 20], w)) rfl ?_
        refine mz_doQ (R := mz_r2) (as := [.ref 20]) (rest := []) (r1 := some (.int 1)) (m1 := w) mz_t2 mz_v2_20 rfl rfl rfl rfl rfl ⟨?_, rfl⟩ ?_
        · refine mz_go 2 (c' := (4, [some (.ref 20)], [.int (w 20 2)], w)) rfl ?_
          rw [h202]
          refine mz_go 1 (c' := (if (nI WW) ≤ 0 then 18 else 7, [some (.ref 20)], [], w)) rfl ?_
          refine mz_ifF (show ¬ ((nI WW) ≤ 0) from (sm_nleN rfl rfl (show 0 < WW by omega) (show WW < 2 ^ 31 by omega))) ?_
          refine mz_go 2 (c' := (11, [some (.ref 20)], [.int (w 20 3)], w)) rfl ?_
          rw [h203]
          refine mz_go 1 (c' := (if (nI HH) ≤ 0 then 18 else 14, [some (.ref 20)], [], w)) rfl ?_
          refine mz_ifF (show ¬ ((nI HH) ≤ 0) from (sm_nleN rfl rfl (show 0 < HH by omega) (show HH < 2 ^ 31 by omega))) ?_
          refine mz_go 2 (c' := (19, [some (.ref 20)], [.int 1], w)) rfl ?_
          exact mz_ret rfl
        refine mz_go 6 (c' := (28, [some (.ref 0), some (.int xa), some (.int xb)], [.int xb, .int xa, .ref 20], w)) rfl ?_
        refine mz_doQ (R := mz_r4) (as := [.ref 20, .int xa, .int xb]) (rest := []) (r1 := some (.int ve1)) (m1 := w) mz_t4 mz_v4_20 rfl rfl rfl rfl rfl (Ee1.deep (by decide)) ?_
        refine mz_go 1 (c' := (if ve1 = 0 then 34 else 40, [some (.ref 0), some (.int xa), some (.int xb)], [], w)) rfl ?_
        refine mz_ifF q2 ?_
        refine mz_go 5 (c' := (49, [some (.ref 0), some (.int xa), some (.int xb)], [.int xb, .int xa, .ref 20], w)) rfl ?_
        refine mz_doQ (R := mz_r12) (as := [.ref 20, .int xa, .int xb]) (rest := []) (r1 := some (.int ve2)) (m1 := w) mz_t12 mz_v12_20 rfl rfl rfl rfl rfl (Ee2.deep (by decide)) ?_
        refine mz_go 1 (c' := (if ve2 = 0 then 59 else 55, [some (.ref 0), some (.int xa), some (.int xb)], [], w)) rfl ?_
        refine mz_ifF q3 ?_
        refine mz_go 2 (c' := (60, [some (.ref 0), some (.int xa), some (.int xb)], [.int 1], w)) rfl ?_
        exact mz_ret rfl
set_option maxHeartbeats 4000000 in
set_option maxRecDepth 100000 in
theorem xw_fink {w : mz_M} {N : Nat} (hw : sm_W w N) (hN : N ≤ 6) (h4 : w 2 4 = nI N) (hr5 : w 7 5 = 1 ∨ w 7 5 = 2) (hr80 : sm_N 80 (w 7 2)) {WW HH : Nat} (hWW : WW ≤ 6) (hHH : HH ≤ 6) (hWH : WW = 0 ↔ HH = 0) (h202 : w 20 2 = nI WW) (h203 : w 20 3 = nI HH) {T2 : Nat} (hT2 : w 16 2 = nI T2) (hV2 : T2 = 0 ∨ sm_wf T2 5 (w 17) (w 18)) (x2 x4 x5 : Int32) (HX : ∀ (x6 : Int32) (x3 : Int32) (x7 : Option Value) (x8 : Option Value) (x9 : Option Value) (r50 : Nat → Int32) (r51 : Nat → Int32) (r52 : Nat → Int32), ∃ v s50 s51 s52, mz_Ex 90 mz_k110 (159, [some (.ref 0), some (.ref 20), some (.int x2), some (.int x3), some (.int x4), some (.int x5), some (.int x6), x7, x8, x9], [], mz_set (mz_set (mz_set w 50 r50) 51 r51) 52 r52) (some (.int v), mz_set (mz_set (mz_set w 50 s50) 51 s51) 52 s52)) : ∀ j k : Nat, k + j = 4 → ∀ (x3 : Int32) (x7 : Option Value) (x8 : Option Value) (x9 : Option Value) (r50 : Nat → Int32) (r51 : Nat → Int32) (r52 : Nat → Int32), ∃ v s50 s51 s52, mz_Ex 90 mz_k110 (44, [some (.ref 0), some (.ref 20), some (.int x2), some (.int x3), some (.int x4), some (.int x5), some (.int (nI k)), x7, x8, x9], [], mz_set (mz_set (mz_set w 50 r50) 51 r51) 52 r52) (some (.int v), mz_set (mz_set (mz_set w 50 s50) 51 s51) 52 s52) := by
  have hT60c := sm_T60 hV2
  intro j
  induction j with
  | zero =>
    intro k hk x3 x7 x8 x9 r50 r51 r52
    rw [show k = 4 by omega]
    obtain ⟨vr, s50, s51, s52, hr⟩ := HX (nI 4) x3 x7 x8 x9 ((mz_set (mz_set (mz_set w 50 r50) 51 r51) 52 r52) 50) ((mz_set (mz_set (mz_set w 50 r50) 51 r51) 52 r52) 51) ((mz_set (mz_set (mz_set w 50 r50) 51 r51) 52 r52) 52)
    have hm : mz_set (mz_set (mz_set w 50 r50) 51 r51) 52 r52 = mz_set (mz_set (mz_set w 50 ((mz_set (mz_set (mz_set w 50 r50) 51 r51) 52 r52) 50)) 51 ((mz_set (mz_set (mz_set w 50 r50) 51 r51) 52 r52) 51)) 52 ((mz_set (mz_set (mz_set w 50 r50) 51 r51) 52 r52) 52) := sm_of3 (fun i h1 h2 h3 => by simp only [mz_set_ne h1, mz_set_ne h2, mz_set_ne h3])
    rw [← hm] at hr
    refine ⟨vr, s50, s51, s52, ?_⟩
    refine mz_go 3 (c' := (if 3 < (nI 4) then 159 else 50, [some (.ref 0), some (.ref 20), some (.int x2), some (.int x3), some (.int x4), some (.int x5), some (.int (nI 4)), x7, x8, x9], [], mz_set (mz_set (mz_set w 50 r50) 51 r51) 52 r52)) rfl ?_
    refine mz_ifT (show (3 < (nI 4)) from (sm_ltN rfl rfl (show 3 < 4 by omega) (show 4 < 2 ^ 31 by omega))) ?_
    exact hr
  | succ j ih =>
    intro k hk x3 x7 x8 x9 r50 r51 r52
    obtain ⟨ve1, Ee1⟩ := xc_edg (m := mz_set (mz_set (mz_set w 50 r50) 51 r51) 52 r52) hWW hHH h202 h203 x5 x4
    by_cases q1 : ve1 = 0
    · obtain ⟨vr, s50, s51, s52, hr⟩ := HX (nI k) x3 x7 x8 x9 ((mz_set (mz_set (mz_set w 50 r50) 51 r51) 52 r52) 50) ((mz_set (mz_set (mz_set w 50 r50) 51 r51) 52 r52) 51) ((mz_set (mz_set (mz_set w 50 r50) 51 r51) 52 r52) 52)
      have hm : mz_set (mz_set (mz_set w 50 r50) 51 r51) 52 r52 = mz_set (mz_set (mz_set w 50 ((mz_set (mz_set (mz_set w 50 r50) 51 r51) 52 r52) 50)) 51 ((mz_set (mz_set (mz_set w 50 r50) 51 r51) 52 r52) 51)) 52 ((mz_set (mz_set (mz_set w 50 r50) 51 r51) 52 r52) 52) := sm_of3 (fun i h1 h2 h3 => by simp only [mz_set_ne h1, mz_set_ne h2, mz_set_ne h3])
      rw [← hm] at hr
      refine ⟨vr, s50, s51, s52, ?_⟩
      refine mz_go 3 (c' := (if 3 < (nI k) then 159 else 50, [some (.ref 0), some (.ref 20), some (.int x2), some (.int x3), some (.int x4), some (.int x5), some (.int (nI k)), x7, x8, x9], [], mz_set (mz_set (mz_set w 50 r50) 51 r51) 52 r52)) rfl ?_
      refine mz_ifF (show ¬ (3 < (nI k)) from (sm_nltN rfl rfl (show k ≤ 3 by omega) (show 3 < 2 ^ 31 by omega))) ?_
      refine mz_go 3 (c' := (55, [some (.ref 0), some (.ref 20), some (.int x2), some (.int x3), some (.int x4), some (.int x5), some (.int (nI k)), x7, x8, x9], [.int x4, .int x5, .ref 20], mz_set (mz_set (mz_set w 50 r50) 51 r51) 52 r52)) rfl ?_
      refine mz_doQ (R := mz_r12) (as := [.ref 20, .int x5, .int x4]) (rest := []) (r1 := some (.int ve1)) (m1 := mz_set (mz_set (mz_set w 50 r50) 51 r51) 52 r52) mz_t12 mz_v12_20 rfl rfl rfl rfl rfl (Ee1.deep (by decide)) ?_
      refine mz_go 1 (c' := (if ve1 = 0 then 159 else 61, [some (.ref 0), some (.ref 20), some (.int x2), some (.int x3), some (.int x4), some (.int x5), some (.int (nI k)), x7, x8, x9], [], mz_set (mz_set (mz_set w 50 r50) 51 r51) 52 r52)) rfl ?_
      refine mz_ifT q1 ?_
      exact hr
    · obtain ⟨ve2, Ee2⟩ := xc_col (m := mz_set (mz_set (mz_set w 50 r50) 51 r51) 52 r52) hWW hHH h202 h203 x5 x4
      by_cases q2 : (sm_bI (sm_plc (((w 20 0) + (x5 * (w 20 4))) + (((nI k) - (nI k) / 2 * 2) * x2)) (((w 20 1) + (x4 * (w 20 4))) + (((nI k) / 2) * x2)))) = 0
      · obtain ⟨vr, s50, s51, s52, hr⟩ := ih (k + 1) (by omega) x3 (some (.int (((w 20 0) + (x5 * (w 20 4))) + (((nI k) - (nI k) / 2 * 2) * x2)))) (some (.int (((w 20 1) + (x4 * (w 20 4))) + (((nI k) / 2) * x2)))) (some (.int ve2)) ((mz_set (mz_set (mz_set w 50 r50) 51 r51) 52 r52) 50) ((mz_set (mz_set (mz_set w 50 r50) 51 r51) 52 r52) 51) ((mz_set (mz_set (mz_set w 50 r50) 51 r51) 52 r52) 52)
        rw [nI_succ k] at hr
        have hm : mz_set (mz_set (mz_set w 50 r50) 51 r51) 52 r52 = mz_set (mz_set (mz_set w 50 ((mz_set (mz_set (mz_set w 50 r50) 51 r51) 52 r52) 50)) 51 ((mz_set (mz_set (mz_set w 50 r50) 51 r51) 52 r52) 51)) 52 ((mz_set (mz_set (mz_set w 50 r50) 51 r51) 52 r52) 52) := sm_of3 (fun i h1 h2 h3 => by simp only [mz_set_ne h1, mz_set_ne h2, mz_set_ne h3])
        rw [← hm] at hr
        refine ⟨vr, s50, s51, s52, ?_⟩
        refine mz_go 3 (c' := (if 3 < (nI k) then 159 else 50, [some (.ref 0), some (.ref 20), some (.int x2), some (.int x3), some (.int x4), some (.int x5), some (.int (nI k)), x7, x8, x9], [], mz_set (mz_set (mz_set w 50 r50) 51 r51) 52 r52)) rfl ?_
        refine mz_ifF (show ¬ (3 < (nI k)) from (sm_nltN rfl rfl (show k ≤ 3 by omega) (show 3 < 2 ^ 31 by omega))) ?_
        refine mz_go 3 (c' := (55, [some (.ref 0), some (.ref 20), some (.int x2), some (.int x3), some (.int x4), some (.int x5), some (.int (nI k)), x7, x8, x9], [.int x4, .int x5, .ref 20], mz_set (mz_set (mz_set w 50 r50) 51 r51) 52 r52)) rfl ?_
        refine mz_doQ (R := mz_r12) (as := [.ref 20, .int x5, .int x4]) (rest := []) (r1 := some (.int ve1)) (m1 := mz_set (mz_set (mz_set w 50 r50) 51 r51) 52 r52) mz_t12 mz_v12_20 rfl rfl rfl rfl rfl (Ee1.deep (by decide)) ?_
        refine mz_go 1 (c' := (if ve1 = 0 then 159 else 61, [some (.ref 0), some (.ref 20), some (.int x2), some (.int x3), some (.int x4), some (.int x5), some (.int (nI k)), x7, x8, x9], [], mz_set (mz_set (mz_set w 50 r50) 51 r51) 52 r52)) rfl ?_
        refine mz_ifF q1 ?_
        refine mz_go 24 (c' := (98, [some (.ref 0), some (.ref 20), some (.int x2), some (.int x3), some (.int x4), some (.int x5), some (.int (nI k)), some (.int (((w 20 0) + (x5 * (w 20 4))) + (((nI k) - (nI k) / 2 * 2) * x2))), x8, x9], [.int ((nI k) / 2), .int ((w 20 1) + (x4 * (w 20 4)))], mz_set (mz_set (mz_set w 50 r50) 51 r51) 52 r52)) rfl ?_
        refine mz_go 7 (c' := (108, [some (.ref 0), some (.ref 20), some (.int x2), some (.int x3), some (.int x4), some (.int x5), some (.int (nI k)), some (.int (((w 20 0) + (x5 * (w 20 4))) + (((nI k) - (nI k) / 2 * 2) * x2))), some (.int (((w 20 1) + (x4 * (w 20 4))) + (((nI k) / 2) * x2))), x9], [.int x4, .int x5, .ref 20], mz_set (mz_set (mz_set w 50 r50) 51 r51) 52 r52)) rfl ?_
        refine mz_doQ (R := mz_r7) (as := [.ref 20, .int x5, .int x4]) (rest := []) (r1 := some (.int ve2)) (m1 := mz_set (mz_set (mz_set w 50 r50) 51 r51) 52 r52) mz_t7 mz_v7_20 rfl rfl rfl rfl rfl (Ee2.deep (by decide)) ?_
        refine mz_go 3 (c' := (117, [some (.ref 0), some (.ref 20), some (.int x2), some (.int x3), some (.int x4), some (.int x5), some (.int (nI k)), some (.int (((w 20 0) + (x5 * (w 20 4))) + (((nI k) - (nI k) / 2 * 2) * x2))), some (.int (((w 20 1) + (x4 * (w 20 4))) + (((nI k) / 2) * x2))), some (.int ve2)], [.int (((w 20 1) + (x4 * (w 20 4))) + (((nI k) / 2) * x2)), .int (((w 20 0) + (x5 * (w 20 4))) + (((nI k) - (nI k) / 2 * 2) * x2))], mz_set (mz_set (mz_set w 50 r50) 51 r51) 52 r52)) rfl ?_
        refine mz_doQ (R := mz_r116) (as := [.int (((w 20 0) + (x5 * (w 20 4))) + (((nI k) - (nI k) / 2 * 2) * x2)), .int (((w 20 1) + (x4 * (w 20 4))) + (((nI k) / 2) * x2))]) (rest := []) (r1 := some (.int (sm_bI (sm_plc (((w 20 0) + (x5 * (w 20 4))) + (((nI k) - (nI k) / 2 * 2) * x2)) (((w 20 1) + (x4 * (w 20 4))) + (((nI k) / 2) * x2)))))) (m1 := mz_set (mz_set (mz_set w 50 r50) 51 r51) 52 r52) mz_t116 mz_v116 rfl rfl rfl rfl rfl ((cs_plc (m := mz_set (mz_set (mz_set w 50 r50) 51 r51) 52 r52) (((w 20 0) + (x5 * (w 20 4))) + (((nI k) - (nI k) / 2 * 2) * x2)) (((w 20 1) + (x4 * (w 20 4))) + (((nI k) / 2) * x2))).deep (by decide)) ?_
        refine mz_go 1 (c' := (if (sm_bI (sm_plc (((w 20 0) + (x5 * (w 20 4))) + (((nI k) - (nI k) / 2 * 2) * x2)) (((w 20 1) + (x4 * (w 20 4))) + (((nI k) / 2) * x2)))) = 0 then 153 else 123, [some (.ref 0), some (.ref 20), some (.int x2), some (.int x3), some (.int x4), some (.int x5), some (.int (nI k)), some (.int (((w 20 0) + (x5 * (w 20 4))) + (((nI k) - (nI k) / 2 * 2) * x2))), some (.int (((w 20 1) + (x4 * (w 20 4))) + (((nI k) / 2) * x2))), some (.int ve2)], [], mz_set (mz_set (mz_set w 50 r50) 51 r51) 52 r52)) rfl ?_
        refine mz_ifT q2 ?_
        refine mz_go 2 (c' := (44, [some (.ref 0), some (.ref 20), some (.int x2), some (.int x3), some (.int x4), some (.int x5), some (.int ((nI k) + 1)), some (.int (((w 20 0) + (x5 * (w 20 4))) + (((nI k) - (nI k) / 2 * 2) * x2))), some (.int (((w 20 1) + (x4 * (w 20 4))) + (((nI k) / 2) * x2))), some (.int ve2)], [], mz_set (mz_set (mz_set w 50 r50) 51 r51) 52 r52)) rfl ?_
        exact hr
      · obtain ⟨re3, fe3, ge3, le3, Ee3⟩ := cw_end (m := mz_set (mz_set (mz_set w 50 r50) 51 r51) 52 r52) (w := w) (sm_Wl_s (by decide) (sm_Wl_s (by decide) (sm_Wl_s (by decide) (sm_Wl_r w)))) hw (hr5.imp id Or.inl) hr80 (sm_B_of (sm_plc_of q2).1.1 (sm_plc_of q2).1.2) (sm_B_of (sm_plc_of q2).2.1 (sm_plc_of q2).2.2) 0 0
        by_cases q3 : (sm_end w (w 7 5) (((w 20 0) + (x5 * (w 20 4))) + (((nI k) - (nI k) / 2 * 2) * x2)) (((w 20 1) + (x4 * (w 20 4))) + (((nI k) / 2) * x2)) 0 0) = ve2
        · obtain ⟨vr, s50, s51, s52, hr⟩ := ih (k + 1) (by omega) x3 (some (.int (((w 20 0) + (x5 * (w 20 4))) + (((nI k) - (nI k) / 2 * 2) * x2)))) (some (.int (((w 20 1) + (x4 * (w 20 4))) + (((nI k) / 2) * x2)))) (some (.int ve2)) ((mz_set (mz_set (mz_set (mz_set (mz_set (mz_set w 50 r50) 51 r51) 52 r52) 50 re3) 51 fe3) 52 ge3) 50) ((mz_set (mz_set (mz_set (mz_set (mz_set (mz_set w 50 r50) 51 r51) 52 r52) 50 re3) 51 fe3) 52 ge3) 51) ((mz_set (mz_set (mz_set (mz_set (mz_set (mz_set w 50 r50) 51 r51) 52 r52) 50 re3) 51 fe3) 52 ge3) 52)
          rw [nI_succ k] at hr
          have hm : mz_set (mz_set (mz_set (mz_set (mz_set (mz_set w 50 r50) 51 r51) 52 r52) 50 re3) 51 fe3) 52 ge3 = mz_set (mz_set (mz_set w 50 ((mz_set (mz_set (mz_set (mz_set (mz_set (mz_set w 50 r50) 51 r51) 52 r52) 50 re3) 51 fe3) 52 ge3) 50)) 51 ((mz_set (mz_set (mz_set (mz_set (mz_set (mz_set w 50 r50) 51 r51) 52 r52) 50 re3) 51 fe3) 52 ge3) 51)) 52 ((mz_set (mz_set (mz_set (mz_set (mz_set (mz_set w 50 r50) 51 r51) 52 r52) 50 re3) 51 fe3) 52 ge3) 52) := sm_of3 (fun i h1 h2 h3 => by simp only [mz_set_ne h1, mz_set_ne h2, mz_set_ne h3])
          rw [← hm] at hr
          refine ⟨vr, s50, s51, s52, ?_⟩
          refine mz_go 3 (c' := (if 3 < (nI k) then 159 else 50, [some (.ref 0), some (.ref 20), some (.int x2), some (.int x3), some (.int x4), some (.int x5), some (.int (nI k)), x7, x8, x9], [], mz_set (mz_set (mz_set w 50 r50) 51 r51) 52 r52)) rfl ?_
          refine mz_ifF (show ¬ (3 < (nI k)) from (sm_nltN rfl rfl (show k ≤ 3 by omega) (show 3 < 2 ^ 31 by omega))) ?_
          refine mz_go 3 (c' := (55, [some (.ref 0), some (.ref 20), some (.int x2), some (.int x3), some (.int x4), some (.int x5), some (.int (nI k)), x7, x8, x9], [.int x4, .int x5, .ref 20], mz_set (mz_set (mz_set w 50 r50) 51 r51) 52 r52)) rfl ?_
          refine mz_doQ (R := mz_r12) (as := [.ref 20, .int x5, .int x4]) (rest := []) (r1 := some (.int ve1)) (m1 := mz_set (mz_set (mz_set w 50 r50) 51 r51) 52 r52) mz_t12 mz_v12_20 rfl rfl rfl rfl rfl (Ee1.deep (by decide)) ?_
          refine mz_go 1 (c' := (if ve1 = 0 then 159 else 61, [some (.ref 0), some (.ref 20), some (.int x2), some (.int x3), some (.int x4), some (.int x5), some (.int (nI k)), x7, x8, x9], [], mz_set (mz_set (mz_set w 50 r50) 51 r51) 52 r52)) rfl ?_
          refine mz_ifF q1 ?_
          refine mz_go 24 (c' := (98, [some (.ref 0), some (.ref 20), some (.int x2), some (.int x3), some (.int x4), some (.int x5), some (.int (nI k)), some (.int (((w 20 0) + (x5 * (w 20 4))) + (((nI k) - (nI k) / 2 * 2) * x2))), x8, x9], [.int ((nI k) / 2), .int ((w 20 1) + (x4 * (w 20 4)))], mz_set (mz_set (mz_set w 50 r50) 51 r51) 52 r52)) rfl ?_
          refine mz_go 7 (c' := (108, [some (.ref 0), some (.ref 20), some (.int x2), some (.int x3), some (.int x4), some (.int x5), some (.int (nI k)), some (.int (((w 20 0) + (x5 * (w 20 4))) + (((nI k) - (nI k) / 2 * 2) * x2))), some (.int (((w 20 1) + (x4 * (w 20 4))) + (((nI k) / 2) * x2))), x9], [.int x4, .int x5, .ref 20], mz_set (mz_set (mz_set w 50 r50) 51 r51) 52 r52)) rfl ?_
          refine mz_doQ (R := mz_r7) (as := [.ref 20, .int x5, .int x4]) (rest := []) (r1 := some (.int ve2)) (m1 := mz_set (mz_set (mz_set w 50 r50) 51 r51) 52 r52) mz_t7 mz_v7_20 rfl rfl rfl rfl rfl (Ee2.deep (by decide)) ?_
          refine mz_go 3 (c' := (117, [some (.ref 0), some (.ref 20), some (.int x2), some (.int x3), some (.int x4), some (.int x5), some (.int (nI k)), some (.int (((w 20 0) + (x5 * (w 20 4))) + (((nI k) - (nI k) / 2 * 2) * x2))), some (.int (((w 20 1) + (x4 * (w 20 4))) + (((nI k) / 2) * x2))), some (.int ve2)], [.int (((w 20 1) + (x4 * (w 20 4))) + (((nI k) / 2) * x2)), .int (((w 20 0) + (x5 * (w 20 4))) + (((nI k) - (nI k) / 2 * 2) * x2))], mz_set (mz_set (mz_set w 50 r50) 51 r51) 52 r52)) rfl ?_
          refine mz_doQ (R := mz_r116) (as := [.int (((w 20 0) + (x5 * (w 20 4))) + (((nI k) - (nI k) / 2 * 2) * x2)), .int (((w 20 1) + (x4 * (w 20 4))) + (((nI k) / 2) * x2))]) (rest := []) (r1 := some (.int 1)) (m1 := mz_set (mz_set (mz_set w 50 r50) 51 r51) 52 r52) mz_t116 mz_v116 rfl rfl rfl rfl rfl ⟨?_, rfl⟩ ?_
          · refine mz_go 3 (c' := (5, [some (.int (((w 20 0) + (x5 * (w 20 4))) + (((nI k) - (nI k) / 2 * 2) * x2))), some (.int (((w 20 1) + (x4 * (w 20 4))) + (((nI k) / 2) * x2)))], [.int 100, .int (-100), .int (((w 20 0) + (x5 * (w 20 4))) + (((nI k) - (nI k) / 2 * 2) * x2))], mz_set (mz_set (mz_set w 50 r50) 51 r51) 52 r52)) rfl ?_
            refine mz_doQ (R := mz_r121) (as := [.int (((w 20 0) + (x5 * (w 20 4))) + (((nI k) - (nI k) / 2 * 2) * x2)), .int (-100), .int 100]) (rest := []) (r1 := some (.int 1)) (m1 := mz_set (mz_set (mz_set w 50 r50) 51 r51) 52 r52) mz_t121 mz_v121 rfl rfl rfl rfl rfl ((cs_in1 (m := mz_set (mz_set (mz_set w 50 r50) 51 r51) 52 r52) (v := ((w 20 0) + (x5 * (w 20 4))) + (((nI k) - (nI k) / 2 * 2) * x2)) (a := (-100)) (b := 100) (show ¬ ((((w 20 0) + (x5 * (w 20 4))) + (((nI k) - (nI k) / 2 * 2) * x2)) < (-100)) from (sm_plc_of q2).1.1) (show ¬ (100 < (((w 20 0) + (x5 * (w 20 4))) + (((nI k) - (nI k) / 2 * 2) * x2))) from (sm_plc_of q2).1.2)).deep (by decide)) ?_
            refine mz_go 4 (c' := (16, [some (.int (((w 20 0) + (x5 * (w 20 4))) + (((nI k) - (nI k) / 2 * 2) * x2))), some (.int (((w 20 1) + (x4 * (w 20 4))) + (((nI k) / 2) * x2)))], [.int 100, .int (-100), .int (((w 20 1) + (x4 * (w 20 4))) + (((nI k) / 2) * x2))], mz_set (mz_set (mz_set w 50 r50) 51 r51) 52 r52)) rfl ?_
            refine mz_doQ (R := mz_r121) (as := [.int (((w 20 1) + (x4 * (w 20 4))) + (((nI k) / 2) * x2)), .int (-100), .int 100]) (rest := []) (r1 := some (.int 1)) (m1 := mz_set (mz_set (mz_set w 50 r50) 51 r51) 52 r52) mz_t121 mz_v121 rfl rfl rfl rfl rfl ((cs_in1 (m := mz_set (mz_set (mz_set w 50 r50) 51 r51) 52 r52) (v := ((w 20 1) + (x4 * (w 20 4))) + (((nI k) / 2) * x2)) (a := (-100)) (b := 100) (show ¬ ((((w 20 1) + (x4 * (w 20 4))) + (((nI k) / 2) * x2)) < (-100)) from (sm_plc_of q2).2.1) (show ¬ (100 < (((w 20 1) + (x4 * (w 20 4))) + (((nI k) / 2) * x2))) from (sm_plc_of q2).2.2)).deep (by decide)) ?_
            refine mz_go 3 (c' := (27, [some (.int (((w 20 0) + (x5 * (w 20 4))) + (((nI k) - (nI k) / 2 * 2) * x2))), some (.int (((w 20 1) + (x4 * (w 20 4))) + (((nI k) / 2) * x2)))], [.int 1], mz_set (mz_set (mz_set w 50 r50) 51 r51) 52 r52)) rfl ?_
            exact mz_ret rfl
          refine mz_go 12 (c' := (142, [some (.ref 0), some (.ref 20), some (.int x2), some (.int x3), some (.int x4), some (.int x5), some (.int (nI k)), some (.int (((w 20 0) + (x5 * (w 20 4))) + (((nI k) - (nI k) / 2 * 2) * x2))), some (.int (((w 20 1) + (x4 * (w 20 4))) + (((nI k) / 2) * x2))), some (.int ve2)], [.int (w 7 5), .int 0, .int 0, .int (((w 20 1) + (x4 * (w 20 4))) + (((nI k) / 2) * x2)), .int (((w 20 0) + (x5 * (w 20 4))) + (((nI k) - (nI k) / 2 * 2) * x2)), .ref 49], mz_set (mz_set (mz_set w 50 r50) 51 r51) 52 r52)) rfl ?_
          refine mz_doQ (R := mz_r36) (as := [.ref 49, .int (((w 20 0) + (x5 * (w 20 4))) + (((nI k) - (nI k) / 2 * 2) * x2)), .int (((w 20 1) + (x4 * (w 20 4))) + (((nI k) / 2) * x2)), .int 0, .int 0, .int (w 7 5)]) (rest := []) (r1 := some (.int (sm_end w (w 7 5) (((w 20 0) + (x5 * (w 20 4))) + (((nI k) - (nI k) / 2 * 2) * x2)) (((w 20 1) + (x4 * (w 20 4))) + (((nI k) / 2) * x2)) 0 0))) (m1 := mz_set (mz_set (mz_set (mz_set (mz_set (mz_set w 50 r50) 51 r51) 52 r52) 50 re3) 51 fe3) 52 ge3) mz_t36 mz_v36_49 rfl rfl rfl rfl rfl (Ee3.deep (by decide)) ?_
          refine mz_go 2 (c' := (if (sm_end w (w 7 5) (((w 20 0) + (x5 * (w 20 4))) + (((nI k) - (nI k) / 2 * 2) * x2)) (((w 20 1) + (x4 * (w 20 4))) + (((nI k) / 2) * x2)) 0 0) = ve2 then 153 else 150, [some (.ref 0), some (.ref 20), some (.int x2), some (.int x3), some (.int x4), some (.int x5), some (.int (nI k)), some (.int (((w 20 0) + (x5 * (w 20 4))) + (((nI k) - (nI k) / 2 * 2) * x2))), some (.int (((w 20 1) + (x4 * (w 20 4))) + (((nI k) / 2) * x2))), some (.int ve2)], [], mz_set (mz_set (mz_set (mz_set (mz_set (mz_set w 50 r50) 51 r51) 52 r52) 50 re3) 51 fe3) 52 ge3)) rfl ?_
          refine mz_ifT q3 ?_
          refine mz_go 2 (c' := (44, [some (.ref 0), some (.ref 20), some (.int x2), some (.int x3), some (.int x4), some (.int x5), some (.int ((nI k) + 1)), some (.int (((w 20 0) + (x5 * (w 20 4))) + (((nI k) - (nI k) / 2 * 2) * x2))), some (.int (((w 20 1) + (x4 * (w 20 4))) + (((nI k) / 2) * x2))), some (.int ve2)], [], mz_set (mz_set (mz_set (mz_set (mz_set (mz_set w 50 r50) 51 r51) 52 r52) 50 re3) 51 fe3) 52 ge3)) rfl ?_
          exact hr
        · obtain ⟨vr, s50, s51, s52, hr⟩ := ih (k + 1) (by omega) (x3 + 1) (some (.int (((w 20 0) + (x5 * (w 20 4))) + (((nI k) - (nI k) / 2 * 2) * x2)))) (some (.int (((w 20 1) + (x4 * (w 20 4))) + (((nI k) / 2) * x2)))) (some (.int ve2)) ((mz_set (mz_set (mz_set (mz_set (mz_set (mz_set w 50 r50) 51 r51) 52 r52) 50 re3) 51 fe3) 52 ge3) 50) ((mz_set (mz_set (mz_set (mz_set (mz_set (mz_set w 50 r50) 51 r51) 52 r52) 50 re3) 51 fe3) 52 ge3) 51) ((mz_set (mz_set (mz_set (mz_set (mz_set (mz_set w 50 r50) 51 r51) 52 r52) 50 re3) 51 fe3) 52 ge3) 52)
          rw [nI_succ k] at hr
          have hm : mz_set (mz_set (mz_set (mz_set (mz_set (mz_set w 50 r50) 51 r51) 52 r52) 50 re3) 51 fe3) 52 ge3 = mz_set (mz_set (mz_set w 50 ((mz_set (mz_set (mz_set (mz_set (mz_set (mz_set w 50 r50) 51 r51) 52 r52) 50 re3) 51 fe3) 52 ge3) 50)) 51 ((mz_set (mz_set (mz_set (mz_set (mz_set (mz_set w 50 r50) 51 r51) 52 r52) 50 re3) 51 fe3) 52 ge3) 51)) 52 ((mz_set (mz_set (mz_set (mz_set (mz_set (mz_set w 50 r50) 51 r51) 52 r52) 50 re3) 51 fe3) 52 ge3) 52) := sm_of3 (fun i h1 h2 h3 => by simp only [mz_set_ne h1, mz_set_ne h2, mz_set_ne h3])
          rw [← hm] at hr
          refine ⟨vr, s50, s51, s52, ?_⟩
          refine mz_go 3 (c' := (if 3 < (nI k) then 159 else 50, [some (.ref 0), some (.ref 20), some (.int x2), some (.int x3), some (.int x4), some (.int x5), some (.int (nI k)), x7, x8, x9], [], mz_set (mz_set (mz_set w 50 r50) 51 r51) 52 r52)) rfl ?_
          refine mz_ifF (show ¬ (3 < (nI k)) from (sm_nltN rfl rfl (show k ≤ 3 by omega) (show 3 < 2 ^ 31 by omega))) ?_
          refine mz_go 3 (c' := (55, [some (.ref 0), some (.ref 20), some (.int x2), some (.int x3), some (.int x4), some (.int x5), some (.int (nI k)), x7, x8, x9], [.int x4, .int x5, .ref 20], mz_set (mz_set (mz_set w 50 r50) 51 r51) 52 r52)) rfl ?_
          refine mz_doQ (R := mz_r12) (as := [.ref 20, .int x5, .int x4]) (rest := []) (r1 := some (.int ve1)) (m1 := mz_set (mz_set (mz_set w 50 r50) 51 r51) 52 r52) mz_t12 mz_v12_20 rfl rfl rfl rfl rfl (Ee1.deep (by decide)) ?_
          refine mz_go 1 (c' := (if ve1 = 0 then 159 else 61, [some (.ref 0), some (.ref 20), some (.int x2), some (.int x3), some (.int x4), some (.int x5), some (.int (nI k)), x7, x8, x9], [], mz_set (mz_set (mz_set w 50 r50) 51 r51) 52 r52)) rfl ?_
          refine mz_ifF q1 ?_
          refine mz_go 24 (c' := (98, [some (.ref 0), some (.ref 20), some (.int x2), some (.int x3), some (.int x4), some (.int x5), some (.int (nI k)), some (.int (((w 20 0) + (x5 * (w 20 4))) + (((nI k) - (nI k) / 2 * 2) * x2))), x8, x9], [.int ((nI k) / 2), .int ((w 20 1) + (x4 * (w 20 4)))], mz_set (mz_set (mz_set w 50 r50) 51 r51) 52 r52)) rfl ?_
          refine mz_go 7 (c' := (108, [some (.ref 0), some (.ref 20), some (.int x2), some (.int x3), some (.int x4), some (.int x5), some (.int (nI k)), some (.int (((w 20 0) + (x5 * (w 20 4))) + (((nI k) - (nI k) / 2 * 2) * x2))), some (.int (((w 20 1) + (x4 * (w 20 4))) + (((nI k) / 2) * x2))), x9], [.int x4, .int x5, .ref 20], mz_set (mz_set (mz_set w 50 r50) 51 r51) 52 r52)) rfl ?_
          refine mz_doQ (R := mz_r7) (as := [.ref 20, .int x5, .int x4]) (rest := []) (r1 := some (.int ve2)) (m1 := mz_set (mz_set (mz_set w 50 r50) 51 r51) 52 r52) mz_t7 mz_v7_20 rfl rfl rfl rfl rfl (Ee2.deep (by decide)) ?_
          refine mz_go 3 (c' := (117, [some (.ref 0), some (.ref 20), some (.int x2), some (.int x3), some (.int x4), some (.int x5), some (.int (nI k)), some (.int (((w 20 0) + (x5 * (w 20 4))) + (((nI k) - (nI k) / 2 * 2) * x2))), some (.int (((w 20 1) + (x4 * (w 20 4))) + (((nI k) / 2) * x2))), some (.int ve2)], [.int (((w 20 1) + (x4 * (w 20 4))) + (((nI k) / 2) * x2)), .int (((w 20 0) + (x5 * (w 20 4))) + (((nI k) - (nI k) / 2 * 2) * x2))], mz_set (mz_set (mz_set w 50 r50) 51 r51) 52 r52)) rfl ?_
          refine mz_doQ (R := mz_r116) (as := [.int (((w 20 0) + (x5 * (w 20 4))) + (((nI k) - (nI k) / 2 * 2) * x2)), .int (((w 20 1) + (x4 * (w 20 4))) + (((nI k) / 2) * x2))]) (rest := []) (r1 := some (.int 1)) (m1 := mz_set (mz_set (mz_set w 50 r50) 51 r51) 52 r52) mz_t116 mz_v116 rfl rfl rfl rfl rfl ⟨?_, rfl⟩ ?_
          · refine mz_go 3 (c' := (5, [some (.int (((w 20 0) + (x5 * (w 20 4))) + (((nI k) - (nI k) / 2 * 2) * x2))), some (.int (((w 20 1) + (x4 * (w 20 4))) + (((nI k) / 2) * x2)))], [.int 100, .int (-100), .int (((w 20 0) + (x5 * (w 20 4))) + (((nI k) - (nI k) / 2 * 2) * x2))], mz_set (mz_set (mz_set w 50 r50) 51 r51) 52 r52)) rfl ?_
            refine mz_doQ (R := mz_r121) (as := [.int (((w 20 0) + (x5 * (w 20 4))) + (((nI k) - (nI k) / 2 * 2) * x2)), .int (-100), .int 100]) (rest := []) (r1 := some (.int 1)) (m1 := mz_set (mz_set (mz_set w 50 r50) 51 r51) 52 r52) mz_t121 mz_v121 rfl rfl rfl rfl rfl ((cs_in1 (m := mz_set (mz_set (mz_set w 50 r50) 51 r51) 52 r52) (v := ((w 20 0) + (x5 * (w 20 4))) + (((nI k) - (nI k) / 2 * 2) * x2)) (a := (-100)) (b := 100) (show ¬ ((((w 20 0) + (x5 * (w 20 4))) + (((nI k) - (nI k) / 2 * 2) * x2)) < (-100)) from (sm_plc_of q2).1.1) (show ¬ (100 < (((w 20 0) + (x5 * (w 20 4))) + (((nI k) - (nI k) / 2 * 2) * x2))) from (sm_plc_of q2).1.2)).deep (by decide)) ?_
            refine mz_go 4 (c' := (16, [some (.int (((w 20 0) + (x5 * (w 20 4))) + (((nI k) - (nI k) / 2 * 2) * x2))), some (.int (((w 20 1) + (x4 * (w 20 4))) + (((nI k) / 2) * x2)))], [.int 100, .int (-100), .int (((w 20 1) + (x4 * (w 20 4))) + (((nI k) / 2) * x2))], mz_set (mz_set (mz_set w 50 r50) 51 r51) 52 r52)) rfl ?_
            refine mz_doQ (R := mz_r121) (as := [.int (((w 20 1) + (x4 * (w 20 4))) + (((nI k) / 2) * x2)), .int (-100), .int 100]) (rest := []) (r1 := some (.int 1)) (m1 := mz_set (mz_set (mz_set w 50 r50) 51 r51) 52 r52) mz_t121 mz_v121 rfl rfl rfl rfl rfl ((cs_in1 (m := mz_set (mz_set (mz_set w 50 r50) 51 r51) 52 r52) (v := ((w 20 1) + (x4 * (w 20 4))) + (((nI k) / 2) * x2)) (a := (-100)) (b := 100) (show ¬ ((((w 20 1) + (x4 * (w 20 4))) + (((nI k) / 2) * x2)) < (-100)) from (sm_plc_of q2).2.1) (show ¬ (100 < (((w 20 1) + (x4 * (w 20 4))) + (((nI k) / 2) * x2))) from (sm_plc_of q2).2.2)).deep (by decide)) ?_
            refine mz_go 3 (c' := (27, [some (.int (((w 20 0) + (x5 * (w 20 4))) + (((nI k) - (nI k) / 2 * 2) * x2))), some (.int (((w 20 1) + (x4 * (w 20 4))) + (((nI k) / 2) * x2)))], [.int 1], mz_set (mz_set (mz_set w 50 r50) 51 r51) 52 r52)) rfl ?_
            exact mz_ret rfl
          refine mz_go 12 (c' := (142, [some (.ref 0), some (.ref 20), some (.int x2), some (.int x3), some (.int x4), some (.int x5), some (.int (nI k)), some (.int (((w 20 0) + (x5 * (w 20 4))) + (((nI k) - (nI k) / 2 * 2) * x2))), some (.int (((w 20 1) + (x4 * (w 20 4))) + (((nI k) / 2) * x2))), some (.int ve2)], [.int (w 7 5), .int 0, .int 0, .int (((w 20 1) + (x4 * (w 20 4))) + (((nI k) / 2) * x2)), .int (((w 20 0) + (x5 * (w 20 4))) + (((nI k) - (nI k) / 2 * 2) * x2)), .ref 49], mz_set (mz_set (mz_set w 50 r50) 51 r51) 52 r52)) rfl ?_
          refine mz_doQ (R := mz_r36) (as := [.ref 49, .int (((w 20 0) + (x5 * (w 20 4))) + (((nI k) - (nI k) / 2 * 2) * x2)), .int (((w 20 1) + (x4 * (w 20 4))) + (((nI k) / 2) * x2)), .int 0, .int 0, .int (w 7 5)]) (rest := []) (r1 := some (.int (sm_end w (w 7 5) (((w 20 0) + (x5 * (w 20 4))) + (((nI k) - (nI k) / 2 * 2) * x2)) (((w 20 1) + (x4 * (w 20 4))) + (((nI k) / 2) * x2)) 0 0))) (m1 := mz_set (mz_set (mz_set (mz_set (mz_set (mz_set w 50 r50) 51 r51) 52 r52) 50 re3) 51 fe3) 52 ge3) mz_t36 mz_v36_49 rfl rfl rfl rfl rfl (Ee3.deep (by decide)) ?_
          refine mz_go 2 (c' := (if (sm_end w (w 7 5) (((w 20 0) + (x5 * (w 20 4))) + (((nI k) - (nI k) / 2 * 2) * x2)) (((w 20 1) + (x4 * (w 20 4))) + (((nI k) / 2) * x2)) 0 0) = ve2 then 153 else 150, [some (.ref 0), some (.ref 20), some (.int x2), some (.int x3), some (.int x4), some (.int x5), some (.int (nI k)), some (.int (((w 20 0) + (x5 * (w 20 4))) + (((nI k) - (nI k) / 2 * 2) * x2))), some (.int (((w 20 1) + (x4 * (w 20 4))) + (((nI k) / 2) * x2))), some (.int ve2)], [], mz_set (mz_set (mz_set (mz_set (mz_set (mz_set w 50 r50) 51 r51) 52 r52) 50 re3) 51 fe3) 52 ge3)) rfl ?_
          refine mz_ifF q3 ?_
          refine mz_go 3 (c' := (44, [some (.ref 0), some (.ref 20), some (.int x2), some (.int (x3 + 1)), some (.int x4), some (.int x5), some (.int ((nI k) + 1)), some (.int (((w 20 0) + (x5 * (w 20 4))) + (((nI k) - (nI k) / 2 * 2) * x2))), some (.int (((w 20 1) + (x4 * (w 20 4))) + (((nI k) / 2) * x2))), some (.int ve2)], [], mz_set (mz_set (mz_set (mz_set (mz_set (mz_set w 50 r50) 51 r51) 52 r52) 50 re3) 51 fe3) 52 ge3)) rfl ?_
          exact hr
set_option maxHeartbeats 4000000 in
set_option maxRecDepth 100000 in
theorem xw_fini {w : mz_M} {N : Nat} (hw : sm_W w N) (hN : N ≤ 6) (h4 : w 2 4 = nI N) (hr5 : w 7 5 = 1 ∨ w 7 5 = 2) (hr80 : sm_N 80 (w 7 2)) {WW HH : Nat} (hWW : WW ≤ 6) (hHH : HH ≤ 6) (hWH : WW = 0 ↔ HH = 0) (h202 : w 20 2 = nI WW) (h203 : w 20 3 = nI HH) {T2 : Nat} (hT2 : w 16 2 = nI T2) (hV2 : T2 = 0 ∨ sm_wf T2 5 (w 17) (w 18)) (x2 x4 : Int32) (HX : ∀ (x5 : Int32) (x3 : Int32) (x6 : Option Value) (x7 : Option Value) (x8 : Option Value) (x9 : Option Value) (r50 : Nat → Int32) (r51 : Nat → Int32) (r52 : Nat → Int32), ∃ v s50 s51 s52, mz_Ex 90 mz_k110 (165, [some (.ref 0), some (.ref 20), some (.int x2), some (.int x3), some (.int x4), some (.int x5), x6, x7, x8, x9], [], mz_set (mz_set (mz_set w 50 r50) 51 r51) 52 r52) (some (.int v), mz_set (mz_set (mz_set w 50 s50) 51 s51) 52 s52)) : ∀ fu : Nat, ∀ x5 : Int32, (nI WW).toInt - x5.toInt < (fu : Int) → ∀ (x3 : Int32) (x6 : Option Value) (x7 : Option Value) (x8 : Option Value) (x9 : Option Value) (r50 : Nat → Int32) (r51 : Nat → Int32) (r52 : Nat → Int32), ∃ v s50 s51 s52, mz_Ex 90 mz_k110 (32, [some (.ref 0), some (.ref 20), some (.int x2), some (.int x3), some (.int x4), some (.int x5), x6, x7, x8, x9], [], mz_set (mz_set (mz_set w 50 r50) 51 r51) 52 r52) (some (.int v), mz_set (mz_set (mz_set w 50 s50) 51 s51) 52 s52) := by
  have hT60c := sm_T60 hV2
  intro fu
  induction fu with
  | zero =>
    intro x5 hms x3 x6 x7 x8 x9 r50 r51 r52
    have hmz : (nI WW) ≤ x5 := sm_mz2 hms
    obtain ⟨vr, s50, s51, s52, hr⟩ := HX x5 x3 x6 x7 x8 x9 ((mz_set (mz_set (mz_set w 50 r50) 51 r51) 52 r52) 50) ((mz_set (mz_set (mz_set w 50 r50) 51 r51) 52 r52) 51) ((mz_set (mz_set (mz_set w 50 r50) 51 r51) 52 r52) 52)
    have hm : mz_set (mz_set (mz_set w 50 r50) 51 r51) 52 r52 = mz_set (mz_set (mz_set w 50 ((mz_set (mz_set (mz_set w 50 r50) 51 r51) 52 r52) 50)) 51 ((mz_set (mz_set (mz_set w 50 r50) 51 r51) 52 r52) 51)) 52 ((mz_set (mz_set (mz_set w 50 r50) 51 r51) 52 r52) 52) := sm_of3 (fun i h1 h2 h3 => by simp only [mz_set_ne h1, mz_set_ne h2, mz_set_ne h3])
    rw [← hm] at hr
    refine ⟨vr, s50, s51, s52, ?_⟩
    refine mz_go 3 (c' := (38, [some (.ref 0), some (.ref 20), some (.int x2), some (.int x3), some (.int x4), some (.int x5), x6, x7, x8, x9], [.int (w 20 2), .int x5], mz_set (mz_set (mz_set w 50 r50) 51 r51) 52 r52)) rfl ?_
    rw [h202]
    refine mz_go 1 (c' := (if (nI WW) ≤ x5 then 165 else 41, [some (.ref 0), some (.ref 20), some (.int x2), some (.int x3), some (.int x4), some (.int x5), x6, x7, x8, x9], [], mz_set (mz_set (mz_set w 50 r50) 51 r51) 52 r52)) rfl ?_
    refine mz_ifT hmz ?_
    exact hr
  | succ fu ih =>
    intro x5 hms x3 x6 x7 x8 x9 r50 r51 r52
    by_cases q1 : (nI WW) ≤ x5
    · obtain ⟨vr, s50, s51, s52, hr⟩ := HX x5 x3 x6 x7 x8 x9 ((mz_set (mz_set (mz_set w 50 r50) 51 r51) 52 r52) 50) ((mz_set (mz_set (mz_set w 50 r50) 51 r51) 52 r52) 51) ((mz_set (mz_set (mz_set w 50 r50) 51 r51) 52 r52) 52)
      have hm : mz_set (mz_set (mz_set w 50 r50) 51 r51) 52 r52 = mz_set (mz_set (mz_set w 50 ((mz_set (mz_set (mz_set w 50 r50) 51 r51) 52 r52) 50)) 51 ((mz_set (mz_set (mz_set w 50 r50) 51 r51) 52 r52) 51)) 52 ((mz_set (mz_set (mz_set w 50 r50) 51 r51) 52 r52) 52) := sm_of3 (fun i h1 h2 h3 => by simp only [mz_set_ne h1, mz_set_ne h2, mz_set_ne h3])
      rw [← hm] at hr
      refine ⟨vr, s50, s51, s52, ?_⟩
      refine mz_go 3 (c' := (38, [some (.ref 0), some (.ref 20), some (.int x2), some (.int x3), some (.int x4), some (.int x5), x6, x7, x8, x9], [.int (w 20 2), .int x5], mz_set (mz_set (mz_set w 50 r50) 51 r51) 52 r52)) rfl ?_
      rw [h202]
      refine mz_go 1 (c' := (if (nI WW) ≤ x5 then 165 else 41, [some (.ref 0), some (.ref 20), some (.int x2), some (.int x3), some (.int x4), some (.int x5), x6, x7, x8, x9], [], mz_set (mz_set (mz_set w 50 r50) 51 r51) 52 r52)) rfl ?_
      refine mz_ifT q1 ?_
      exact hr
    · have HX1 : ∀ (x6_1 : Int32) (x3_1 : Int32) (x7_1 : Option Value) (x8_1 : Option Value) (x9_1 : Option Value) (r50_1 : Nat → Int32) (r51_1 : Nat → Int32) (r52_1 : Nat → Int32), ∃ v s50 s51 s52, mz_Ex 90 mz_k110 (159, [some (.ref 0), some (.ref 20), some (.int x2), some (.int x3_1), some (.int x4), some (.int x5), some (.int x6_1), x7_1, x8_1, x9_1], [], mz_set (mz_set (mz_set w 50 r50_1) 51 r51_1) 52 r52_1) (some (.int v), mz_set (mz_set (mz_set w 50 s50) 51 s51) 52 s52) := by
        intro x6_1 x3_1 x7_1 x8_1 x9_1 r50_1 r51_1 r52_1
        obtain ⟨vr, s50, s51, s52, hr⟩ := ih (x5 + 1) (sm_me2 (sm_hN (by omega)) q1 hms) x3_1 (some (.int x6_1)) x7_1 x8_1 x9_1 ((mz_set (mz_set (mz_set w 50 r50_1) 51 r51_1) 52 r52_1) 50) ((mz_set (mz_set (mz_set w 50 r50_1) 51 r51_1) 52 r52_1) 51) ((mz_set (mz_set (mz_set w 50 r50_1) 51 r51_1) 52 r52_1) 52)
        have hm : mz_set (mz_set (mz_set w 50 r50_1) 51 r51_1) 52 r52_1 = mz_set (mz_set (mz_set w 50 ((mz_set (mz_set (mz_set w 50 r50_1) 51 r51_1) 52 r52_1) 50)) 51 ((mz_set (mz_set (mz_set w 50 r50_1) 51 r51_1) 52 r52_1) 51)) 52 ((mz_set (mz_set (mz_set w 50 r50_1) 51 r51_1) 52 r52_1) 52) := sm_of3 (fun i h1 h2 h3 => by simp only [mz_set_ne h1, mz_set_ne h2, mz_set_ne h3])
        rw [← hm] at hr
        refine ⟨vr, s50, s51, s52, ?_⟩
        refine mz_go 2 (c' := (32, [some (.ref 0), some (.ref 20), some (.int x2), some (.int x3_1), some (.int x4), some (.int (x5 + 1)), some (.int x6_1), x7_1, x8_1, x9_1], [], mz_set (mz_set (mz_set w 50 r50_1) 51 r51_1) 52 r52_1)) rfl ?_
        exact hr
      obtain ⟨vr, s50, s51, s52, hr⟩ := xw_fink hw hN h4 hr5 hr80 hWW hHH hWH h202 h203 hT2 hV2 x2 x4 x5 HX1 3 1 (by omega) x3 x7 x8 x9 ((mz_set (mz_set (mz_set w 50 r50) 51 r51) 52 r52) 50) ((mz_set (mz_set (mz_set w 50 r50) 51 r51) 52 r52) 51) ((mz_set (mz_set (mz_set w 50 r50) 51 r51) 52 r52) 52)
      have hm : mz_set (mz_set (mz_set w 50 r50) 51 r51) 52 r52 = mz_set (mz_set (mz_set w 50 ((mz_set (mz_set (mz_set w 50 r50) 51 r51) 52 r52) 50)) 51 ((mz_set (mz_set (mz_set w 50 r50) 51 r51) 52 r52) 51)) 52 ((mz_set (mz_set (mz_set w 50 r50) 51 r51) 52 r52) 52) := sm_of3 (fun i h1 h2 h3 => by simp only [mz_set_ne h1, mz_set_ne h2, mz_set_ne h3])
      rw [← hm] at hr
      refine ⟨vr, s50, s51, s52, ?_⟩
      refine mz_go 3 (c' := (38, [some (.ref 0), some (.ref 20), some (.int x2), some (.int x3), some (.int x4), some (.int x5), x6, x7, x8, x9], [.int (w 20 2), .int x5], mz_set (mz_set (mz_set w 50 r50) 51 r51) 52 r52)) rfl ?_
      rw [h202]
      refine mz_go 1 (c' := (if (nI WW) ≤ x5 then 165 else 41, [some (.ref 0), some (.ref 20), some (.int x2), some (.int x3), some (.int x4), some (.int x5), x6, x7, x8, x9], [], mz_set (mz_set (mz_set w 50 r50) 51 r51) 52 r52)) rfl ?_
      refine mz_ifF q1 ?_
      refine mz_go 2 (c' := (44, [some (.ref 0), some (.ref 20), some (.int x2), some (.int x3), some (.int x4), some (.int x5), some (.int 1), x7, x8, x9], [], mz_set (mz_set (mz_set w 50 r50) 51 r51) 52 r52)) rfl ?_
      exact hr
set_option maxHeartbeats 4000000 in
set_option maxRecDepth 100000 in
theorem xw_finj {w : mz_M} {N : Nat} (hw : sm_W w N) (hN : N ≤ 6) (h4 : w 2 4 = nI N) (hr5 : w 7 5 = 1 ∨ w 7 5 = 2) (hr80 : sm_N 80 (w 7 2)) {WW HH : Nat} (hWW : WW ≤ 6) (hHH : HH ≤ 6) (hWH : WW = 0 ↔ HH = 0) (h202 : w 20 2 = nI WW) (h203 : w 20 3 = nI HH) {T2 : Nat} (hT2 : w 16 2 = nI T2) (hV2 : T2 = 0 ∨ sm_wf T2 5 (w 17) (w 18)) (x2 : Int32) (HX : ∀ (x4 : Int32) (x3 : Int32) (x5 : Option Value) (x6 : Option Value) (x7 : Option Value) (x8 : Option Value) (x9 : Option Value) (r50 : Nat → Int32) (r51 : Nat → Int32) (r52 : Nat → Int32), ∃ v s50 s51 s52, mz_Ex 90 mz_k110 (171, [some (.ref 0), some (.ref 20), some (.int x2), some (.int x3), some (.int x4), x5, x6, x7, x8, x9], [], mz_set (mz_set (mz_set w 50 r50) 51 r51) 52 r52) (some (.int v), mz_set (mz_set (mz_set w 50 s50) 51 s51) 52 s52)) : ∀ fu : Nat, ∀ x4 : Int32, (nI HH).toInt - x4.toInt < (fu : Int) → ∀ (x3 : Int32) (x5 : Option Value) (x6 : Option Value) (x7 : Option Value) (x8 : Option Value) (x9 : Option Value) (r50 : Nat → Int32) (r51 : Nat → Int32) (r52 : Nat → Int32), ∃ v s50 s51 s52, mz_Ex 90 mz_k110 (20, [some (.ref 0), some (.ref 20), some (.int x2), some (.int x3), some (.int x4), x5, x6, x7, x8, x9], [], mz_set (mz_set (mz_set w 50 r50) 51 r51) 52 r52) (some (.int v), mz_set (mz_set (mz_set w 50 s50) 51 s51) 52 s52) := by
  have hT60c := sm_T60 hV2
  intro fu
  induction fu with
  | zero =>
    intro x4 hms x3 x5 x6 x7 x8 x9 r50 r51 r52
    have hmz : (nI HH) ≤ x4 := sm_mz2 hms
    obtain ⟨vr, s50, s51, s52, hr⟩ := HX x4 x3 x5 x6 x7 x8 x9 ((mz_set (mz_set (mz_set w 50 r50) 51 r51) 52 r52) 50) ((mz_set (mz_set (mz_set w 50 r50) 51 r51) 52 r52) 51) ((mz_set (mz_set (mz_set w 50 r50) 51 r51) 52 r52) 52)
    have hm : mz_set (mz_set (mz_set w 50 r50) 51 r51) 52 r52 = mz_set (mz_set (mz_set w 50 ((mz_set (mz_set (mz_set w 50 r50) 51 r51) 52 r52) 50)) 51 ((mz_set (mz_set (mz_set w 50 r50) 51 r51) 52 r52) 51)) 52 ((mz_set (mz_set (mz_set w 50 r50) 51 r51) 52 r52) 52) := sm_of3 (fun i h1 h2 h3 => by simp only [mz_set_ne h1, mz_set_ne h2, mz_set_ne h3])
    rw [← hm] at hr
    refine ⟨vr, s50, s51, s52, ?_⟩
    refine mz_go 3 (c' := (26, [some (.ref 0), some (.ref 20), some (.int x2), some (.int x3), some (.int x4), x5, x6, x7, x8, x9], [.int (w 20 3), .int x4], mz_set (mz_set (mz_set w 50 r50) 51 r51) 52 r52)) rfl ?_
    rw [h203]
    refine mz_go 1 (c' := (if (nI HH) ≤ x4 then 171 else 29, [some (.ref 0), some (.ref 20), some (.int x2), some (.int x3), some (.int x4), x5, x6, x7, x8, x9], [], mz_set (mz_set (mz_set w 50 r50) 51 r51) 52 r52)) rfl ?_
    refine mz_ifT hmz ?_
    exact hr
  | succ fu ih =>
    intro x4 hms x3 x5 x6 x7 x8 x9 r50 r51 r52
    by_cases q1 : (nI HH) ≤ x4
    · obtain ⟨vr, s50, s51, s52, hr⟩ := HX x4 x3 x5 x6 x7 x8 x9 ((mz_set (mz_set (mz_set w 50 r50) 51 r51) 52 r52) 50) ((mz_set (mz_set (mz_set w 50 r50) 51 r51) 52 r52) 51) ((mz_set (mz_set (mz_set w 50 r50) 51 r51) 52 r52) 52)
      have hm : mz_set (mz_set (mz_set w 50 r50) 51 r51) 52 r52 = mz_set (mz_set (mz_set w 50 ((mz_set (mz_set (mz_set w 50 r50) 51 r51) 52 r52) 50)) 51 ((mz_set (mz_set (mz_set w 50 r50) 51 r51) 52 r52) 51)) 52 ((mz_set (mz_set (mz_set w 50 r50) 51 r51) 52 r52) 52) := sm_of3 (fun i h1 h2 h3 => by simp only [mz_set_ne h1, mz_set_ne h2, mz_set_ne h3])
      rw [← hm] at hr
      refine ⟨vr, s50, s51, s52, ?_⟩
      refine mz_go 3 (c' := (26, [some (.ref 0), some (.ref 20), some (.int x2), some (.int x3), some (.int x4), x5, x6, x7, x8, x9], [.int (w 20 3), .int x4], mz_set (mz_set (mz_set w 50 r50) 51 r51) 52 r52)) rfl ?_
      rw [h203]
      refine mz_go 1 (c' := (if (nI HH) ≤ x4 then 171 else 29, [some (.ref 0), some (.ref 20), some (.int x2), some (.int x3), some (.int x4), x5, x6, x7, x8, x9], [], mz_set (mz_set (mz_set w 50 r50) 51 r51) 52 r52)) rfl ?_
      refine mz_ifT q1 ?_
      exact hr
    · have HX2 : ∀ (x5_2 : Int32) (x3_2 : Int32) (x6_2 : Option Value) (x7_2 : Option Value) (x8_2 : Option Value) (x9_2 : Option Value) (r50_2 : Nat → Int32) (r51_2 : Nat → Int32) (r52_2 : Nat → Int32), ∃ v s50 s51 s52, mz_Ex 90 mz_k110 (165, [some (.ref 0), some (.ref 20), some (.int x2), some (.int x3_2), some (.int x4), some (.int x5_2), x6_2, x7_2, x8_2, x9_2], [], mz_set (mz_set (mz_set w 50 r50_2) 51 r51_2) 52 r52_2) (some (.int v), mz_set (mz_set (mz_set w 50 s50) 51 s51) 52 s52) := by
        intro x5_2 x3_2 x6_2 x7_2 x8_2 x9_2 r50_2 r51_2 r52_2
        obtain ⟨vr, s50, s51, s52, hr⟩ := ih (x4 + 1) (sm_me2 (sm_hN (by omega)) q1 hms) x3_2 (some (.int x5_2)) x6_2 x7_2 x8_2 x9_2 ((mz_set (mz_set (mz_set w 50 r50_2) 51 r51_2) 52 r52_2) 50) ((mz_set (mz_set (mz_set w 50 r50_2) 51 r51_2) 52 r52_2) 51) ((mz_set (mz_set (mz_set w 50 r50_2) 51 r51_2) 52 r52_2) 52)
        have hm : mz_set (mz_set (mz_set w 50 r50_2) 51 r51_2) 52 r52_2 = mz_set (mz_set (mz_set w 50 ((mz_set (mz_set (mz_set w 50 r50_2) 51 r51_2) 52 r52_2) 50)) 51 ((mz_set (mz_set (mz_set w 50 r50_2) 51 r51_2) 52 r52_2) 51)) 52 ((mz_set (mz_set (mz_set w 50 r50_2) 51 r51_2) 52 r52_2) 52) := sm_of3 (fun i h1 h2 h3 => by simp only [mz_set_ne h1, mz_set_ne h2, mz_set_ne h3])
        rw [← hm] at hr
        refine ⟨vr, s50, s51, s52, ?_⟩
        refine mz_go 2 (c' := (20, [some (.ref 0), some (.ref 20), some (.int x2), some (.int x3_2), some (.int (x4 + 1)), some (.int x5_2), x6_2, x7_2, x8_2, x9_2], [], mz_set (mz_set (mz_set w 50 r50_2) 51 r51_2) 52 r52_2)) rfl ?_
        exact hr
      obtain ⟨vr, s50, s51, s52, hr⟩ := xw_fini hw hN h4 hr5 hr80 hWW hHH hWH h202 h203 hT2 hV2 x2 x4 HX2 ((nI WW : Int32).toInt - (0 : Int32).toInt + 1).toNat 0 (by omega) x3 x6 x7 x8 x9 ((mz_set (mz_set (mz_set w 50 r50) 51 r51) 52 r52) 50) ((mz_set (mz_set (mz_set w 50 r50) 51 r51) 52 r52) 51) ((mz_set (mz_set (mz_set w 50 r50) 51 r51) 52 r52) 52)
      have hm : mz_set (mz_set (mz_set w 50 r50) 51 r51) 52 r52 = mz_set (mz_set (mz_set w 50 ((mz_set (mz_set (mz_set w 50 r50) 51 r51) 52 r52) 50)) 51 ((mz_set (mz_set (mz_set w 50 r50) 51 r51) 52 r52) 51)) 52 ((mz_set (mz_set (mz_set w 50 r50) 51 r51) 52 r52) 52) := sm_of3 (fun i h1 h2 h3 => by simp only [mz_set_ne h1, mz_set_ne h2, mz_set_ne h3])
      rw [← hm] at hr
      refine ⟨vr, s50, s51, s52, ?_⟩
      refine mz_go 3 (c' := (26, [some (.ref 0), some (.ref 20), some (.int x2), some (.int x3), some (.int x4), x5, x6, x7, x8, x9], [.int (w 20 3), .int x4], mz_set (mz_set (mz_set w 50 r50) 51 r51) 52 r52)) rfl ?_
      rw [h203]
      refine mz_go 1 (c' := (if (nI HH) ≤ x4 then 171 else 29, [some (.ref 0), some (.ref 20), some (.int x2), some (.int x3), some (.int x4), x5, x6, x7, x8, x9], [], mz_set (mz_set (mz_set w 50 r50) 51 r51) 52 r52)) rfl ?_
      refine mz_ifF q1 ?_
      refine mz_go 2 (c' := (32, [some (.ref 0), some (.ref 20), some (.int x2), some (.int x3), some (.int x4), some (.int 0), x6, x7, x8, x9], [], mz_set (mz_set (mz_set w 50 r50) 51 r51) 52 r52)) rfl ?_
      exact hr
set_option maxHeartbeats 4000000 in
set_option maxRecDepth 100000 in
theorem xw_fin {w : mz_M} {N : Nat} (hw : sm_W w N) (hN : N ≤ 6) (h4 : w 2 4 = nI N) (hr5 : w 7 5 = 1 ∨ w 7 5 = 2) (hr80 : sm_N 80 (w 7 2)) {WW HH : Nat} (hWW : WW ≤ 6) (hHH : HH ≤ 6) (hWH : WW = 0 ↔ HH = 0) (h202 : w 20 2 = nI WW) (h203 : w 20 3 = nI HH) {T2 : Nat} (hT2 : w 16 2 = nI T2) (hV2 : T2 = 0 ∨ sm_wf T2 5 (w 17) (w 18)) : ∃ v s50 s51 s52, mz_Me 90 mz_r110 [.ref 0] w (some (.int v)) (mz_set (mz_set (mz_set w 50 s50) 51 s51) 52 s52) := by
  have hT60c := sm_T60 hV2
  have HX3 : ∀ (x4_3 : Int32) (x3_3 : Int32) (x5_3 : Option Value) (x6_3 : Option Value) (x7_3 : Option Value) (x8_3 : Option Value) (x9_3 : Option Value) (r50_3 : Nat → Int32) (r51_3 : Nat → Int32) (r52_3 : Nat → Int32), ∃ v s50 s51 s52, mz_Ex 90 mz_k110 (171, [some (.ref 0), some (.ref 20), some (.int ((w 20 4) / 2)), some (.int x3_3), some (.int x4_3), x5_3, x6_3, x7_3, x8_3, x9_3], [], mz_set (mz_set (mz_set w 50 r50_3) 51 r51_3) 52 r52_3) (some (.int v), mz_set (mz_set (mz_set w 50 s50) 51 s51) 52 s52) := by
    intro x4_3 x3_3 x5_3 x6_3 x7_3 x8_3 x9_3 r50_3 r51_3 r52_3
    refine ⟨x3_3, ((mz_set (mz_set (mz_set w 50 r50_3) 51 r51_3) 52 r52_3) 50), ((mz_set (mz_set (mz_set w 50 r50_3) 51 r51_3) 52 r52_3) 51), ((mz_set (mz_set (mz_set w 50 r50_3) 51 r51_3) 52 r52_3) 52), ?_⟩
    have hm : mz_set (mz_set (mz_set w 50 r50_3) 51 r51_3) 52 r52_3 = mz_set (mz_set (mz_set w 50 ((mz_set (mz_set (mz_set w 50 r50_3) 51 r51_3) 52 r52_3) 50)) 51 ((mz_set (mz_set (mz_set w 50 r50_3) 51 r51_3) 52 r52_3) 51)) 52 ((mz_set (mz_set (mz_set w 50 r50_3) 51 r51_3) 52 r52_3) 52) := sm_of3 (fun i h1 h2 h3 => by simp only [mz_set_ne h1, mz_set_ne h2, mz_set_ne h3])
    rw [← hm]
    refine mz_go 1 (c' := (172, [some (.ref 0), some (.ref 20), some (.int ((w 20 4) / 2)), some (.int x3_3), some (.int x4_3), x5_3, x6_3, x7_3, x8_3, x9_3], [.int x3_3], mz_set (mz_set (mz_set w 50 r50_3) 51 r51_3) 52 r52_3)) rfl ?_
    exact mz_ret rfl
  obtain ⟨vr, s50, s51, s52, hr⟩ := xw_finj hw hN h4 hr5 hr80 hWW hHH hWH h202 h203 hT2 hV2 ((w 20 4) / 2) HX3 ((nI HH : Int32).toInt - (0 : Int32).toInt + 1).toNat 0 (by omega) 0 none none none none none ((w) 50) ((w) 51) ((w) 52)
  have hm : w = mz_set (mz_set (mz_set w 50 ((w) 50)) 51 ((w) 51)) 52 ((w) 52) := sm_of3 (fun i h1 h2 h3 => rfl)
  rw [← hm] at hr
  refine ⟨vr, s50, s51, s52, ⟨?_, rfl⟩⟩
  refine mz_go 13 (c' := (20, [some (.ref 0), some (.ref 20), some (.int ((w 20 4) / 2)), some (.int 0), some (.int 0), none, none, none, none, none], [], w)) rfl ?_
  exact hr
set_option maxHeartbeats 4000000 in
set_option maxRecDepth 100000 in
theorem xw_seen {w : mz_M} {N : Nat} (hw : sm_W w N) (hN : N ≤ 6) (h4 : w 2 4 = nI N) (hr5 : w 7 5 = 1 ∨ w 7 5 = 2) (hr80 : sm_N 80 (w 7 2)) {WW HH : Nat} (hWW : WW ≤ 6) (hHH : HH ≤ 6) (hWH : WW = 0 ↔ HH = 0) (h202 : w 20 2 = nI WW) (h203 : w 20 3 = nI HH) {T2 : Nat} (hT2 : w 16 2 = nI T2) (hV2 : T2 = 0 ∨ sm_wf T2 5 (w 17) (w 18)) (xa : Int32) : ∃ v m', mz_Me 100 mz_r89 [.ref 0, .int xa] w (some (.int v)) m' ∧ sm_Sc w m' := by
  have hT60c := sm_T60 hV2
  by_cases q1 : (sm_bI (sm_in xa 0 3)) = 0
  · refine ⟨(-1000001), mz_up w 64 1 ((w 64 1) + 1), ⟨?_, rfl⟩, ⟨fun i hi => (by simp only [mz_up_ne (sm_scne hi (r := 64) rfl)]), rfl, rfl⟩⟩
    refine mz_go 3 (c' := (3, [some (.ref 0), some (.int xa)], [.int 3, .int 0, .int xa], w)) rfl ?_
    refine mz_doQ (R := mz_r121) (as := [.int xa, .int 0, .int 3]) (rest := []) (r1 := some (.int (sm_bI (sm_in xa 0 3)))) (m1 := w) mz_t121 mz_v121 rfl rfl rfl rfl rfl ((cs_in (m := w) xa 0 3).deep (by decide)) ?_
    refine mz_go 1 (c' := (if (sm_bI (sm_in xa 0 3)) = 0 then 9 else 15, [some (.ref 0), some (.int xa)], [], w)) rfl ?_
    refine mz_ifT q1 ?_
    refine mz_go 2 (c' := (11, [some (.ref 0), some (.int xa)], [.int 1, .ref 0], w)) rfl ?_
    refine mz_doQ (R := mz_r109) (as := [.ref 0, .int 1]) (rest := []) (r1 := some (.int (-1000001))) (m1 := mz_up w 64 1 ((w 64 1) + 1)) mz_t109 mz_v109_0 rfl rfl rfl rfl rfl ((cs_err1 (m := w)).deep (by decide)) ?_
    exact mz_ret rfl
  · by_cases q2 : WW ≤ 0
    · refine ⟨(-1000002), mz_up w 64 2 ((w 64 2) + 1), ⟨?_, rfl⟩, ⟨fun i hi => (by simp only [mz_up_ne (sm_scne hi (r := 64) rfl)]), rfl, rfl⟩⟩
      refine mz_go 3 (c' := (3, [some (.ref 0), some (.int xa)], [.int 3, .int 0, .int xa], w)) rfl ?_
      refine mz_doQ (R := mz_r121) (as := [.int xa, .int 0, .int 3]) (rest := []) (r1 := some (.int 1)) (m1 := w) mz_t121 mz_v121 rfl rfl rfl rfl rfl ((cs_in1 (m := w) (v := xa) (a := 0) (b := 3) (show ¬ (xa < 0) from (sm_in_lo q1)) (show ¬ (3 < xa) from (sm_in_hi q1))).deep (by decide)) ?_
      refine mz_go 4 (c' := (22, [some (.ref 0), some (.int xa)], [.ref 20], w)) rfl ?_
      refine mz_doQ (R := mz_r2) (as := [.ref 20]) (rest := []) (r1 := some (.int 0)) (m1 := w) mz_t2 mz_v2_20 rfl rfl rfl rfl rfl ⟨?_, rfl⟩ ?_
      · refine mz_go 2 (c' := (4, [some (.ref 20)], [.int (w 20 2)], w)) rfl ?_
        rw [h202]
        refine mz_go 1 (c' := (if (nI WW) ≤ 0 then 18 else 7, [some (.ref 20)], [], w)) rfl ?_
        refine mz_ifT (show ((nI WW) ≤ 0) from (sm_leN rfl rfl (show WW ≤ 0 by omega) (show 0 < 2 ^ 31 by omega))) ?_
        refine mz_go 1 (c' := (19, [some (.ref 20)], [.int 0], w)) rfl ?_
        exact mz_ret rfl
      refine mz_go 3 (c' := (30, [some (.ref 0), some (.int xa)], [.int 2, .ref 0], w)) rfl ?_
      refine mz_doQ (R := mz_r109) (as := [.ref 0, .int 2]) (rest := []) (r1 := some (.int (-1000002))) (m1 := mz_up w 64 2 ((w 64 2) + 1)) mz_t109 mz_v109_0 rfl rfl rfl rfl rfl ((cs_err2 (m := w)).deep (by decide)) ?_
      exact mz_ret rfl
    · by_cases q3 : 2 < xa
      · obtain ⟨ve1, Ee1⟩ := xc_lens (m := w) hWW hHH h202 h203 
        refine ⟨ve1, w, ⟨?_, rfl⟩, ⟨fun _ _ => rfl, rfl, rfl⟩⟩
        refine mz_go 3 (c' := (3, [some (.ref 0), some (.int xa)], [.int 3, .int 0, .int xa], w)) rfl ?_
        refine mz_doQ (R := mz_r121) (as := [.int xa, .int 0, .int 3]) (rest := []) (r1 := some (.int 1)) (m1 := w) mz_t121 mz_v121 rfl rfl rfl rfl rfl ((cs_in1 (m := w) (v := xa) (a := 0) (b := 3) (show ¬ (xa < 0) from (sm_in_lo q1)) (show ¬ (3 < xa) from (sm_in_hi q1))).deep (by decide)) ?_
        refine mz_go 4 (c' := (22, [some (.ref 0), some (.int xa)], [.ref 20], w)) rfl ?_
        refine mz_doQ (R := mz_r2) (as := [.ref 20]) (rest := []) (r1 := some (.int 1)) (m1 := w) mz_t2 mz_v2_20 rfl rfl rfl rfl rfl ⟨?_, rfl⟩ ?_
        · refine mz_go 2 (c' := (4, [some (.ref 20)], [.int (w 20 2)], w)) rfl ?_
          rw [h202]
          refine mz_go 1 (c' := (if (nI WW) ≤ 0 then 18 else 7, [some (.ref 20)], [], w)) rfl ?_
          refine mz_ifF (show ¬ ((nI WW) ≤ 0) from (sm_nleN rfl rfl (show 0 < WW by omega) (show WW < 2 ^ 31 by omega))) ?_
          refine mz_go 2 (c' := (11, [some (.ref 20)], [.int (w 20 3)], w)) rfl ?_
          rw [h203]
          refine mz_go 1 (c' := (if (nI HH) ≤ 0 then 18 else 14, [some (.ref 20)], [], w)) rfl ?_
          refine mz_ifF (show ¬ ((nI HH) ≤ 0) from (sm_nleN rfl rfl (show 0 < HH by omega) (show HH < 2 ^ 31 by omega))) ?_
          refine mz_go 2 (c' := (19, [some (.ref 20)], [.int 1], w)) rfl ?_
          exact mz_ret rfl
        refine mz_go 2 (c' := (35, [some (.ref 0), some (.int xa)], [.int xa], w)) rfl ?_
        refine mz_swd (c' := (87, [some (.ref 0), some (.int xa)], [], w)) rfl (Or.inr (Int32.lt_iff_toInt_lt.mp q3)) ?_
        refine mz_go 3 (c' := (94, [some (.ref 0), some (.int xa)], [.ref 20], w)) rfl ?_
        refine mz_doQ (R := mz_r17) (as := [.ref 20]) (rest := []) (r1 := some (.int ve1)) (m1 := w) mz_t17 mz_v17_20 rfl rfl rfl rfl rfl (Ee1.deep (by decide)) ?_
        exact mz_ret rfl
      · have hl4 : (0 : Int) ≤ (xa).toInt := Int32.le_iff_toInt_le.mp (Int32.not_lt.mp (sm_in_lo q1))
        have hu4 : (xa).toInt ≤ (2 : Int) := Int32.le_iff_toInt_le.mp (Int32.not_lt.mp q3)
        obtain rfl | rfl | rfl : xa = 0 ∨ xa = 1 ∨ xa = 2 := by
          rcases (show xa.toInt = 0 ∨ xa.toInt = 1 ∨ xa.toInt = 2 by omega) with h | h | h
          · exact (Or.inl (Int32.toInt_inj.mp h))
          · exact (Or.inr (Or.inl (Int32.toInt_inj.mp h)))
          · exact (Or.inr (Or.inr (Int32.toInt_inj.mp h)))
        · obtain ⟨ve1, Ee1⟩ := xc_edges (m := w) hWW hHH h202 h203 
          refine ⟨ve1, w, ⟨?_, rfl⟩, ⟨fun _ _ => rfl, rfl, rfl⟩⟩
          refine mz_go 3 (c' := (3, [some (.ref 0), some (.int 0)], [.int 3, .int 0, .int 0], w)) rfl ?_
          refine mz_doQ (R := mz_r121) (as := [.int 0, .int 0, .int 3]) (rest := []) (r1 := some (.int 1)) (m1 := w) mz_t121 mz_v121 rfl rfl rfl rfl rfl ((cs_in1 (m := w) (v := 0) (a := 0) (b := 3) (by decide) (by decide)).deep (by decide)) ?_
          refine mz_go 4 (c' := (22, [some (.ref 0), some (.int 0)], [.ref 20], w)) rfl ?_
          refine mz_doQ (R := mz_r2) (as := [.ref 20]) (rest := []) (r1 := some (.int 1)) (m1 := w) mz_t2 mz_v2_20 rfl rfl rfl rfl rfl ⟨?_, rfl⟩ ?_
          · refine mz_go 2 (c' := (4, [some (.ref 20)], [.int (w 20 2)], w)) rfl ?_
            rw [h202]
            refine mz_go 1 (c' := (if (nI WW) ≤ 0 then 18 else 7, [some (.ref 20)], [], w)) rfl ?_
            refine mz_ifF (show ¬ ((nI WW) ≤ 0) from (sm_nleN rfl rfl (show 0 < WW by omega) (show WW < 2 ^ 31 by omega))) ?_
            refine mz_go 2 (c' := (11, [some (.ref 20)], [.int (w 20 3)], w)) rfl ?_
            rw [h203]
            refine mz_go 1 (c' := (if (nI HH) ≤ 0 then 18 else 14, [some (.ref 20)], [], w)) rfl ?_
            refine mz_ifF (show ¬ ((nI HH) ≤ 0) from (sm_nleN rfl rfl (show 0 < HH by omega) (show HH < 2 ^ 31 by omega))) ?_
            refine mz_go 2 (c' := (19, [some (.ref 20)], [.int 1], w)) rfl ?_
            exact mz_ret rfl
          refine mz_go 6 (c' := (67, [some (.ref 0), some (.int 0)], [.ref 20], w)) rfl ?_
          refine mz_doQ (R := mz_r14) (as := [.ref 20]) (rest := []) (r1 := some (.int ve1)) (m1 := w) mz_t14 mz_v14_20 rfl rfl rfl rfl rfl (Ee1.deep (by decide)) ?_
          exact mz_ret rfl
        · obtain ⟨ve1, Ee1⟩ := xc_thr (m := w) hWW hHH h202 h203 
          refine ⟨ve1, w, ⟨?_, rfl⟩, ⟨fun _ _ => rfl, rfl, rfl⟩⟩
          refine mz_go 3 (c' := (3, [some (.ref 0), some (.int 1)], [.int 3, .int 0, .int 1], w)) rfl ?_
          refine mz_doQ (R := mz_r121) (as := [.int 1, .int 0, .int 3]) (rest := []) (r1 := some (.int 1)) (m1 := w) mz_t121 mz_v121 rfl rfl rfl rfl rfl ((cs_in1 (m := w) (v := 1) (a := 0) (b := 3) (by decide) (by decide)).deep (by decide)) ?_
          refine mz_go 4 (c' := (22, [some (.ref 0), some (.int 1)], [.ref 20], w)) rfl ?_
          refine mz_doQ (R := mz_r2) (as := [.ref 20]) (rest := []) (r1 := some (.int 1)) (m1 := w) mz_t2 mz_v2_20 rfl rfl rfl rfl rfl ⟨?_, rfl⟩ ?_
          · refine mz_go 2 (c' := (4, [some (.ref 20)], [.int (w 20 2)], w)) rfl ?_
            rw [h202]
            refine mz_go 1 (c' := (if (nI WW) ≤ 0 then 18 else 7, [some (.ref 20)], [], w)) rfl ?_
            refine mz_ifF (show ¬ ((nI WW) ≤ 0) from (sm_nleN rfl rfl (show 0 < WW by omega) (show WW < 2 ^ 31 by omega))) ?_
            refine mz_go 2 (c' := (11, [some (.ref 20)], [.int (w 20 3)], w)) rfl ?_
            rw [h203]
            refine mz_go 1 (c' := (if (nI HH) ≤ 0 then 18 else 14, [some (.ref 20)], [], w)) rfl ?_
            refine mz_ifF (show ¬ ((nI HH) ≤ 0) from (sm_nleN rfl rfl (show 0 < HH by omega) (show HH < 2 ^ 31 by omega))) ?_
            refine mz_go 2 (c' := (19, [some (.ref 20)], [.int 1], w)) rfl ?_
            exact mz_ret rfl
          refine mz_go 6 (c' := (78, [some (.ref 0), some (.int 1)], [.ref 20], w)) rfl ?_
          refine mz_doQ (R := mz_r15) (as := [.ref 20]) (rest := []) (r1 := some (.int ve1)) (m1 := w) mz_t15 mz_v15_20 rfl rfl rfl rfl rfl (Ee1.deep (by decide)) ?_
          exact mz_ret rfl
        · obtain ⟨ve1, s50e1, s51e1, s52e1, Ee1⟩ := xw_fin (w := w) hw hN h4 hr5 hr80 hWW hHH hWH h202 h203 hT2 hV2 
          refine ⟨ve1, mz_set (mz_set (mz_set w 50 s50e1) 51 s51e1) 52 s52e1, ⟨?_, rfl⟩, ⟨fun i hi => (by simp only [mz_set_ne (sm_scne hi (r := 50) rfl), mz_set_ne (sm_scne hi (r := 51) rfl), mz_set_ne (sm_scne hi (r := 52) rfl)]), rfl, rfl⟩⟩
          refine mz_go 3 (c' := (3, [some (.ref 0), some (.int 2)], [.int 3, .int 0, .int 2], w)) rfl ?_
          refine mz_doQ (R := mz_r121) (as := [.int 2, .int 0, .int 3]) (rest := []) (r1 := some (.int 1)) (m1 := w) mz_t121 mz_v121 rfl rfl rfl rfl rfl ((cs_in1 (m := w) (v := 2) (a := 0) (b := 3) (by decide) (by decide)).deep (by decide)) ?_
          refine mz_go 4 (c' := (22, [some (.ref 0), some (.int 2)], [.ref 20], w)) rfl ?_
          refine mz_doQ (R := mz_r2) (as := [.ref 20]) (rest := []) (r1 := some (.int 1)) (m1 := w) mz_t2 mz_v2_20 rfl rfl rfl rfl rfl ⟨?_, rfl⟩ ?_
          · refine mz_go 2 (c' := (4, [some (.ref 20)], [.int (w 20 2)], w)) rfl ?_
            rw [h202]
            refine mz_go 1 (c' := (if (nI WW) ≤ 0 then 18 else 7, [some (.ref 20)], [], w)) rfl ?_
            refine mz_ifF (show ¬ ((nI WW) ≤ 0) from (sm_nleN rfl rfl (show 0 < WW by omega) (show WW < 2 ^ 31 by omega))) ?_
            refine mz_go 2 (c' := (11, [some (.ref 20)], [.int (w 20 3)], w)) rfl ?_
            rw [h203]
            refine mz_go 1 (c' := (if (nI HH) ≤ 0 then 18 else 14, [some (.ref 20)], [], w)) rfl ?_
            refine mz_ifF (show ¬ ((nI HH) ≤ 0) from (sm_nleN rfl rfl (show 0 < HH by omega) (show HH < 2 ^ 31 by omega))) ?_
            refine mz_go 2 (c' := (19, [some (.ref 20)], [.int 1], w)) rfl ?_
            exact mz_ret rfl
          refine mz_go 4 (c' := (83, [some (.ref 0), some (.int 2)], [.ref 0], w)) rfl ?_
          refine mz_doQ (R := mz_r110) (as := [.ref 0]) (rest := []) (r1 := some (.int ve1)) (m1 := mz_set (mz_set (mz_set w 50 s50e1) 51 s51e1) 52 s52e1) mz_t110 mz_v110_0 rfl rfl rfl rfl rfl (Ee1.deep (by decide)) ?_
          exact mz_ret rfl
set_option maxHeartbeats 4000000 in
set_option maxRecDepth 100000 in
theorem xw_suri {w : mz_M} {N : Nat} (hw : sm_W w N) (hN : N ≤ 6) (h4 : w 2 4 = nI N) (hr5 : w 7 5 = 1 ∨ w 7 5 = 2) (hr80 : sm_N 80 (w 7 2)) {WW HH : Nat} (hWW : WW ≤ 6) (hHH : HH ≤ 6) (hWH : WW = 0 ↔ HH = 0) (h202 : w 20 2 = nI WW) (h203 : w 20 3 = nI HH) {T2 : Nat} (hT2 : w 16 2 = nI T2) (hV2 : T2 = 0 ∨ sm_wf T2 5 (w 17) (w 18)) {xa xb xc : Int32} (hBd : sm_B 1000 xb) {p7 : Nat} (h7 : p7 < HH) (HX : ∀ (x5 : Int32) (x6 : Int32) (x9 : Option Value), ∃ v m', mz_Ex 100 mz_k90 (126, [some (.ref 0), some (.int xa), some (.int xb), some (.int xc), some (.ref 20), some (.int x5), some (.int x6), some (.int (nI p7)), some (.int (nI WW)), x9], [], w) (some (.int v), m') ∧ sm_Sc w m') : ∀ j k : Nat, k + j = WW → ∀ (x5 : Int32) (x6 : Int32) (x9 : Option Value), ∃ v m', mz_Ex 100 mz_k90 (76, [some (.ref 0), some (.int xa), some (.int xb), some (.int xc), some (.ref 20), some (.int x5), some (.int x6), some (.int (nI p7)), some (.int (nI k)), x9], [], w) (some (.int v), m') ∧ sm_Sc w m' := by
  have hT60c := sm_T60 hV2
  intro j
  induction j with
  | zero =>
    intro k hk x5 x6 x9
    rw [show k = WW by omega]
    obtain ⟨vr, mr, hr, hsc⟩ := HX x5 x6 x9
    refine ⟨vr, mr, ?_, hsc⟩
    refine mz_go 3 (c' := (83, [some (.ref 0), some (.int xa), some (.int xb), some (.int xc), some (.ref 20), some (.int x5), some (.int x6), some (.int (nI p7)), some (.int (nI WW)), x9], [.int (w 20 2), .int (nI WW)], w)) rfl ?_
    rw [h202]
    refine mz_go 1 (c' := (if (nI WW) ≤ (nI WW) then 126 else 86, [some (.ref 0), some (.int xa), some (.int xb), some (.int xc), some (.ref 20), some (.int x5), some (.int x6), some (.int (nI p7)), some (.int (nI WW)), x9], [], w)) rfl ?_
    refine mz_ifT (show ((nI WW) ≤ (nI WW)) from (sm_leN rfl rfl (show WW ≤ WW by omega) (show WW < 2 ^ 31 by omega))) ?_
    exact hr
  | succ j ih =>
    intro k hk x5 x6 x9
    obtain ⟨ve1, Ee1⟩ := xc_aro (m := w) hWW hHH h202 h203 (sm_BN (k := k) (a := 1000) (by omega) (by decide)) (sm_BN (k := p7) (a := 1000) (by omega) (by decide)) hBd xa
    by_cases q1 : ve1 ≤ x5
    · obtain ⟨vr, mr, hr, hsc⟩ := ih (k + 1) (by omega) x5 x6 (some (.int ve1))
      rw [nI_succ k] at hr
      refine ⟨vr, mr, ?_, hsc⟩
      refine mz_go 3 (c' := (83, [some (.ref 0), some (.int xa), some (.int xb), some (.int xc), some (.ref 20), some (.int x5), some (.int x6), some (.int (nI p7)), some (.int (nI k)), x9], [.int (w 20 2), .int (nI k)], w)) rfl ?_
      rw [h202]
      refine mz_go 1 (c' := (if (nI WW) ≤ (nI k) then 126 else 86, [some (.ref 0), some (.int xa), some (.int xb), some (.int xc), some (.ref 20), some (.int x5), some (.int x6), some (.int (nI p7)), some (.int (nI k)), x9], [], w)) rfl ?_
      refine mz_ifF (show ¬ ((nI WW) ≤ (nI k)) from (sm_nleN rfl rfl (show k < WW by omega) (show WW < 2 ^ 31 by omega))) ?_
      refine mz_go 5 (c' := (94, [some (.ref 0), some (.int xa), some (.int xb), some (.int xc), some (.ref 20), some (.int x5), some (.int x6), some (.int (nI p7)), some (.int (nI k)), x9], [.int xa, .int xb, .int (nI p7), .int (nI k), .ref 20], w)) rfl ?_
      refine mz_doQ (R := mz_r10) (as := [.ref 20, .int (nI k), .int (nI p7), .int xb, .int xa]) (rest := []) (r1 := some (.int ve1)) (m1 := w) mz_t10 mz_v10_20 rfl rfl rfl rfl rfl (Ee1.deep (by decide)) ?_
      refine mz_go 4 (c' := (if ve1 ≤ x5 then 120 else 106, [some (.ref 0), some (.int xa), some (.int xb), some (.int xc), some (.ref 20), some (.int x5), some (.int x6), some (.int (nI p7)), some (.int (nI k)), some (.int ve1)], [], w)) rfl ?_
      refine mz_ifT q1 ?_
      refine mz_go 2 (c' := (76, [some (.ref 0), some (.int xa), some (.int xb), some (.int xc), some (.ref 20), some (.int x5), some (.int x6), some (.int (nI p7)), some (.int ((nI k) + 1)), some (.int ve1)], [], w)) rfl ?_
      exact hr
    · obtain ⟨vr, mr, hr, hsc⟩ := ih (k + 1) (by omega) ve1 ((10 * (nI k)) + (nI p7)) (some (.int ve1))
      rw [nI_succ k] at hr
      refine ⟨vr, mr, ?_, hsc⟩
      refine mz_go 3 (c' := (83, [some (.ref 0), some (.int xa), some (.int xb), some (.int xc), some (.ref 20), some (.int x5), some (.int x6), some (.int (nI p7)), some (.int (nI k)), x9], [.int (w 20 2), .int (nI k)], w)) rfl ?_
      rw [h202]
      refine mz_go 1 (c' := (if (nI WW) ≤ (nI k) then 126 else 86, [some (.ref 0), some (.int xa), some (.int xb), some (.int xc), some (.ref 20), some (.int x5), some (.int x6), some (.int (nI p7)), some (.int (nI k)), x9], [], w)) rfl ?_
      refine mz_ifF (show ¬ ((nI WW) ≤ (nI k)) from (sm_nleN rfl rfl (show k < WW by omega) (show WW < 2 ^ 31 by omega))) ?_
      refine mz_go 5 (c' := (94, [some (.ref 0), some (.int xa), some (.int xb), some (.int xc), some (.ref 20), some (.int x5), some (.int x6), some (.int (nI p7)), some (.int (nI k)), x9], [.int xa, .int xb, .int (nI p7), .int (nI k), .ref 20], w)) rfl ?_
      refine mz_doQ (R := mz_r10) (as := [.ref 20, .int (nI k), .int (nI p7), .int xb, .int xa]) (rest := []) (r1 := some (.int ve1)) (m1 := w) mz_t10 mz_v10_20 rfl rfl rfl rfl rfl (Ee1.deep (by decide)) ?_
      refine mz_go 4 (c' := (if ve1 ≤ x5 then 120 else 106, [some (.ref 0), some (.int xa), some (.int xb), some (.int xc), some (.ref 20), some (.int x5), some (.int x6), some (.int (nI p7)), some (.int (nI k)), some (.int ve1)], [], w)) rfl ?_
      refine mz_ifF q1 ?_
      refine mz_go 10 (c' := (76, [some (.ref 0), some (.int xa), some (.int xb), some (.int xc), some (.ref 20), some (.int ve1), some (.int ((10 * (nI k)) + (nI p7))), some (.int (nI p7)), some (.int ((nI k) + 1)), some (.int ve1)], [], w)) rfl ?_
      exact hr
set_option maxHeartbeats 4000000 in
set_option maxRecDepth 100000 in
theorem xw_surj {w : mz_M} {N : Nat} (hw : sm_W w N) (hN : N ≤ 6) (h4 : w 2 4 = nI N) (hr5 : w 7 5 = 1 ∨ w 7 5 = 2) (hr80 : sm_N 80 (w 7 2)) {WW HH : Nat} (hWW : WW ≤ 6) (hHH : HH ≤ 6) (hWH : WW = 0 ↔ HH = 0) (h202 : w 20 2 = nI WW) (h203 : w 20 3 = nI HH) {T2 : Nat} (hT2 : w 16 2 = nI T2) (hV2 : T2 = 0 ∨ sm_wf T2 5 (w 17) (w 18)) {xa xb xc : Int32} (hBd : sm_B 1000 xb) (HX : ∀ (x5 : Int32) (x6 : Int32) (x8 : Option Value) (x9 : Option Value), ∃ v m', mz_Ex 100 mz_k90 (132, [some (.ref 0), some (.int xa), some (.int xb), some (.int xc), some (.ref 20), some (.int x5), some (.int x6), some (.int (nI HH)), x8, x9], [], w) (some (.int v), m') ∧ sm_Sc w m') : ∀ j k : Nat, k + j = HH → ∀ (x5 : Int32) (x6 : Int32) (x8 : Option Value) (x9 : Option Value), ∃ v m', mz_Ex 100 mz_k90 (63, [some (.ref 0), some (.int xa), some (.int xb), some (.int xc), some (.ref 20), some (.int x5), some (.int x6), some (.int (nI k)), x8, x9], [], w) (some (.int v), m') ∧ sm_Sc w m' := by
  have hT60c := sm_T60 hV2
  intro j
  induction j with
  | zero =>
    intro k hk x5 x6 x8 x9
    rw [show k = HH by omega]
    obtain ⟨vr, mr, hr, hsc⟩ := HX x5 x6 x8 x9
    refine ⟨vr, mr, ?_, hsc⟩
    refine mz_go 3 (c' := (70, [some (.ref 0), some (.int xa), some (.int xb), some (.int xc), some (.ref 20), some (.int x5), some (.int x6), some (.int (nI HH)), x8, x9], [.int (w 20 3), .int (nI HH)], w)) rfl ?_
    rw [h203]
    refine mz_go 1 (c' := (if (nI HH) ≤ (nI HH) then 132 else 73, [some (.ref 0), some (.int xa), some (.int xb), some (.int xc), some (.ref 20), some (.int x5), some (.int x6), some (.int (nI HH)), x8, x9], [], w)) rfl ?_
    refine mz_ifT (show ((nI HH) ≤ (nI HH)) from (sm_leN rfl rfl (show HH ≤ HH by omega) (show HH < 2 ^ 31 by omega))) ?_
    exact hr
  | succ j ih =>
    intro k hk x5 x6 x8 x9
    have HX1 : ∀ (x5_1 : Int32) (x6_1 : Int32) (x9_1 : Option Value), ∃ v m', mz_Ex 100 mz_k90 (126, [some (.ref 0), some (.int xa), some (.int xb), some (.int xc), some (.ref 20), some (.int x5_1), some (.int x6_1), some (.int (nI k)), some (.int (nI WW)), x9_1], [], w) (some (.int v), m') ∧ sm_Sc w m' := by
      intro x5_1 x6_1 x9_1
      obtain ⟨vr, mr, hr, hsc⟩ := ih (k + 1) (by omega) x5_1 x6_1 (some (.int (nI WW))) x9_1
      rw [nI_succ k] at hr
      refine ⟨vr, mr, ?_, hsc⟩
      refine mz_go 2 (c' := (63, [some (.ref 0), some (.int xa), some (.int xb), some (.int xc), some (.ref 20), some (.int x5_1), some (.int x6_1), some (.int ((nI k) + 1)), some (.int (nI WW)), x9_1], [], w)) rfl ?_
      exact hr
    obtain ⟨vr, mr, hr, hsc⟩ := xw_suri hw hN h4 hr5 hr80 hWW hHH hWH h202 h203 hT2 hV2 (xa := xa) (xc := xc) hBd (p7 := k) (by omega) HX1 WW 0 (by omega) x5 x6 x9
    refine ⟨vr, mr, ?_, hsc⟩
    refine mz_go 3 (c' := (70, [some (.ref 0), some (.int xa), some (.int xb), some (.int xc), some (.ref 20), some (.int x5), some (.int x6), some (.int (nI k)), x8, x9], [.int (w 20 3), .int (nI k)], w)) rfl ?_
    rw [h203]
    refine mz_go 1 (c' := (if (nI HH) ≤ (nI k) then 132 else 73, [some (.ref 0), some (.int xa), some (.int xb), some (.int xc), some (.ref 20), some (.int x5), some (.int x6), some (.int (nI k)), x8, x9], [], w)) rfl ?_
    refine mz_ifF (show ¬ ((nI HH) ≤ (nI k)) from (sm_nleN rfl rfl (show k < HH by omega) (show HH < 2 ^ 31 by omega))) ?_
    refine mz_go 2 (c' := (76, [some (.ref 0), some (.int xa), some (.int xb), some (.int xc), some (.ref 20), some (.int x5), some (.int x6), some (.int (nI k)), some (.int 0), x9], [], w)) rfl ?_
    exact hr
set_option maxHeartbeats 4000000 in
set_option maxRecDepth 100000 in
theorem xw_sure {w : mz_M} {N : Nat} (hw : sm_W w N) (hN : N ≤ 6) (h4 : w 2 4 = nI N) (hr5 : w 7 5 = 1 ∨ w 7 5 = 2) (hr80 : sm_N 80 (w 7 2)) {WW HH : Nat} (hWW : WW ≤ 6) (hHH : HH ≤ 6) (hWH : WW = 0 ↔ HH = 0) (h202 : w 20 2 = nI WW) (h203 : w 20 3 = nI HH) {T2 : Nat} (hT2 : w 16 2 = nI T2) (hV2 : T2 = 0 ∨ sm_wf T2 5 (w 17) (w 18)) (xa xb xc : Int32) : ∃ v m', mz_Me 100 mz_r90 [.ref 0, .int xa, .int xb, .int xc] w (some (.int v)) m' ∧ sm_Sc w m' := by
  have hT60c := sm_T60 hV2
  by_cases q1 : xa = 9
  · by_cases q2 : (sm_bI (sm_in xb 0 5)) = 0
    · refine ⟨(-1000001), mz_up w 64 1 ((w 64 1) + 1), ⟨?_, rfl⟩, ⟨fun i hi => (by simp only [mz_up_ne (sm_scne hi (r := 64) rfl)]), rfl, rfl⟩⟩
      refine mz_go 1 (c' := (1, [some (.ref 0), some (.int xa), some (.int xb), some (.int xc), none, none, none, none, none, none], [.int xa], w)) rfl ?_
      refine mz_doQ (R := mz_r118) (as := [.int xa]) (rest := []) (r1 := some (.int 1)) (m1 := w) mz_t118 mz_v118 rfl rfl rfl rfl rfl ⟨?_, rfl⟩ ?_
      · refine mz_go 3 (c' := (if xa = 9 then 15 else 6, [some (.int xa)], [], w)) rfl ?_
        refine mz_ifT q1 ?_
        refine mz_go 2 (c' := (20, [some (.int xa)], [.int 1], w)) rfl ?_
        exact mz_ret rfl
      refine mz_go 4 (c' := (10, [some (.ref 0), some (.int xa), some (.int xb), some (.int xc), none, none, none, none, none, none], [.int 5, .int 0, .int xb], w)) rfl ?_
      refine mz_doQ (R := mz_r121) (as := [.int xb, .int 0, .int 5]) (rest := []) (r1 := some (.int (sm_bI (sm_in xb 0 5)))) (m1 := w) mz_t121 mz_v121 rfl rfl rfl rfl rfl ((cs_in (m := w) xb 0 5).deep (by decide)) ?_
      refine mz_go 1 (c' := (if (sm_bI (sm_in xb 0 5)) = 0 then 25 else 16, [some (.ref 0), some (.int xa), some (.int xb), some (.int xc), none, none, none, none, none, none], [], w)) rfl ?_
      refine mz_ifT q2 ?_
      refine mz_go 2 (c' := (27, [some (.ref 0), some (.int xa), some (.int xb), some (.int xc), none, none, none, none, none, none], [.int 1, .ref 0], w)) rfl ?_
      refine mz_doQ (R := mz_r109) (as := [.ref 0, .int 1]) (rest := []) (r1 := some (.int (-1000001))) (m1 := mz_up w 64 1 ((w 64 1) + 1)) mz_t109 mz_v109_0 rfl rfl rfl rfl rfl ((cs_err1 (m := w)).deep (by decide)) ?_
      exact mz_ret rfl
    · by_cases q3 : (sm_bI (sm_in xc 0 1)) = 0
      · refine ⟨(-1000001), mz_up w 64 1 ((w 64 1) + 1), ⟨?_, rfl⟩, ⟨fun i hi => (by simp only [mz_up_ne (sm_scne hi (r := 64) rfl)]), rfl, rfl⟩⟩
        refine mz_go 1 (c' := (1, [some (.ref 0), some (.int xa), some (.int xb), some (.int xc), none, none, none, none, none, none], [.int xa], w)) rfl ?_
        refine mz_doQ (R := mz_r118) (as := [.int xa]) (rest := []) (r1 := some (.int 1)) (m1 := w) mz_t118 mz_v118 rfl rfl rfl rfl rfl ⟨?_, rfl⟩ ?_
        · refine mz_go 3 (c' := (if xa = 9 then 15 else 6, [some (.int xa)], [], w)) rfl ?_
          refine mz_ifT q1 ?_
          refine mz_go 2 (c' := (20, [some (.int xa)], [.int 1], w)) rfl ?_
          exact mz_ret rfl
        refine mz_go 4 (c' := (10, [some (.ref 0), some (.int xa), some (.int xb), some (.int xc), none, none, none, none, none, none], [.int 5, .int 0, .int xb], w)) rfl ?_
        refine mz_doQ (R := mz_r121) (as := [.int xb, .int 0, .int 5]) (rest := []) (r1 := some (.int 1)) (m1 := w) mz_t121 mz_v121 rfl rfl rfl rfl rfl ((cs_in1 (m := w) (v := xb) (a := 0) (b := 5) (show ¬ (xb < 0) from (sm_in_lo q2)) (show ¬ (5 < xb) from (sm_in_hi q2))).deep (by decide)) ?_
        refine mz_go 4 (c' := (19, [some (.ref 0), some (.int xa), some (.int xb), some (.int xc), none, none, none, none, none, none], [.int 1, .int 0, .int xc], w)) rfl ?_
        refine mz_doQ (R := mz_r121) (as := [.int xc, .int 0, .int 1]) (rest := []) (r1 := some (.int (sm_bI (sm_in xc 0 1)))) (m1 := w) mz_t121 mz_v121 rfl rfl rfl rfl rfl ((cs_in (m := w) xc 0 1).deep (by decide)) ?_
        refine mz_go 1 (c' := (if (sm_bI (sm_in xc 0 1)) = 0 then 25 else 31, [some (.ref 0), some (.int xa), some (.int xb), some (.int xc), none, none, none, none, none, none], [], w)) rfl ?_
        refine mz_ifT q3 ?_
        refine mz_go 2 (c' := (27, [some (.ref 0), some (.int xa), some (.int xb), some (.int xc), none, none, none, none, none, none], [.int 1, .ref 0], w)) rfl ?_
        refine mz_doQ (R := mz_r109) (as := [.ref 0, .int 1]) (rest := []) (r1 := some (.int (-1000001))) (m1 := mz_up w 64 1 ((w 64 1) + 1)) mz_t109 mz_v109_0 rfl rfl rfl rfl rfl ((cs_err1 (m := w)).deep (by decide)) ?_
        exact mz_ret rfl
      · by_cases q4 : WW ≤ 0
        · refine ⟨(-1000002), mz_up w 64 2 ((w 64 2) + 1), ⟨?_, rfl⟩, ⟨fun i hi => (by simp only [mz_up_ne (sm_scne hi (r := 64) rfl)]), rfl, rfl⟩⟩
          refine mz_go 1 (c' := (1, [some (.ref 0), some (.int xa), some (.int xb), some (.int xc), none, none, none, none, none, none], [.int xa], w)) rfl ?_
          refine mz_doQ (R := mz_r118) (as := [.int xa]) (rest := []) (r1 := some (.int 1)) (m1 := w) mz_t118 mz_v118 rfl rfl rfl rfl rfl ⟨?_, rfl⟩ ?_
          · refine mz_go 3 (c' := (if xa = 9 then 15 else 6, [some (.int xa)], [], w)) rfl ?_
            refine mz_ifT q1 ?_
            refine mz_go 2 (c' := (20, [some (.int xa)], [.int 1], w)) rfl ?_
            exact mz_ret rfl
          refine mz_go 4 (c' := (10, [some (.ref 0), some (.int xa), some (.int xb), some (.int xc), none, none, none, none, none, none], [.int 5, .int 0, .int xb], w)) rfl ?_
          refine mz_doQ (R := mz_r121) (as := [.int xb, .int 0, .int 5]) (rest := []) (r1 := some (.int 1)) (m1 := w) mz_t121 mz_v121 rfl rfl rfl rfl rfl ((cs_in1 (m := w) (v := xb) (a := 0) (b := 5) (show ¬ (xb < 0) from (sm_in_lo q2)) (show ¬ (5 < xb) from (sm_in_hi q2))).deep (by decide)) ?_
          refine mz_go 4 (c' := (19, [some (.ref 0), some (.int xa), some (.int xb), some (.int xc), none, none, none, none, none, none], [.int 1, .int 0, .int xc], w)) rfl ?_
          refine mz_doQ (R := mz_r121) (as := [.int xc, .int 0, .int 1]) (rest := []) (r1 := some (.int 1)) (m1 := w) mz_t121 mz_v121 rfl rfl rfl rfl rfl ((cs_in1 (m := w) (v := xc) (a := 0) (b := 1) (show ¬ (xc < 0) from (sm_in_lo q3)) (show ¬ (1 < xc) from (sm_in_hi q3))).deep (by decide)) ?_
          refine mz_go 6 (c' := (42, [some (.ref 0), some (.int xa), some (.int xb), some (.int xc), some (.ref 20), none, none, none, none, none], [.ref 20], w)) rfl ?_
          refine mz_doQ (R := mz_r2) (as := [.ref 20]) (rest := []) (r1 := some (.int 0)) (m1 := w) mz_t2 mz_v2_20 rfl rfl rfl rfl rfl ⟨?_, rfl⟩ ?_
          · refine mz_go 2 (c' := (4, [some (.ref 20)], [.int (w 20 2)], w)) rfl ?_
            rw [h202]
            refine mz_go 1 (c' := (if (nI WW) ≤ 0 then 18 else 7, [some (.ref 20)], [], w)) rfl ?_
            refine mz_ifT (show ((nI WW) ≤ 0) from (sm_leN rfl rfl (show WW ≤ 0 by omega) (show 0 < 2 ^ 31 by omega))) ?_
            refine mz_go 1 (c' := (19, [some (.ref 20)], [.int 0], w)) rfl ?_
            exact mz_ret rfl
          refine mz_go 3 (c' := (50, [some (.ref 0), some (.int xa), some (.int xb), some (.int xc), some (.ref 20), none, none, none, none, none], [.int 2, .ref 0], w)) rfl ?_
          refine mz_doQ (R := mz_r109) (as := [.ref 0, .int 2]) (rest := []) (r1 := some (.int (-1000002))) (m1 := mz_up w 64 2 ((w 64 2) + 1)) mz_t109 mz_v109_0 rfl rfl rfl rfl rfl ((cs_err2 (m := w)).deep (by decide)) ?_
          exact mz_ret rfl
        · have HX2 : ∀ (x5_2 : Int32) (x6_2 : Int32) (x8_2 : Option Value) (x9_2 : Option Value), ∃ v m', mz_Ex 100 mz_k90 (132, [some (.ref 0), some (.int xa), some (.int xb), some (.int xc), some (.ref 20), some (.int x5_2), some (.int x6_2), some (.int (nI HH)), x8_2, x9_2], [], w) (some (.int v), m') ∧ sm_Sc w m' := by
            intro x5_2 x6_2 x8_2 x9_2
            by_cases q5 : xc = 0
            · refine ⟨x6_2, w, ?_, ⟨fun _ _ => rfl, rfl, rfl⟩⟩
              refine mz_go 2 (c' := (if xc = 0 then 136 else 141, [some (.ref 0), some (.int xa), some (.int xb), some (.int xc), some (.ref 20), some (.int x5_2), some (.int x6_2), some (.int (nI HH)), x8_2, x9_2], [], w)) rfl ?_
              refine mz_ifT q5 ?_
              refine mz_go 2 (c' := (143, [some (.ref 0), some (.int xa), some (.int xb), some (.int xc), some (.ref 20), some (.int x5_2), some (.int x6_2), some (.int (nI HH)), x8_2, x9_2], [.int x6_2], w)) rfl ?_
              exact mz_ret rfl
            · refine ⟨x5_2, w, ?_, ⟨fun _ _ => rfl, rfl, rfl⟩⟩
              refine mz_go 2 (c' := (if xc = 0 then 136 else 141, [some (.ref 0), some (.int xa), some (.int xb), some (.int xc), some (.ref 20), some (.int x5_2), some (.int x6_2), some (.int (nI HH)), x8_2, x9_2], [], w)) rfl ?_
              refine mz_ifF q5 ?_
              refine mz_go 1 (c' := (143, [some (.ref 0), some (.int xa), some (.int xb), some (.int xc), some (.ref 20), some (.int x5_2), some (.int x6_2), some (.int (nI HH)), x8_2, x9_2], [.int x5_2], w)) rfl ?_
              exact mz_ret rfl
          obtain ⟨vr, mr, hr, hsc⟩ := xw_surj hw hN h4 hr5 hr80 hWW hHH hWH h202 h203 hT2 hV2 (xa := xa) (xc := xc) (sm_Bd (sm_in_lo q2) (sm_in_hi q2)) HX2 HH 0 (by omega) (-1) 0 none none
          refine ⟨vr, mr, ⟨?_, rfl⟩, hsc⟩
          refine mz_go 1 (c' := (1, [some (.ref 0), some (.int xa), some (.int xb), some (.int xc), none, none, none, none, none, none], [.int xa], w)) rfl ?_
          refine mz_doQ (R := mz_r118) (as := [.int xa]) (rest := []) (r1 := some (.int 1)) (m1 := w) mz_t118 mz_v118 rfl rfl rfl rfl rfl ⟨?_, rfl⟩ ?_
          · refine mz_go 3 (c' := (if xa = 9 then 15 else 6, [some (.int xa)], [], w)) rfl ?_
            refine mz_ifT q1 ?_
            refine mz_go 2 (c' := (20, [some (.int xa)], [.int 1], w)) rfl ?_
            exact mz_ret rfl
          refine mz_go 4 (c' := (10, [some (.ref 0), some (.int xa), some (.int xb), some (.int xc), none, none, none, none, none, none], [.int 5, .int 0, .int xb], w)) rfl ?_
          refine mz_doQ (R := mz_r121) (as := [.int xb, .int 0, .int 5]) (rest := []) (r1 := some (.int 1)) (m1 := w) mz_t121 mz_v121 rfl rfl rfl rfl rfl ((cs_in1 (m := w) (v := xb) (a := 0) (b := 5) (show ¬ (xb < 0) from (sm_in_lo q2)) (show ¬ (5 < xb) from (sm_in_hi q2))).deep (by decide)) ?_
          refine mz_go 4 (c' := (19, [some (.ref 0), some (.int xa), some (.int xb), some (.int xc), none, none, none, none, none, none], [.int 1, .int 0, .int xc], w)) rfl ?_
          refine mz_doQ (R := mz_r121) (as := [.int xc, .int 0, .int 1]) (rest := []) (r1 := some (.int 1)) (m1 := w) mz_t121 mz_v121 rfl rfl rfl rfl rfl ((cs_in1 (m := w) (v := xc) (a := 0) (b := 1) (show ¬ (xc < 0) from (sm_in_lo q3)) (show ¬ (1 < xc) from (sm_in_hi q3))).deep (by decide)) ?_
          refine mz_go 6 (c' := (42, [some (.ref 0), some (.int xa), some (.int xb), some (.int xc), some (.ref 20), none, none, none, none, none], [.ref 20], w)) rfl ?_
          refine mz_doQ (R := mz_r2) (as := [.ref 20]) (rest := []) (r1 := some (.int 1)) (m1 := w) mz_t2 mz_v2_20 rfl rfl rfl rfl rfl ⟨?_, rfl⟩ ?_
          · refine mz_go 2 (c' := (4, [some (.ref 20)], [.int (w 20 2)], w)) rfl ?_
            rw [h202]
            refine mz_go 1 (c' := (if (nI WW) ≤ 0 then 18 else 7, [some (.ref 20)], [], w)) rfl ?_
            refine mz_ifF (show ¬ ((nI WW) ≤ 0) from (sm_nleN rfl rfl (show 0 < WW by omega) (show WW < 2 ^ 31 by omega))) ?_
            refine mz_go 2 (c' := (11, [some (.ref 20)], [.int (w 20 3)], w)) rfl ?_
            rw [h203]
            refine mz_go 1 (c' := (if (nI HH) ≤ 0 then 18 else 14, [some (.ref 20)], [], w)) rfl ?_
            refine mz_ifF (show ¬ ((nI HH) ≤ 0) from (sm_nleN rfl rfl (show 0 < HH by omega) (show HH < 2 ^ 31 by omega))) ?_
            refine mz_go 2 (c' := (19, [some (.ref 20)], [.int 1], w)) rfl ?_
            exact mz_ret rfl
          refine mz_go 7 (c' := (63, [some (.ref 0), some (.int xa), some (.int xb), some (.int xc), some (.ref 20), some (.int (-1)), some (.int 0), some (.int 0), none, none], [], w)) rfl ?_
          exact hr
  · by_cases q6 : (sm_bI (sm_in xa 0 5)) = 0
    · refine ⟨(-1000001), mz_up w 64 1 ((w 64 1) + 1), ⟨?_, rfl⟩, ⟨fun i hi => (by simp only [mz_up_ne (sm_scne hi (r := 64) rfl)]), rfl, rfl⟩⟩
      refine mz_go 1 (c' := (1, [some (.ref 0), some (.int xa), some (.int xb), some (.int xc), none, none, none, none, none, none], [.int xa], w)) rfl ?_
      refine mz_doQ (R := mz_r118) (as := [.int xa]) (rest := []) (r1 := some (.int 0)) (m1 := w) mz_t118 mz_v118 rfl rfl rfl rfl rfl ⟨?_, rfl⟩ ?_
      · refine mz_go 3 (c' := (if xa = 9 then 15 else 6, [some (.int xa)], [], w)) rfl ?_
        refine mz_ifF q1 ?_
        refine mz_go 3 (c' := (9, [some (.int xa)], [.int 5, .int 0, .int xa], w)) rfl ?_
        refine mz_doQ (R := mz_r121) (as := [.int xa, .int 0, .int 5]) (rest := []) (r1 := some (.int (sm_bI (sm_in xa 0 5)))) (m1 := w) mz_t121 mz_v121 rfl rfl rfl rfl rfl ((cs_in (m := w) xa 0 5).deep (by decide)) ?_
        refine mz_go 1 (c' := (if (sm_bI (sm_in xa 0 5)) = 0 then 19 else 15, [some (.int xa)], [], w)) rfl ?_
        refine mz_ifT q6 ?_
        refine mz_go 1 (c' := (20, [some (.int xa)], [.int 0], w)) rfl ?_
        exact mz_ret rfl
      refine mz_go 3 (c' := (27, [some (.ref 0), some (.int xa), some (.int xb), some (.int xc), none, none, none, none, none, none], [.int 1, .ref 0], w)) rfl ?_
      refine mz_doQ (R := mz_r109) (as := [.ref 0, .int 1]) (rest := []) (r1 := some (.int (-1000001))) (m1 := mz_up w 64 1 ((w 64 1) + 1)) mz_t109 mz_v109_0 rfl rfl rfl rfl rfl ((cs_err1 (m := w)).deep (by decide)) ?_
      exact mz_ret rfl
    · by_cases q7 : (sm_bI (sm_in xb 0 5)) = 0
      · refine ⟨(-1000001), mz_up w 64 1 ((w 64 1) + 1), ⟨?_, rfl⟩, ⟨fun i hi => (by simp only [mz_up_ne (sm_scne hi (r := 64) rfl)]), rfl, rfl⟩⟩
        refine mz_go 1 (c' := (1, [some (.ref 0), some (.int xa), some (.int xb), some (.int xc), none, none, none, none, none, none], [.int xa], w)) rfl ?_
        refine mz_doQ (R := mz_r118) (as := [.int xa]) (rest := []) (r1 := some (.int 1)) (m1 := w) mz_t118 mz_v118 rfl rfl rfl rfl rfl ⟨?_, rfl⟩ ?_
        · refine mz_go 3 (c' := (if xa = 9 then 15 else 6, [some (.int xa)], [], w)) rfl ?_
          refine mz_ifF q1 ?_
          refine mz_go 3 (c' := (9, [some (.int xa)], [.int 5, .int 0, .int xa], w)) rfl ?_
          refine mz_doQ (R := mz_r121) (as := [.int xa, .int 0, .int 5]) (rest := []) (r1 := some (.int 1)) (m1 := w) mz_t121 mz_v121 rfl rfl rfl rfl rfl ((cs_in1 (m := w) (v := xa) (a := 0) (b := 5) (show ¬ (xa < 0) from (sm_in_lo q6)) (show ¬ (5 < xa) from (sm_in_hi q6))).deep (by decide)) ?_
          refine mz_go 3 (c' := (20, [some (.int xa)], [.int 1], w)) rfl ?_
          exact mz_ret rfl
        refine mz_go 4 (c' := (10, [some (.ref 0), some (.int xa), some (.int xb), some (.int xc), none, none, none, none, none, none], [.int 5, .int 0, .int xb], w)) rfl ?_
        refine mz_doQ (R := mz_r121) (as := [.int xb, .int 0, .int 5]) (rest := []) (r1 := some (.int (sm_bI (sm_in xb 0 5)))) (m1 := w) mz_t121 mz_v121 rfl rfl rfl rfl rfl ((cs_in (m := w) xb 0 5).deep (by decide)) ?_
        refine mz_go 1 (c' := (if (sm_bI (sm_in xb 0 5)) = 0 then 25 else 16, [some (.ref 0), some (.int xa), some (.int xb), some (.int xc), none, none, none, none, none, none], [], w)) rfl ?_
        refine mz_ifT q7 ?_
        refine mz_go 2 (c' := (27, [some (.ref 0), some (.int xa), some (.int xb), some (.int xc), none, none, none, none, none, none], [.int 1, .ref 0], w)) rfl ?_
        refine mz_doQ (R := mz_r109) (as := [.ref 0, .int 1]) (rest := []) (r1 := some (.int (-1000001))) (m1 := mz_up w 64 1 ((w 64 1) + 1)) mz_t109 mz_v109_0 rfl rfl rfl rfl rfl ((cs_err1 (m := w)).deep (by decide)) ?_
        exact mz_ret rfl
      · by_cases q8 : (sm_bI (sm_in xc 0 1)) = 0
        · refine ⟨(-1000001), mz_up w 64 1 ((w 64 1) + 1), ⟨?_, rfl⟩, ⟨fun i hi => (by simp only [mz_up_ne (sm_scne hi (r := 64) rfl)]), rfl, rfl⟩⟩
          refine mz_go 1 (c' := (1, [some (.ref 0), some (.int xa), some (.int xb), some (.int xc), none, none, none, none, none, none], [.int xa], w)) rfl ?_
          refine mz_doQ (R := mz_r118) (as := [.int xa]) (rest := []) (r1 := some (.int 1)) (m1 := w) mz_t118 mz_v118 rfl rfl rfl rfl rfl ⟨?_, rfl⟩ ?_
          · refine mz_go 3 (c' := (if xa = 9 then 15 else 6, [some (.int xa)], [], w)) rfl ?_
            refine mz_ifF q1 ?_
            refine mz_go 3 (c' := (9, [some (.int xa)], [.int 5, .int 0, .int xa], w)) rfl ?_
            refine mz_doQ (R := mz_r121) (as := [.int xa, .int 0, .int 5]) (rest := []) (r1 := some (.int 1)) (m1 := w) mz_t121 mz_v121 rfl rfl rfl rfl rfl ((cs_in1 (m := w) (v := xa) (a := 0) (b := 5) (show ¬ (xa < 0) from (sm_in_lo q6)) (show ¬ (5 < xa) from (sm_in_hi q6))).deep (by decide)) ?_
            refine mz_go 3 (c' := (20, [some (.int xa)], [.int 1], w)) rfl ?_
            exact mz_ret rfl
          refine mz_go 4 (c' := (10, [some (.ref 0), some (.int xa), some (.int xb), some (.int xc), none, none, none, none, none, none], [.int 5, .int 0, .int xb], w)) rfl ?_
          refine mz_doQ (R := mz_r121) (as := [.int xb, .int 0, .int 5]) (rest := []) (r1 := some (.int 1)) (m1 := w) mz_t121 mz_v121 rfl rfl rfl rfl rfl ((cs_in1 (m := w) (v := xb) (a := 0) (b := 5) (show ¬ (xb < 0) from (sm_in_lo q7)) (show ¬ (5 < xb) from (sm_in_hi q7))).deep (by decide)) ?_
          refine mz_go 4 (c' := (19, [some (.ref 0), some (.int xa), some (.int xb), some (.int xc), none, none, none, none, none, none], [.int 1, .int 0, .int xc], w)) rfl ?_
          refine mz_doQ (R := mz_r121) (as := [.int xc, .int 0, .int 1]) (rest := []) (r1 := some (.int (sm_bI (sm_in xc 0 1)))) (m1 := w) mz_t121 mz_v121 rfl rfl rfl rfl rfl ((cs_in (m := w) xc 0 1).deep (by decide)) ?_
          refine mz_go 1 (c' := (if (sm_bI (sm_in xc 0 1)) = 0 then 25 else 31, [some (.ref 0), some (.int xa), some (.int xb), some (.int xc), none, none, none, none, none, none], [], w)) rfl ?_
          refine mz_ifT q8 ?_
          refine mz_go 2 (c' := (27, [some (.ref 0), some (.int xa), some (.int xb), some (.int xc), none, none, none, none, none, none], [.int 1, .ref 0], w)) rfl ?_
          refine mz_doQ (R := mz_r109) (as := [.ref 0, .int 1]) (rest := []) (r1 := some (.int (-1000001))) (m1 := mz_up w 64 1 ((w 64 1) + 1)) mz_t109 mz_v109_0 rfl rfl rfl rfl rfl ((cs_err1 (m := w)).deep (by decide)) ?_
          exact mz_ret rfl
        · by_cases q9 : WW ≤ 0
          · refine ⟨(-1000002), mz_up w 64 2 ((w 64 2) + 1), ⟨?_, rfl⟩, ⟨fun i hi => (by simp only [mz_up_ne (sm_scne hi (r := 64) rfl)]), rfl, rfl⟩⟩
            refine mz_go 1 (c' := (1, [some (.ref 0), some (.int xa), some (.int xb), some (.int xc), none, none, none, none, none, none], [.int xa], w)) rfl ?_
            refine mz_doQ (R := mz_r118) (as := [.int xa]) (rest := []) (r1 := some (.int 1)) (m1 := w) mz_t118 mz_v118 rfl rfl rfl rfl rfl ⟨?_, rfl⟩ ?_
            · refine mz_go 3 (c' := (if xa = 9 then 15 else 6, [some (.int xa)], [], w)) rfl ?_
              refine mz_ifF q1 ?_
              refine mz_go 3 (c' := (9, [some (.int xa)], [.int 5, .int 0, .int xa], w)) rfl ?_
              refine mz_doQ (R := mz_r121) (as := [.int xa, .int 0, .int 5]) (rest := []) (r1 := some (.int 1)) (m1 := w) mz_t121 mz_v121 rfl rfl rfl rfl rfl ((cs_in1 (m := w) (v := xa) (a := 0) (b := 5) (show ¬ (xa < 0) from (sm_in_lo q6)) (show ¬ (5 < xa) from (sm_in_hi q6))).deep (by decide)) ?_
              refine mz_go 3 (c' := (20, [some (.int xa)], [.int 1], w)) rfl ?_
              exact mz_ret rfl
            refine mz_go 4 (c' := (10, [some (.ref 0), some (.int xa), some (.int xb), some (.int xc), none, none, none, none, none, none], [.int 5, .int 0, .int xb], w)) rfl ?_
            refine mz_doQ (R := mz_r121) (as := [.int xb, .int 0, .int 5]) (rest := []) (r1 := some (.int 1)) (m1 := w) mz_t121 mz_v121 rfl rfl rfl rfl rfl ((cs_in1 (m := w) (v := xb) (a := 0) (b := 5) (show ¬ (xb < 0) from (sm_in_lo q7)) (show ¬ (5 < xb) from (sm_in_hi q7))).deep (by decide)) ?_
            refine mz_go 4 (c' := (19, [some (.ref 0), some (.int xa), some (.int xb), some (.int xc), none, none, none, none, none, none], [.int 1, .int 0, .int xc], w)) rfl ?_
            refine mz_doQ (R := mz_r121) (as := [.int xc, .int 0, .int 1]) (rest := []) (r1 := some (.int 1)) (m1 := w) mz_t121 mz_v121 rfl rfl rfl rfl rfl ((cs_in1 (m := w) (v := xc) (a := 0) (b := 1) (show ¬ (xc < 0) from (sm_in_lo q8)) (show ¬ (1 < xc) from (sm_in_hi q8))).deep (by decide)) ?_
            refine mz_go 6 (c' := (42, [some (.ref 0), some (.int xa), some (.int xb), some (.int xc), some (.ref 20), none, none, none, none, none], [.ref 20], w)) rfl ?_
            refine mz_doQ (R := mz_r2) (as := [.ref 20]) (rest := []) (r1 := some (.int 0)) (m1 := w) mz_t2 mz_v2_20 rfl rfl rfl rfl rfl ⟨?_, rfl⟩ ?_
            · refine mz_go 2 (c' := (4, [some (.ref 20)], [.int (w 20 2)], w)) rfl ?_
              rw [h202]
              refine mz_go 1 (c' := (if (nI WW) ≤ 0 then 18 else 7, [some (.ref 20)], [], w)) rfl ?_
              refine mz_ifT (show ((nI WW) ≤ 0) from (sm_leN rfl rfl (show WW ≤ 0 by omega) (show 0 < 2 ^ 31 by omega))) ?_
              refine mz_go 1 (c' := (19, [some (.ref 20)], [.int 0], w)) rfl ?_
              exact mz_ret rfl
            refine mz_go 3 (c' := (50, [some (.ref 0), some (.int xa), some (.int xb), some (.int xc), some (.ref 20), none, none, none, none, none], [.int 2, .ref 0], w)) rfl ?_
            refine mz_doQ (R := mz_r109) (as := [.ref 0, .int 2]) (rest := []) (r1 := some (.int (-1000002))) (m1 := mz_up w 64 2 ((w 64 2) + 1)) mz_t109 mz_v109_0 rfl rfl rfl rfl rfl ((cs_err2 (m := w)).deep (by decide)) ?_
            exact mz_ret rfl
          · have HX3 : ∀ (x5_3 : Int32) (x6_3 : Int32) (x8_3 : Option Value) (x9_3 : Option Value), ∃ v m', mz_Ex 100 mz_k90 (132, [some (.ref 0), some (.int xa), some (.int xb), some (.int xc), some (.ref 20), some (.int x5_3), some (.int x6_3), some (.int (nI HH)), x8_3, x9_3], [], w) (some (.int v), m') ∧ sm_Sc w m' := by
              intro x5_3 x6_3 x8_3 x9_3
              by_cases q10 : xc = 0
              · refine ⟨x6_3, w, ?_, ⟨fun _ _ => rfl, rfl, rfl⟩⟩
                refine mz_go 2 (c' := (if xc = 0 then 136 else 141, [some (.ref 0), some (.int xa), some (.int xb), some (.int xc), some (.ref 20), some (.int x5_3), some (.int x6_3), some (.int (nI HH)), x8_3, x9_3], [], w)) rfl ?_
                refine mz_ifT q10 ?_
                refine mz_go 2 (c' := (143, [some (.ref 0), some (.int xa), some (.int xb), some (.int xc), some (.ref 20), some (.int x5_3), some (.int x6_3), some (.int (nI HH)), x8_3, x9_3], [.int x6_3], w)) rfl ?_
                exact mz_ret rfl
              · refine ⟨x5_3, w, ?_, ⟨fun _ _ => rfl, rfl, rfl⟩⟩
                refine mz_go 2 (c' := (if xc = 0 then 136 else 141, [some (.ref 0), some (.int xa), some (.int xb), some (.int xc), some (.ref 20), some (.int x5_3), some (.int x6_3), some (.int (nI HH)), x8_3, x9_3], [], w)) rfl ?_
                refine mz_ifF q10 ?_
                refine mz_go 1 (c' := (143, [some (.ref 0), some (.int xa), some (.int xb), some (.int xc), some (.ref 20), some (.int x5_3), some (.int x6_3), some (.int (nI HH)), x8_3, x9_3], [.int x5_3], w)) rfl ?_
                exact mz_ret rfl
            obtain ⟨vr, mr, hr, hsc⟩ := xw_surj hw hN h4 hr5 hr80 hWW hHH hWH h202 h203 hT2 hV2 (xa := xa) (xc := xc) (sm_Bd (sm_in_lo q7) (sm_in_hi q7)) HX3 HH 0 (by omega) (-1) 0 none none
            refine ⟨vr, mr, ⟨?_, rfl⟩, hsc⟩
            refine mz_go 1 (c' := (1, [some (.ref 0), some (.int xa), some (.int xb), some (.int xc), none, none, none, none, none, none], [.int xa], w)) rfl ?_
            refine mz_doQ (R := mz_r118) (as := [.int xa]) (rest := []) (r1 := some (.int 1)) (m1 := w) mz_t118 mz_v118 rfl rfl rfl rfl rfl ⟨?_, rfl⟩ ?_
            · refine mz_go 3 (c' := (if xa = 9 then 15 else 6, [some (.int xa)], [], w)) rfl ?_
              refine mz_ifF q1 ?_
              refine mz_go 3 (c' := (9, [some (.int xa)], [.int 5, .int 0, .int xa], w)) rfl ?_
              refine mz_doQ (R := mz_r121) (as := [.int xa, .int 0, .int 5]) (rest := []) (r1 := some (.int 1)) (m1 := w) mz_t121 mz_v121 rfl rfl rfl rfl rfl ((cs_in1 (m := w) (v := xa) (a := 0) (b := 5) (show ¬ (xa < 0) from (sm_in_lo q6)) (show ¬ (5 < xa) from (sm_in_hi q6))).deep (by decide)) ?_
              refine mz_go 3 (c' := (20, [some (.int xa)], [.int 1], w)) rfl ?_
              exact mz_ret rfl
            refine mz_go 4 (c' := (10, [some (.ref 0), some (.int xa), some (.int xb), some (.int xc), none, none, none, none, none, none], [.int 5, .int 0, .int xb], w)) rfl ?_
            refine mz_doQ (R := mz_r121) (as := [.int xb, .int 0, .int 5]) (rest := []) (r1 := some (.int 1)) (m1 := w) mz_t121 mz_v121 rfl rfl rfl rfl rfl ((cs_in1 (m := w) (v := xb) (a := 0) (b := 5) (show ¬ (xb < 0) from (sm_in_lo q7)) (show ¬ (5 < xb) from (sm_in_hi q7))).deep (by decide)) ?_
            refine mz_go 4 (c' := (19, [some (.ref 0), some (.int xa), some (.int xb), some (.int xc), none, none, none, none, none, none], [.int 1, .int 0, .int xc], w)) rfl ?_
            refine mz_doQ (R := mz_r121) (as := [.int xc, .int 0, .int 1]) (rest := []) (r1 := some (.int 1)) (m1 := w) mz_t121 mz_v121 rfl rfl rfl rfl rfl ((cs_in1 (m := w) (v := xc) (a := 0) (b := 1) (show ¬ (xc < 0) from (sm_in_lo q8)) (show ¬ (1 < xc) from (sm_in_hi q8))).deep (by decide)) ?_
            refine mz_go 6 (c' := (42, [some (.ref 0), some (.int xa), some (.int xb), some (.int xc), some (.ref 20), none, none, none, none, none], [.ref 20], w)) rfl ?_
            refine mz_doQ (R := mz_r2) (as := [.ref 20]) (rest := []) (r1 := some (.int 1)) (m1 := w) mz_t2 mz_v2_20 rfl rfl rfl rfl rfl ⟨?_, rfl⟩ ?_
            · refine mz_go 2 (c' := (4, [some (.ref 20)], [.int (w 20 2)], w)) rfl ?_
              rw [h202]
              refine mz_go 1 (c' := (if (nI WW) ≤ 0 then 18 else 7, [some (.ref 20)], [], w)) rfl ?_
              refine mz_ifF (show ¬ ((nI WW) ≤ 0) from (sm_nleN rfl rfl (show 0 < WW by omega) (show WW < 2 ^ 31 by omega))) ?_
              refine mz_go 2 (c' := (11, [some (.ref 20)], [.int (w 20 3)], w)) rfl ?_
              rw [h203]
              refine mz_go 1 (c' := (if (nI HH) ≤ 0 then 18 else 14, [some (.ref 20)], [], w)) rfl ?_
              refine mz_ifF (show ¬ ((nI HH) ≤ 0) from (sm_nleN rfl rfl (show 0 < HH by omega) (show HH < 2 ^ 31 by omega))) ?_
              refine mz_go 2 (c' := (19, [some (.ref 20)], [.int 1], w)) rfl ?_
              exact mz_ret rfl
            refine mz_go 7 (c' := (63, [some (.ref 0), some (.int xa), some (.int xb), some (.int xc), some (.ref 20), some (.int (-1)), some (.int 0), some (.int 0), none, none], [], w)) rfl ?_
            exact hr
set_option maxHeartbeats 4000000 in
set_option maxRecDepth 100000 in
theorem xw_turned {w : mz_M} {N : Nat} (hw : sm_W w N) (hN : N ≤ 6) (h4 : w 2 4 = nI N) (hr5 : w 7 5 = 1 ∨ w 7 5 = 2) (hr80 : sm_N 80 (w 7 2)) {WW HH : Nat} (hWW : WW ≤ 6) (hHH : HH ≤ 6) (hWH : WW = 0 ↔ HH = 0) (h202 : w 20 2 = nI WW) (h203 : w 20 3 = nI HH) {T2 : Nat} (hT2 : w 16 2 = nI T2) (hV2 : T2 = 0 ∨ sm_wf T2 5 (w 17) (w 18)) (xa : Int32) : ∃ v m', mz_Me 100 mz_r91 [.ref 0, .int xa] w (some (.int v)) m' ∧ sm_Sc w m' := by
  have hT60c := sm_T60 hV2
  by_cases q1 : (sm_bI (sm_in xa 0 3)) = 0
  · refine ⟨(-1000001), mz_up w 64 1 ((w 64 1) + 1), ⟨?_, rfl⟩, ⟨fun i hi => (by simp only [mz_up_ne (sm_scne hi (r := 64) rfl)]), rfl, rfl⟩⟩
    refine mz_go 3 (c' := (3, [some (.ref 0), some (.int xa)], [.int 3, .int 0, .int xa], w)) rfl ?_
    refine mz_doQ (R := mz_r121) (as := [.int xa, .int 0, .int 3]) (rest := []) (r1 := some (.int (sm_bI (sm_in xa 0 3)))) (m1 := w) mz_t121 mz_v121 rfl rfl rfl rfl rfl ((cs_in (m := w) xa 0 3).deep (by decide)) ?_
    refine mz_go 1 (c' := (if (sm_bI (sm_in xa 0 3)) = 0 then 9 else 15, [some (.ref 0), some (.int xa)], [], w)) rfl ?_
    refine mz_ifT q1 ?_
    refine mz_go 2 (c' := (11, [some (.ref 0), some (.int xa)], [.int 1, .ref 0], w)) rfl ?_
    refine mz_doQ (R := mz_r109) (as := [.ref 0, .int 1]) (rest := []) (r1 := some (.int (-1000001))) (m1 := mz_up w 64 1 ((w 64 1) + 1)) mz_t109 mz_v109_0 rfl rfl rfl rfl rfl ((cs_err1 (m := w)).deep (by decide)) ?_
    exact mz_ret rfl
  · by_cases q2 : WW ≤ 0
    · refine ⟨(-1000002), mz_up w 64 2 ((w 64 2) + 1), ⟨?_, rfl⟩, ⟨fun i hi => (by simp only [mz_up_ne (sm_scne hi (r := 64) rfl)]), rfl, rfl⟩⟩
      refine mz_go 3 (c' := (3, [some (.ref 0), some (.int xa)], [.int 3, .int 0, .int xa], w)) rfl ?_
      refine mz_doQ (R := mz_r121) (as := [.int xa, .int 0, .int 3]) (rest := []) (r1 := some (.int 1)) (m1 := w) mz_t121 mz_v121 rfl rfl rfl rfl rfl ((cs_in1 (m := w) (v := xa) (a := 0) (b := 3) (show ¬ (xa < 0) from (sm_in_lo q1)) (show ¬ (3 < xa) from (sm_in_hi q1))).deep (by decide)) ?_
      refine mz_go 4 (c' := (22, [some (.ref 0), some (.int xa)], [.ref 20], w)) rfl ?_
      refine mz_doQ (R := mz_r2) (as := [.ref 20]) (rest := []) (r1 := some (.int 0)) (m1 := w) mz_t2 mz_v2_20 rfl rfl rfl rfl rfl ⟨?_, rfl⟩ ?_
      · refine mz_go 2 (c' := (4, [some (.ref 20)], [.int (w 20 2)], w)) rfl ?_
        rw [h202]
        refine mz_go 1 (c' := (if (nI WW) ≤ 0 then 18 else 7, [some (.ref 20)], [], w)) rfl ?_
        refine mz_ifT (show ((nI WW) ≤ 0) from (sm_leN rfl rfl (show WW ≤ 0 by omega) (show 0 < 2 ^ 31 by omega))) ?_
        refine mz_go 1 (c' := (19, [some (.ref 20)], [.int 0], w)) rfl ?_
        exact mz_ret rfl
      refine mz_go 3 (c' := (30, [some (.ref 0), some (.int xa)], [.int 2, .ref 0], w)) rfl ?_
      refine mz_doQ (R := mz_r109) (as := [.ref 0, .int 2]) (rest := []) (r1 := some (.int (-1000002))) (m1 := mz_up w 64 2 ((w 64 2) + 1)) mz_t109 mz_v109_0 rfl rfl rfl rfl rfl ((cs_err2 (m := w)).deep (by decide)) ?_
      exact mz_ret rfl
    · by_cases q3 : WW = HH
      · obtain ⟨ve1, Ee1, Pe1⟩ := xc_ali (m := w) hWW hHH h202 h203 (q := xa) (sm_hq (sm_in_hi q1))
        by_cases q4 : ve1 = 0
        · refine ⟨0, w, ⟨?_, rfl⟩, ⟨fun _ _ => rfl, rfl, rfl⟩⟩
          refine mz_go 3 (c' := (3, [some (.ref 0), some (.int xa)], [.int 3, .int 0, .int xa], w)) rfl ?_
          refine mz_doQ (R := mz_r121) (as := [.int xa, .int 0, .int 3]) (rest := []) (r1 := some (.int 1)) (m1 := w) mz_t121 mz_v121 rfl rfl rfl rfl rfl ((cs_in1 (m := w) (v := xa) (a := 0) (b := 3) (show ¬ (xa < 0) from (sm_in_lo q1)) (show ¬ (3 < xa) from (sm_in_hi q1))).deep (by decide)) ?_
          refine mz_go 4 (c' := (22, [some (.ref 0), some (.int xa)], [.ref 20], w)) rfl ?_
          refine mz_doQ (R := mz_r2) (as := [.ref 20]) (rest := []) (r1 := some (.int 1)) (m1 := w) mz_t2 mz_v2_20 rfl rfl rfl rfl rfl ⟨?_, rfl⟩ ?_
          · refine mz_go 2 (c' := (4, [some (.ref 20)], [.int (w 20 2)], w)) rfl ?_
            rw [h202]
            refine mz_go 1 (c' := (if (nI WW) ≤ 0 then 18 else 7, [some (.ref 20)], [], w)) rfl ?_
            refine mz_ifF (show ¬ ((nI WW) ≤ 0) from (sm_nleN rfl rfl (show 0 < WW by omega) (show WW < 2 ^ 31 by omega))) ?_
            refine mz_go 2 (c' := (11, [some (.ref 20)], [.int (w 20 3)], w)) rfl ?_
            rw [h203]
            refine mz_go 1 (c' := (if (nI HH) ≤ 0 then 18 else 14, [some (.ref 20)], [], w)) rfl ?_
            refine mz_ifF (show ¬ ((nI HH) ≤ 0) from (sm_nleN rfl rfl (show 0 < HH by omega) (show HH < 2 ^ 31 by omega))) ?_
            refine mz_go 2 (c' := (19, [some (.ref 20)], [.int 1], w)) rfl ?_
            exact mz_ret rfl
          refine mz_go 5 (c' := (44, [some (.ref 0), some (.int xa)], [.int (w 20 2)], w)) rfl ?_
          rw [h202]
          refine mz_go 4 (c' := (54, [some (.ref 0), some (.int xa)], [.int (w 20 3), .int (nI WW)], w)) rfl ?_
          rw [h203]
          refine mz_go 1 (c' := (if (nI WW) = (nI HH) then 63 else 57, [some (.ref 0), some (.int xa)], [], w)) rfl ?_
          refine mz_ifT (show ((nI WW) = (nI HH)) from (sm_eqN rfl rfl (show WW = HH by omega))) ?_
          refine mz_go 4 (c' := (71, [some (.ref 0), some (.int xa)], [.int xa, .ref 20], w)) rfl ?_
          refine mz_doQ (R := mz_r18) (as := [.ref 20, .int xa]) (rest := []) (r1 := some (.int ve1)) (m1 := w) mz_t18 mz_v18_20 rfl rfl rfl rfl rfl (Ee1.deep (by decide)) ?_
          refine mz_go 1 (c' := (if ve1 = 0 then 81 else 77, [some (.ref 0), some (.int xa)], [], w)) rfl ?_
          refine mz_ifT q4 ?_
          refine mz_go 1 (c' := (82, [some (.ref 0), some (.int xa)], [.int 0], w)) rfl ?_
          exact mz_ret rfl
        · refine ⟨1, w, ⟨?_, rfl⟩, ⟨fun _ _ => rfl, rfl, rfl⟩⟩
          refine mz_go 3 (c' := (3, [some (.ref 0), some (.int xa)], [.int 3, .int 0, .int xa], w)) rfl ?_
          refine mz_doQ (R := mz_r121) (as := [.int xa, .int 0, .int 3]) (rest := []) (r1 := some (.int 1)) (m1 := w) mz_t121 mz_v121 rfl rfl rfl rfl rfl ((cs_in1 (m := w) (v := xa) (a := 0) (b := 3) (show ¬ (xa < 0) from (sm_in_lo q1)) (show ¬ (3 < xa) from (sm_in_hi q1))).deep (by decide)) ?_
          refine mz_go 4 (c' := (22, [some (.ref 0), some (.int xa)], [.ref 20], w)) rfl ?_
          refine mz_doQ (R := mz_r2) (as := [.ref 20]) (rest := []) (r1 := some (.int 1)) (m1 := w) mz_t2 mz_v2_20 rfl rfl rfl rfl rfl ⟨?_, rfl⟩ ?_
          · refine mz_go 2 (c' := (4, [some (.ref 20)], [.int (w 20 2)], w)) rfl ?_
            rw [h202]
            refine mz_go 1 (c' := (if (nI WW) ≤ 0 then 18 else 7, [some (.ref 20)], [], w)) rfl ?_
            refine mz_ifF (show ¬ ((nI WW) ≤ 0) from (sm_nleN rfl rfl (show 0 < WW by omega) (show WW < 2 ^ 31 by omega))) ?_
            refine mz_go 2 (c' := (11, [some (.ref 20)], [.int (w 20 3)], w)) rfl ?_
            rw [h203]
            refine mz_go 1 (c' := (if (nI HH) ≤ 0 then 18 else 14, [some (.ref 20)], [], w)) rfl ?_
            refine mz_ifF (show ¬ ((nI HH) ≤ 0) from (sm_nleN rfl rfl (show 0 < HH by omega) (show HH < 2 ^ 31 by omega))) ?_
            refine mz_go 2 (c' := (19, [some (.ref 20)], [.int 1], w)) rfl ?_
            exact mz_ret rfl
          refine mz_go 5 (c' := (44, [some (.ref 0), some (.int xa)], [.int (w 20 2)], w)) rfl ?_
          rw [h202]
          refine mz_go 4 (c' := (54, [some (.ref 0), some (.int xa)], [.int (w 20 3), .int (nI WW)], w)) rfl ?_
          rw [h203]
          refine mz_go 1 (c' := (if (nI WW) = (nI HH) then 63 else 57, [some (.ref 0), some (.int xa)], [], w)) rfl ?_
          refine mz_ifT (show ((nI WW) = (nI HH)) from (sm_eqN rfl rfl (show WW = HH by omega))) ?_
          refine mz_go 4 (c' := (71, [some (.ref 0), some (.int xa)], [.int xa, .ref 20], w)) rfl ?_
          refine mz_doQ (R := mz_r18) (as := [.ref 20, .int xa]) (rest := []) (r1 := some (.int ve1)) (m1 := w) mz_t18 mz_v18_20 rfl rfl rfl rfl rfl (Ee1.deep (by decide)) ?_
          refine mz_go 1 (c' := (if ve1 = 0 then 81 else 77, [some (.ref 0), some (.int xa)], [], w)) rfl ?_
          refine mz_ifF q4 ?_
          refine mz_go 2 (c' := (82, [some (.ref 0), some (.int xa)], [.int 1], w)) rfl ?_
          exact mz_ret rfl
      · refine ⟨(-1000003), mz_up w 64 3 ((w 64 3) + 1), ⟨?_, rfl⟩, ⟨fun i hi => (by simp only [mz_up_ne (sm_scne hi (r := 64) rfl)]), rfl, rfl⟩⟩
        refine mz_go 3 (c' := (3, [some (.ref 0), some (.int xa)], [.int 3, .int 0, .int xa], w)) rfl ?_
        refine mz_doQ (R := mz_r121) (as := [.int xa, .int 0, .int 3]) (rest := []) (r1 := some (.int 1)) (m1 := w) mz_t121 mz_v121 rfl rfl rfl rfl rfl ((cs_in1 (m := w) (v := xa) (a := 0) (b := 3) (show ¬ (xa < 0) from (sm_in_lo q1)) (show ¬ (3 < xa) from (sm_in_hi q1))).deep (by decide)) ?_
        refine mz_go 4 (c' := (22, [some (.ref 0), some (.int xa)], [.ref 20], w)) rfl ?_
        refine mz_doQ (R := mz_r2) (as := [.ref 20]) (rest := []) (r1 := some (.int 1)) (m1 := w) mz_t2 mz_v2_20 rfl rfl rfl rfl rfl ⟨?_, rfl⟩ ?_
        · refine mz_go 2 (c' := (4, [some (.ref 20)], [.int (w 20 2)], w)) rfl ?_
          rw [h202]
          refine mz_go 1 (c' := (if (nI WW) ≤ 0 then 18 else 7, [some (.ref 20)], [], w)) rfl ?_
          refine mz_ifF (show ¬ ((nI WW) ≤ 0) from (sm_nleN rfl rfl (show 0 < WW by omega) (show WW < 2 ^ 31 by omega))) ?_
          refine mz_go 2 (c' := (11, [some (.ref 20)], [.int (w 20 3)], w)) rfl ?_
          rw [h203]
          refine mz_go 1 (c' := (if (nI HH) ≤ 0 then 18 else 14, [some (.ref 20)], [], w)) rfl ?_
          refine mz_ifF (show ¬ ((nI HH) ≤ 0) from (sm_nleN rfl rfl (show 0 < HH by omega) (show HH < 2 ^ 31 by omega))) ?_
          refine mz_go 2 (c' := (19, [some (.ref 20)], [.int 1], w)) rfl ?_
          exact mz_ret rfl
        refine mz_go 5 (c' := (44, [some (.ref 0), some (.int xa)], [.int (w 20 2)], w)) rfl ?_
        rw [h202]
        refine mz_go 4 (c' := (54, [some (.ref 0), some (.int xa)], [.int (w 20 3), .int (nI WW)], w)) rfl ?_
        rw [h203]
        refine mz_go 1 (c' := (if (nI WW) = (nI HH) then 63 else 57, [some (.ref 0), some (.int xa)], [], w)) rfl ?_
        refine mz_ifF (show ¬ ((nI WW) = (nI HH)) from (sm_neN rfl rfl (show WW ≠ HH by omega) (show WW < 2 ^ 31 by omega) (show HH < 2 ^ 31 by omega))) ?_
        refine mz_go 2 (c' := (59, [some (.ref 0), some (.int xa)], [.int 3, .ref 0], w)) rfl ?_
        refine mz_doQ (R := mz_r109) (as := [.ref 0, .int 3]) (rest := []) (r1 := some (.int (-1000003))) (m1 := mz_up w 64 3 ((w 64 3) + 1)) mz_t109 mz_v109_0 rfl rfl rfl rfl rfl ((cs_err3 (m := w)).deep (by decide)) ?_
        exact mz_ret rfl
set_option maxHeartbeats 4000000 in
set_option maxRecDepth 100000 in
theorem xc_gcd_l {m : mz_M} (a b : Int32)  (HX : ∀ (x4 : Int32) (x2 : Int32) (x3 : Int32) (x5 : Option Value), ∃ v, mz_Ex 5 mz_k124 (34, [some (.int a), some (.int b), some (.int x2), some (.int x3), some (.int x4), x5], [], m) (some (.int v), m)) : ∀ j k : Nat, k + j = 100 → ∀ (x2 : Int32) (x3 : Int32) (x5 : Option Value), ∃ v, mz_Ex 5 mz_k124 (7, [some (.int a), some (.int b), some (.int x2), some (.int x3), some (.int (nI k)), x5], [], m) (some (.int v), m) := by
  intro j
  induction j with
  | zero =>
    intro k hk x2 x3 x5
    rw [show k = 100 by omega]
    obtain ⟨vr, hr⟩ := HX (nI 100) x2 x3 x5
    refine ⟨vr, ?_⟩
    refine mz_go 3 (c' := (if 100 ≤ (nI 100) then 34 else 14, [some (.int a), some (.int b), some (.int x2), some (.int x3), some (.int (nI 100)), x5], [], m)) rfl ?_
    refine mz_ifT (show (100 ≤ (nI 100)) from (sm_leN rfl rfl (show 100 ≤ 100 by omega) (show 100 < 2 ^ 31 by omega))) ?_
    exact hr
  | succ j ih =>
    intro k hk x2 x3 x5
    by_cases q1 : x3 = 0
    · obtain ⟨vr, hr⟩ := HX (nI k) x2 x3 x5
      refine ⟨vr, ?_⟩
      refine mz_go 3 (c' := (if 100 ≤ (nI k) then 34 else 14, [some (.int a), some (.int b), some (.int x2), some (.int x3), some (.int (nI k)), x5], [], m)) rfl ?_
      refine mz_ifF (show ¬ (100 ≤ (nI k)) from (sm_nleN rfl rfl (show k < 100 by omega) (show 100 < 2 ^ 31 by omega))) ?_
      refine mz_go 2 (c' := (if x3 = 0 then 34 else 18, [some (.int a), some (.int b), some (.int x2), some (.int x3), some (.int (nI k)), x5], [], m)) rfl ?_
      refine mz_ifT q1 ?_
      exact hr
    · obtain ⟨vr, hr⟩ := ih (k + 1) (by omega) x3 (x2 - x2 / x3 * x3) (some (.int (x2 - x2 / x3 * x3)))
      rw [nI_succ k] at hr
      refine ⟨vr, ?_⟩
      refine mz_go 3 (c' := (if 100 ≤ (nI k) then 34 else 14, [some (.int a), some (.int b), some (.int x2), some (.int x3), some (.int (nI k)), x5], [], m)) rfl ?_
      refine mz_ifF (show ¬ (100 ≤ (nI k)) from (sm_nleN rfl rfl (show k < 100 by omega) (show 100 < 2 ^ 31 by omega))) ?_
      refine mz_go 2 (c' := (if x3 = 0 then 34 else 18, [some (.int a), some (.int b), some (.int x2), some (.int x3), some (.int (nI k)), x5], [], m)) rfl ?_
      refine mz_ifF q1 ?_
      refine mz_go 2 (c' := (20, [some (.int a), some (.int b), some (.int x2), some (.int x3), some (.int (nI k)), x5], [.int x3, .int x2], m)) rfl ?_
      refine mz_div (c' := (21, [some (.int a), some (.int b), some (.int x2), some (.int x3), some (.int (nI k)), x5], [.int (x2 - x2 / x3 * x3)], m)) rfl q1 ?_
      refine mz_go 7 (c' := (7, [some (.int a), some (.int b), some (.int x3), some (.int (x2 - x2 / x3 * x3)), some (.int ((nI k) + 1)), some (.int (x2 - x2 / x3 * x3))], [], m)) rfl ?_
      exact hr
set_option maxHeartbeats 4000000 in
set_option maxRecDepth 100000 in
theorem xc_gcd {m : mz_M} (a b : Int32) : ∃ v, mz_Me 5 mz_r124 [.int a, .int b] m (some (.int v)) m := by
  have HX1 : ∀ (x4_1 : Int32) (x2_1 : Int32) (x3_1 : Int32) (x5_1 : Option Value), ∃ v, mz_Ex 5 mz_k124 (34, [some (.int a), some (.int b), some (.int x2_1), some (.int x3_1), some (.int x4_1), x5_1], [], m) (some (.int v), m) := by
    intro x4_1 x2_1 x3_1 x5_1
    refine ⟨x2_1, ?_⟩
    refine mz_go 1 (c' := (35, [some (.int a), some (.int b), some (.int x2_1), some (.int x3_1), some (.int x4_1), x5_1], [.int x2_1], m)) rfl ?_
    exact mz_ret rfl
  obtain ⟨vr, hr⟩ := xc_gcd_l a b  HX1 100 0 (by omega) a b none
  refine ⟨vr, ⟨?_, rfl⟩⟩
  refine mz_go 6 (c' := (7, [some (.int a), some (.int b), some (.int a), some (.int b), some (.int 0), none], [], m)) rfl ?_
  exact hr
set_option maxHeartbeats 4000000 in
set_option maxRecDepth 100000 in
theorem xw_fairm {w : mz_M} {N : Nat} (hw : sm_W w N) (hN : N ≤ 6) (h4 : w 2 4 = nI N) (hr5 : w 7 5 = 1 ∨ w 7 5 = 2) (hr80 : sm_N 80 (w 7 2)) {WW HH : Nat} (hWW : WW ≤ 6) (hHH : HH ≤ 6) (hWH : WW = 0 ↔ HH = 0) (h202 : w 20 2 = nI WW) (h203 : w 20 3 = nI HH) {T2 : Nat} (hT2 : w 16 2 = nI T2) (hV2 : T2 = 0 ∨ sm_wf T2 5 (w 17) (w 18)) (xa : Int32) (HX : ∀ (x4 : Int32) (x2 : Int32) (x3 : Int32) (x5 : Option Value), ∃ v m', mz_Ex 100 mz_k92 (104, [some (.ref 0), some (.int xa), some (.int x2), some (.int x3), some (.int x4), x5, none], [], w) (some (.int v), m') ∧ sm_Sc w m') : ∀ fu : Nat, ∀ x4 : Int32, (nI N).toInt - x4.toInt < (fu : Int) → ∀ (x2 : Int32) (x3 : Int32) (x5 : Option Value), ∃ v m', mz_Ex 100 mz_k92 (55, [some (.ref 0), some (.int xa), some (.int x2), some (.int x3), some (.int x4), x5, none], [], w) (some (.int v), m') ∧ sm_Sc w m' := by
  have hT60c := sm_T60 hV2
  intro fu
  induction fu with
  | zero =>
    intro x4 hms x2 x3 x5
    have hmz : (nI N) ≤ x4 := sm_mz2 hms
    obtain ⟨vr, mr, hr, hsc⟩ := HX x4 x2 x3 x5
    refine ⟨vr, mr, ?_, hsc⟩
    refine mz_go 5 (c' := (67, [some (.ref 0), some (.int xa), some (.int x2), some (.int x3), some (.int x4), x5, none], [.int (w 2 4), .int x4], w)) rfl ?_
    rw [h4]
    refine mz_go 1 (c' := (if (nI N) ≤ x4 then 104 else 70, [some (.ref 0), some (.int xa), some (.int x2), some (.int x3), some (.int x4), x5, none], [], w)) rfl ?_
    refine mz_ifT hmz ?_
    exact hr
  | succ fu ih =>
    intro x4 hms x2 x3 x5
    by_cases q1 : (nI N) ≤ x4
    · obtain ⟨vr, mr, hr, hsc⟩ := HX x4 x2 x3 x5
      refine ⟨vr, mr, ?_, hsc⟩
      refine mz_go 5 (c' := (67, [some (.ref 0), some (.int xa), some (.int x2), some (.int x3), some (.int x4), x5, none], [.int (w 2 4), .int x4], w)) rfl ?_
      rw [h4]
      refine mz_go 1 (c' := (if (nI N) ≤ x4 then 104 else 70, [some (.ref 0), some (.int xa), some (.int x2), some (.int x3), some (.int x4), x5, none], [], w)) rfl ?_
      refine mz_ifT q1 ?_
      exact hr
    · obtain ⟨ve1, Ee1⟩ := xc_cof (m := w) hWW hHH h202 h203 x4
      obtain ⟨vr, mr, hr, hsc⟩ := ih (x4 + 1) (sm_me2 (sm_hN (by omega)) q1 hms) (sm_max x2 ve1) (sm_min x3 ve1) (some (.int ve1))
      refine ⟨vr, mr, ?_, hsc⟩
      refine mz_go 5 (c' := (67, [some (.ref 0), some (.int xa), some (.int x2), some (.int x3), some (.int x4), x5, none], [.int (w 2 4), .int x4], w)) rfl ?_
      rw [h4]
      refine mz_go 1 (c' := (if (nI N) ≤ x4 then 104 else 70, [some (.ref 0), some (.int xa), some (.int x2), some (.int x3), some (.int x4), x5, none], [], w)) rfl ?_
      refine mz_ifF q1 ?_
      refine mz_go 4 (c' := (79, [some (.ref 0), some (.int xa), some (.int x2), some (.int x3), some (.int x4), x5, none], [.int x4, .ref 20], w)) rfl ?_
      refine mz_doQ (R := mz_r9) (as := [.ref 20, .int x4]) (rest := []) (r1 := some (.int ve1)) (m1 := w) mz_t9 mz_v9_20 rfl rfl rfl rfl rfl (Ee1.deep (by decide)) ?_
      refine mz_go 11 (c' := (55, [some (.ref 0), some (.int xa), some (.int (sm_max x2 ve1)), some (.int (sm_min x3 ve1)), some (.int (x4 + 1)), some (.int ve1), none], [], w)) rfl ?_
      exact hr
set_option maxHeartbeats 4000000 in
set_option maxRecDepth 100000 in
theorem xw_fair {w : mz_M} {N : Nat} (hw : sm_W w N) (hN : N ≤ 6) (h4 : w 2 4 = nI N) (hr5 : w 7 5 = 1 ∨ w 7 5 = 2) (hr80 : sm_N 80 (w 7 2)) {WW HH : Nat} (hWW : WW ≤ 6) (hHH : HH ≤ 6) (hWH : WW = 0 ↔ HH = 0) (h202 : w 20 2 = nI WW) (h203 : w 20 3 = nI HH) {T2 : Nat} (hT2 : w 16 2 = nI T2) (hV2 : T2 = 0 ∨ sm_wf T2 5 (w 17) (w 18)) (xa : Int32) : ∃ v m', mz_Me 100 mz_r92 [.ref 0, .int xa] w (some (.int v)) m' ∧ sm_Sc w m' := by
  have hT60c := sm_T60 hV2
  by_cases q1 : (sm_bI (sm_in xa 0 1)) = 0
  · refine ⟨(-1000001), mz_up w 64 1 ((w 64 1) + 1), ⟨?_, rfl⟩, ⟨fun i hi => (by simp only [mz_up_ne (sm_scne hi (r := 64) rfl)]), rfl, rfl⟩⟩
    refine mz_go 3 (c' := (3, [some (.ref 0), some (.int xa), none, none, none, none, none], [.int 1, .int 0, .int xa], w)) rfl ?_
    refine mz_doQ (R := mz_r121) (as := [.int xa, .int 0, .int 1]) (rest := []) (r1 := some (.int (sm_bI (sm_in xa 0 1)))) (m1 := w) mz_t121 mz_v121 rfl rfl rfl rfl rfl ((cs_in (m := w) xa 0 1).deep (by decide)) ?_
    refine mz_go 1 (c' := (if (sm_bI (sm_in xa 0 1)) = 0 then 9 else 15, [some (.ref 0), some (.int xa), none, none, none, none, none], [], w)) rfl ?_
    refine mz_ifT q1 ?_
    refine mz_go 2 (c' := (11, [some (.ref 0), some (.int xa), none, none, none, none, none], [.int 1, .ref 0], w)) rfl ?_
    refine mz_doQ (R := mz_r109) (as := [.ref 0, .int 1]) (rest := []) (r1 := some (.int (-1000001))) (m1 := mz_up w 64 1 ((w 64 1) + 1)) mz_t109 mz_v109_0 rfl rfl rfl rfl rfl ((cs_err1 (m := w)).deep (by decide)) ?_
    exact mz_ret rfl
  · by_cases q2 : WW ≤ 0
    · refine ⟨(-1000002), mz_up w 64 2 ((w 64 2) + 1), ⟨?_, rfl⟩, ⟨fun i hi => (by simp only [mz_up_ne (sm_scne hi (r := 64) rfl)]), rfl, rfl⟩⟩
      refine mz_go 3 (c' := (3, [some (.ref 0), some (.int xa), none, none, none, none, none], [.int 1, .int 0, .int xa], w)) rfl ?_
      refine mz_doQ (R := mz_r121) (as := [.int xa, .int 0, .int 1]) (rest := []) (r1 := some (.int 1)) (m1 := w) mz_t121 mz_v121 rfl rfl rfl rfl rfl ((cs_in1 (m := w) (v := xa) (a := 0) (b := 1) (show ¬ (xa < 0) from (sm_in_lo q1)) (show ¬ (1 < xa) from (sm_in_hi q1))).deep (by decide)) ?_
      refine mz_go 4 (c' := (22, [some (.ref 0), some (.int xa), none, none, none, none, none], [.ref 20], w)) rfl ?_
      refine mz_doQ (R := mz_r2) (as := [.ref 20]) (rest := []) (r1 := some (.int 0)) (m1 := w) mz_t2 mz_v2_20 rfl rfl rfl rfl rfl ⟨?_, rfl⟩ ?_
      · refine mz_go 2 (c' := (4, [some (.ref 20)], [.int (w 20 2)], w)) rfl ?_
        rw [h202]
        refine mz_go 1 (c' := (if (nI WW) ≤ 0 then 18 else 7, [some (.ref 20)], [], w)) rfl ?_
        refine mz_ifT (show ((nI WW) ≤ 0) from (sm_leN rfl rfl (show WW ≤ 0 by omega) (show 0 < 2 ^ 31 by omega))) ?_
        refine mz_go 1 (c' := (19, [some (.ref 20)], [.int 0], w)) rfl ?_
        exact mz_ret rfl
      refine mz_go 3 (c' := (43, [some (.ref 0), some (.int xa), none, none, none, none, none], [.int 2, .ref 0], w)) rfl ?_
      refine mz_doQ (R := mz_r109) (as := [.ref 0, .int 2]) (rest := []) (r1 := some (.int (-1000002))) (m1 := mz_up w 64 2 ((w 64 2) + 1)) mz_t109 mz_v109_0 rfl rfl rfl rfl rfl ((cs_err2 (m := w)).deep (by decide)) ?_
      exact mz_ret rfl
    · by_cases q3 : 0 < N
      · have HX1 : ∀ (x4_1 : Int32) (x2_1 : Int32) (x3_1 : Int32) (x5_1 : Option Value), ∃ v m', mz_Ex 100 mz_k92 (104, [some (.ref 0), some (.int xa), some (.int x2_1), some (.int x3_1), some (.int x4_1), x5_1, none], [], w) (some (.int v), m') ∧ sm_Sc w m' := by
          intro x4_1 x2_1 x3_1 x5_1
          obtain ⟨ve1, Ee1⟩ := xc_gcd (m := w)  (x2_1 - x3_1) ((nI WW) * (nI HH))
          by_cases q4 : xa = 0
          · by_cases q5 : ve1 = 0
            · refine ⟨0, w, ?_, ⟨fun _ _ => rfl, rfl, rfl⟩⟩
              refine mz_go 7 (c' := (116, [some (.ref 0), some (.int xa), some (.int x2_1), some (.int x3_1), some (.int (x2_1 - x3_1)), x5_1, none], [.ref 20], w)) rfl ?_
              refine mz_doQ (R := mz_r3) (as := [.ref 20]) (rest := []) (r1 := some (.int ((nI WW) * (nI HH)))) (m1 := w) mz_t3 mz_v3_20 rfl rfl rfl rfl rfl ⟨?_, rfl⟩ ?_
              · refine mz_go 2 (c' := (4, [some (.ref 20)], [.int (w 20 2)], w)) rfl ?_
                rw [h202]
                refine mz_go 2 (c' := (8, [some (.ref 20)], [.int (w 20 3), .int (nI WW)], w)) rfl ?_
                rw [h203]
                refine mz_go 1 (c' := (9, [some (.ref 20)], [.int ((nI WW) * (nI HH))], w)) rfl ?_
                exact mz_ret rfl
              refine mz_go 3 (c' := (125, [some (.ref 0), some (.int xa), some (.int x2_1), some (.int x3_1), some (.int (x2_1 - x3_1)), some (.int ((nI WW) * (nI HH))), none], [.int ((nI WW) * (nI HH)), .int (x2_1 - x3_1)], w)) rfl ?_
              refine mz_doQ (R := mz_r124) (as := [.int (x2_1 - x3_1), .int ((nI WW) * (nI HH))]) (rest := []) (r1 := some (.int ve1)) (m1 := w) mz_t124 mz_v124 rfl rfl rfl rfl rfl (Ee1.deep (by decide)) ?_
              refine mz_go 3 (c' := (if xa = 0 then 134 else 139, [some (.ref 0), some (.int xa), some (.int x2_1), some (.int x3_1), some (.int (x2_1 - x3_1)), some (.int ((nI WW) * (nI HH))), some (.int ve1)], [], w)) rfl ?_
              refine mz_ifT q4 ?_
              refine mz_go 3 (c' := (143, [some (.ref 0), some (.int xa), some (.int x2_1), some (.int x3_1), some (.int (x2_1 - x3_1)), some (.int ((nI WW) * (nI HH))), some (.int ve1)], [.int ve1, .int (x2_1 - x3_1)], w)) rfl ?_
              refine mz_doQ (R := mz_r123) (as := [.int (x2_1 - x3_1), .int ve1]) (rest := []) (r1 := some (.int 0)) (m1 := w) mz_t123 mz_v123 rfl rfl rfl rfl rfl ⟨?_, rfl⟩ ?_
              · refine mz_go 2 (c' := (if ve1 = 0 then 4 else 8, [some (.int (x2_1 - x3_1)), some (.int ve1)], [], w)) rfl ?_
                refine mz_ifT q5 ?_
                refine mz_go 2 (c' := (11, [some (.int (x2_1 - x3_1)), some (.int ve1)], [.int 0], w)) rfl ?_
                exact mz_ret rfl
              exact mz_ret rfl
            · refine ⟨(x2_1 - x3_1) / ve1, w, ?_, ⟨fun _ _ => rfl, rfl, rfl⟩⟩
              refine mz_go 7 (c' := (116, [some (.ref 0), some (.int xa), some (.int x2_1), some (.int x3_1), some (.int (x2_1 - x3_1)), x5_1, none], [.ref 20], w)) rfl ?_
              refine mz_doQ (R := mz_r3) (as := [.ref 20]) (rest := []) (r1 := some (.int ((nI WW) * (nI HH)))) (m1 := w) mz_t3 mz_v3_20 rfl rfl rfl rfl rfl ⟨?_, rfl⟩ ?_
              · refine mz_go 2 (c' := (4, [some (.ref 20)], [.int (w 20 2)], w)) rfl ?_
                rw [h202]
                refine mz_go 2 (c' := (8, [some (.ref 20)], [.int (w 20 3), .int (nI WW)], w)) rfl ?_
                rw [h203]
                refine mz_go 1 (c' := (9, [some (.ref 20)], [.int ((nI WW) * (nI HH))], w)) rfl ?_
                exact mz_ret rfl
              refine mz_go 3 (c' := (125, [some (.ref 0), some (.int xa), some (.int x2_1), some (.int x3_1), some (.int (x2_1 - x3_1)), some (.int ((nI WW) * (nI HH))), none], [.int ((nI WW) * (nI HH)), .int (x2_1 - x3_1)], w)) rfl ?_
              refine mz_doQ (R := mz_r124) (as := [.int (x2_1 - x3_1), .int ((nI WW) * (nI HH))]) (rest := []) (r1 := some (.int ve1)) (m1 := w) mz_t124 mz_v124 rfl rfl rfl rfl rfl (Ee1.deep (by decide)) ?_
              refine mz_go 3 (c' := (if xa = 0 then 134 else 139, [some (.ref 0), some (.int xa), some (.int x2_1), some (.int x3_1), some (.int (x2_1 - x3_1)), some (.int ((nI WW) * (nI HH))), some (.int ve1)], [], w)) rfl ?_
              refine mz_ifT q4 ?_
              refine mz_go 3 (c' := (143, [some (.ref 0), some (.int xa), some (.int x2_1), some (.int x3_1), some (.int (x2_1 - x3_1)), some (.int ((nI WW) * (nI HH))), some (.int ve1)], [.int ve1, .int (x2_1 - x3_1)], w)) rfl ?_
              refine mz_doQ (R := mz_r123) (as := [.int (x2_1 - x3_1), .int ve1]) (rest := []) (r1 := some (.int ((x2_1 - x3_1) / ve1))) (m1 := w) mz_t123 mz_v123 rfl rfl rfl rfl rfl ⟨?_, rfl⟩ ?_
              · refine mz_go 2 (c' := (if ve1 = 0 then 4 else 8, [some (.int (x2_1 - x3_1)), some (.int ve1)], [], w)) rfl ?_
                refine mz_ifF q5 ?_
                refine mz_go 2 (c' := (10, [some (.int (x2_1 - x3_1)), some (.int ve1)], [.int ve1, .int (x2_1 - x3_1)], w)) rfl ?_
                refine mz_div (c' := (11, [some (.int (x2_1 - x3_1)), some (.int ve1)], [.int ((x2_1 - x3_1) / ve1)], w)) rfl q5 ?_
                exact mz_ret rfl
              exact mz_ret rfl
          · by_cases q6 : ve1 = 0
            · refine ⟨0, w, ?_, ⟨fun _ _ => rfl, rfl, rfl⟩⟩
              refine mz_go 7 (c' := (116, [some (.ref 0), some (.int xa), some (.int x2_1), some (.int x3_1), some (.int (x2_1 - x3_1)), x5_1, none], [.ref 20], w)) rfl ?_
              refine mz_doQ (R := mz_r3) (as := [.ref 20]) (rest := []) (r1 := some (.int ((nI WW) * (nI HH)))) (m1 := w) mz_t3 mz_v3_20 rfl rfl rfl rfl rfl ⟨?_, rfl⟩ ?_
              · refine mz_go 2 (c' := (4, [some (.ref 20)], [.int (w 20 2)], w)) rfl ?_
                rw [h202]
                refine mz_go 2 (c' := (8, [some (.ref 20)], [.int (w 20 3), .int (nI WW)], w)) rfl ?_
                rw [h203]
                refine mz_go 1 (c' := (9, [some (.ref 20)], [.int ((nI WW) * (nI HH))], w)) rfl ?_
                exact mz_ret rfl
              refine mz_go 3 (c' := (125, [some (.ref 0), some (.int xa), some (.int x2_1), some (.int x3_1), some (.int (x2_1 - x3_1)), some (.int ((nI WW) * (nI HH))), none], [.int ((nI WW) * (nI HH)), .int (x2_1 - x3_1)], w)) rfl ?_
              refine mz_doQ (R := mz_r124) (as := [.int (x2_1 - x3_1), .int ((nI WW) * (nI HH))]) (rest := []) (r1 := some (.int ve1)) (m1 := w) mz_t124 mz_v124 rfl rfl rfl rfl rfl (Ee1.deep (by decide)) ?_
              refine mz_go 3 (c' := (if xa = 0 then 134 else 139, [some (.ref 0), some (.int xa), some (.int x2_1), some (.int x3_1), some (.int (x2_1 - x3_1)), some (.int ((nI WW) * (nI HH))), some (.int ve1)], [], w)) rfl ?_
              refine mz_ifF q4 ?_
              refine mz_go 2 (c' := (143, [some (.ref 0), some (.int xa), some (.int x2_1), some (.int x3_1), some (.int (x2_1 - x3_1)), some (.int ((nI WW) * (nI HH))), some (.int ve1)], [.int ve1, .int ((nI WW) * (nI HH))], w)) rfl ?_
              refine mz_doQ (R := mz_r123) (as := [.int ((nI WW) * (nI HH)), .int ve1]) (rest := []) (r1 := some (.int 0)) (m1 := w) mz_t123 mz_v123 rfl rfl rfl rfl rfl ⟨?_, rfl⟩ ?_
              · refine mz_go 2 (c' := (if ve1 = 0 then 4 else 8, [some (.int ((nI WW) * (nI HH))), some (.int ve1)], [], w)) rfl ?_
                refine mz_ifT q6 ?_
                refine mz_go 2 (c' := (11, [some (.int ((nI WW) * (nI HH))), some (.int ve1)], [.int 0], w)) rfl ?_
                exact mz_ret rfl
              exact mz_ret rfl
            · refine ⟨((nI WW) * (nI HH)) / ve1, w, ?_, ⟨fun _ _ => rfl, rfl, rfl⟩⟩
              refine mz_go 7 (c' := (116, [some (.ref 0), some (.int xa), some (.int x2_1), some (.int x3_1), some (.int (x2_1 - x3_1)), x5_1, none], [.ref 20], w)) rfl ?_
              refine mz_doQ (R := mz_r3) (as := [.ref 20]) (rest := []) (r1 := some (.int ((nI WW) * (nI HH)))) (m1 := w) mz_t3 mz_v3_20 rfl rfl rfl rfl rfl ⟨?_, rfl⟩ ?_
              · refine mz_go 2 (c' := (4, [some (.ref 20)], [.int (w 20 2)], w)) rfl ?_
                rw [h202]
                refine mz_go 2 (c' := (8, [some (.ref 20)], [.int (w 20 3), .int (nI WW)], w)) rfl ?_
                rw [h203]
                refine mz_go 1 (c' := (9, [some (.ref 20)], [.int ((nI WW) * (nI HH))], w)) rfl ?_
                exact mz_ret rfl
              refine mz_go 3 (c' := (125, [some (.ref 0), some (.int xa), some (.int x2_1), some (.int x3_1), some (.int (x2_1 - x3_1)), some (.int ((nI WW) * (nI HH))), none], [.int ((nI WW) * (nI HH)), .int (x2_1 - x3_1)], w)) rfl ?_
              refine mz_doQ (R := mz_r124) (as := [.int (x2_1 - x3_1), .int ((nI WW) * (nI HH))]) (rest := []) (r1 := some (.int ve1)) (m1 := w) mz_t124 mz_v124 rfl rfl rfl rfl rfl (Ee1.deep (by decide)) ?_
              refine mz_go 3 (c' := (if xa = 0 then 134 else 139, [some (.ref 0), some (.int xa), some (.int x2_1), some (.int x3_1), some (.int (x2_1 - x3_1)), some (.int ((nI WW) * (nI HH))), some (.int ve1)], [], w)) rfl ?_
              refine mz_ifF q4 ?_
              refine mz_go 2 (c' := (143, [some (.ref 0), some (.int xa), some (.int x2_1), some (.int x3_1), some (.int (x2_1 - x3_1)), some (.int ((nI WW) * (nI HH))), some (.int ve1)], [.int ve1, .int ((nI WW) * (nI HH))], w)) rfl ?_
              refine mz_doQ (R := mz_r123) (as := [.int ((nI WW) * (nI HH)), .int ve1]) (rest := []) (r1 := some (.int (((nI WW) * (nI HH)) / ve1))) (m1 := w) mz_t123 mz_v123 rfl rfl rfl rfl rfl ⟨?_, rfl⟩ ?_
              · refine mz_go 2 (c' := (if ve1 = 0 then 4 else 8, [some (.int ((nI WW) * (nI HH))), some (.int ve1)], [], w)) rfl ?_
                refine mz_ifF q6 ?_
                refine mz_go 2 (c' := (10, [some (.int ((nI WW) * (nI HH))), some (.int ve1)], [.int ve1, .int ((nI WW) * (nI HH))], w)) rfl ?_
                refine mz_div (c' := (11, [some (.int ((nI WW) * (nI HH))), some (.int ve1)], [.int (((nI WW) * (nI HH)) / ve1)], w)) rfl q6 ?_
                exact mz_ret rfl
              exact mz_ret rfl
        obtain ⟨vr, mr, hr, hsc⟩ := xw_fairm hw hN h4 hr5 hr80 hWW hHH hWH h202 h203 hT2 hV2 xa HX1 ((nI N : Int32).toInt - (0 : Int32).toInt + 1).toNat 0 (by omega) 0 36 none
        refine ⟨vr, mr, ⟨?_, rfl⟩, hsc⟩
        refine mz_go 3 (c' := (3, [some (.ref 0), some (.int xa), none, none, none, none, none], [.int 1, .int 0, .int xa], w)) rfl ?_
        refine mz_doQ (R := mz_r121) (as := [.int xa, .int 0, .int 1]) (rest := []) (r1 := some (.int 1)) (m1 := w) mz_t121 mz_v121 rfl rfl rfl rfl rfl ((cs_in1 (m := w) (v := xa) (a := 0) (b := 1) (show ¬ (xa < 0) from (sm_in_lo q1)) (show ¬ (1 < xa) from (sm_in_hi q1))).deep (by decide)) ?_
        refine mz_go 4 (c' := (22, [some (.ref 0), some (.int xa), none, none, none, none, none], [.ref 20], w)) rfl ?_
        refine mz_doQ (R := mz_r2) (as := [.ref 20]) (rest := []) (r1 := some (.int 1)) (m1 := w) mz_t2 mz_v2_20 rfl rfl rfl rfl rfl ⟨?_, rfl⟩ ?_
        · refine mz_go 2 (c' := (4, [some (.ref 20)], [.int (w 20 2)], w)) rfl ?_
          rw [h202]
          refine mz_go 1 (c' := (if (nI WW) ≤ 0 then 18 else 7, [some (.ref 20)], [], w)) rfl ?_
          refine mz_ifF (show ¬ ((nI WW) ≤ 0) from (sm_nleN rfl rfl (show 0 < WW by omega) (show WW < 2 ^ 31 by omega))) ?_
          refine mz_go 2 (c' := (11, [some (.ref 20)], [.int (w 20 3)], w)) rfl ?_
          rw [h203]
          refine mz_go 1 (c' := (if (nI HH) ≤ 0 then 18 else 14, [some (.ref 20)], [], w)) rfl ?_
          refine mz_ifF (show ¬ ((nI HH) ≤ 0) from (sm_nleN rfl rfl (show 0 < HH by omega) (show HH < 2 ^ 31 by omega))) ?_
          refine mz_go 2 (c' := (19, [some (.ref 20)], [.int 1], w)) rfl ?_
          exact mz_ret rfl
        refine mz_go 5 (c' := (38, [some (.ref 0), some (.int xa), none, none, none, none, none], [.int (w 2 4)], w)) rfl ?_
        rw [h4]
        refine mz_go 1 (c' := (if 0 < (nI N) then 47 else 41, [some (.ref 0), some (.int xa), none, none, none, none, none], [], w)) rfl ?_
        refine mz_ifT (show (0 < (nI N)) from (sm_ltN rfl rfl (show 0 < N by omega) (show N < 2 ^ 31 by omega))) ?_
        refine mz_go 6 (c' := (55, [some (.ref 0), some (.int xa), some (.int 0), some (.int 36), some (.int 0), none, none], [], w)) rfl ?_
        exact hr
      · refine ⟨(-1000002), mz_up w 64 2 ((w 64 2) + 1), ⟨?_, rfl⟩, ⟨fun i hi => (by simp only [mz_up_ne (sm_scne hi (r := 64) rfl)]), rfl, rfl⟩⟩
        refine mz_go 3 (c' := (3, [some (.ref 0), some (.int xa), none, none, none, none, none], [.int 1, .int 0, .int xa], w)) rfl ?_
        refine mz_doQ (R := mz_r121) (as := [.int xa, .int 0, .int 1]) (rest := []) (r1 := some (.int 1)) (m1 := w) mz_t121 mz_v121 rfl rfl rfl rfl rfl ((cs_in1 (m := w) (v := xa) (a := 0) (b := 1) (show ¬ (xa < 0) from (sm_in_lo q1)) (show ¬ (1 < xa) from (sm_in_hi q1))).deep (by decide)) ?_
        refine mz_go 4 (c' := (22, [some (.ref 0), some (.int xa), none, none, none, none, none], [.ref 20], w)) rfl ?_
        refine mz_doQ (R := mz_r2) (as := [.ref 20]) (rest := []) (r1 := some (.int 1)) (m1 := w) mz_t2 mz_v2_20 rfl rfl rfl rfl rfl ⟨?_, rfl⟩ ?_
        · refine mz_go 2 (c' := (4, [some (.ref 20)], [.int (w 20 2)], w)) rfl ?_
          rw [h202]
          refine mz_go 1 (c' := (if (nI WW) ≤ 0 then 18 else 7, [some (.ref 20)], [], w)) rfl ?_
          refine mz_ifF (show ¬ ((nI WW) ≤ 0) from (sm_nleN rfl rfl (show 0 < WW by omega) (show WW < 2 ^ 31 by omega))) ?_
          refine mz_go 2 (c' := (11, [some (.ref 20)], [.int (w 20 3)], w)) rfl ?_
          rw [h203]
          refine mz_go 1 (c' := (if (nI HH) ≤ 0 then 18 else 14, [some (.ref 20)], [], w)) rfl ?_
          refine mz_ifF (show ¬ ((nI HH) ≤ 0) from (sm_nleN rfl rfl (show 0 < HH by omega) (show HH < 2 ^ 31 by omega))) ?_
          refine mz_go 2 (c' := (19, [some (.ref 20)], [.int 1], w)) rfl ?_
          exact mz_ret rfl
        refine mz_go 5 (c' := (38, [some (.ref 0), some (.int xa), none, none, none, none, none], [.int (w 2 4)], w)) rfl ?_
        rw [h4]
        refine mz_go 1 (c' := (if 0 < (nI N) then 47 else 41, [some (.ref 0), some (.int xa), none, none, none, none, none], [], w)) rfl ?_
        refine mz_ifF (show ¬ (0 < (nI N)) from (sm_nltN rfl rfl (show N ≤ 0 by omega) (show 0 < 2 ^ 31 by omega))) ?_
        refine mz_go 2 (c' := (43, [some (.ref 0), some (.int xa), none, none, none, none, none], [.int 2, .ref 0], w)) rfl ?_
        refine mz_doQ (R := mz_r109) (as := [.ref 0, .int 2]) (rest := []) (r1 := some (.int (-1000002))) (m1 := mz_up w 64 2 ((w 64 2) + 1)) mz_t109 mz_v109_0 rfl rfl rfl rfl rfl ((cs_err2 (m := w)).deep (by decide)) ?_
        exact mz_ret rfl
set_option maxHeartbeats 4000000 in
set_option maxRecDepth 100000 in
theorem xs_ev16 {m : mz_M} {T2 : Nat} (hT2 : m 16 2 = nI T2) (hV2 : T2 = 0 ∨ sm_wf T2 5 (m 17) (m 18)) : ∃ v g, mz_Me 10 mz_r57 [.ref 16, .ref 51, .ref 52] m (some (.int v)) (mz_set m 52 g) := by
  rcases hV2 with rfl | h
  · refine ⟨0, m 52, ⟨?_, rfl⟩⟩
    rw [sm_id]
    refine mz_go 7 (c' := (11, [some (.ref 16), some (.ref 51), some (.ref 52), some (.int (-1)), some (.int 0), none, none], [.int (m 16 2), .int 0], m)) rfl ?_
    rw [hT2]
    refine mz_go 1 (c' := (if (nI 0) ≤ 0 then 158 else 14, [some (.ref 16), some (.ref 51), some (.ref 52), some (.int (-1)), some (.int 0), none, none], [], m)) rfl ?_
    refine mz_ifT (show ((nI 0) ≤ 0) from (sm_leN rfl rfl (show 0 ≤ 0 by omega) (show 0 < 2 ^ 31 by omega))) ?_
    refine mz_go 3 (c' := (169, [some (.ref 16), some (.ref 51), some (.ref 52), some (.int (-1)), some (.int 0), none, none], [.int 0], m)) rfl ?_
    exact mz_ret rfl
  · obtain ⟨g, E⟩ := cs_ev16 (m := m) hT2 h (by decide)
    exact ⟨_, g, E⟩
set_option maxHeartbeats 4000000 in
set_option maxRecDepth 100000 in
theorem xw_wof {w : mz_M} {N : Nat} (hw : sm_W w N) (hN : N ≤ 6) (h4 : w 2 4 = nI N) (hr5 : w 7 5 = 1 ∨ w 7 5 = 2) (hr80 : sm_N 80 (w 7 2)) {WW HH : Nat} (hWW : WW ≤ 6) (hHH : HH ≤ 6) (hWH : WW = 0 ↔ HH = 0) (h202 : w 20 2 = nI WW) (h203 : w 20 3 = nI HH) {T2 : Nat} (hT2 : w 16 2 = nI T2) (hV2 : T2 = 0 ∨ sm_wf T2 5 (w 17) (w 18)) (i j : Int32) : ∃ v s51 s52, mz_Me 70 mz_r44 [.ref 49, .int i, .int j] w (some (.int v)) (mz_set (mz_set w 51 s51) 52 s52) := by
  have hT60c := sm_T60 hV2
  obtain ⟨ve1, Ee1⟩ := xc_col (m := w) hWW hHH h202 h203 i j
  obtain ⟨ve2, Ee2⟩ := xc_len (m := mz_up w 51 0 ve1) hWW hHH h202 h203 i j
  obtain ⟨ve3, Ee3⟩ := xc_edg (m := mz_up (mz_up (mz_up (mz_up w 51 0 ve1) 51 1 ve2) 51 2 ((w 20 0) + (i * (w 20 4)))) 51 3 ((w 20 1) + (j * (w 20 4)))) hWW hHH h202 h203 i j
  by_cases q1 : ve3 = 0
  · obtain ⟨ve4, ge4, Ee4⟩ := xs_ev16 (m := mz_up (mz_up (mz_up (mz_up (mz_up w 51 0 ve1) 51 1 ve2) 51 2 ((w 20 0) + (i * (w 20 4)))) 51 3 ((w 20 1) + (j * (w 20 4)))) 51 4 0) hT2 hV2
    refine ⟨ve4, ((mz_set (mz_up (mz_up (mz_up (mz_up (mz_up w 51 0 ve1) 51 1 ve2) 51 2 ((w 20 0) + (i * (w 20 4)))) 51 3 ((w 20 1) + (j * (w 20 4)))) 51 4 0) 52 ge4) 51), ((mz_set (mz_up (mz_up (mz_up (mz_up (mz_up w 51 0 ve1) 51 1 ve2) 51 2 ((w 20 0) + (i * (w 20 4)))) 51 3 ((w 20 1) + (j * (w 20 4)))) 51 4 0) 52 ge4) 52), ⟨?_, rfl⟩⟩
    have hm : mz_set (mz_up (mz_up (mz_up (mz_up (mz_up w 51 0 ve1) 51 1 ve2) 51 2 ((w 20 0) + (i * (w 20 4)))) 51 3 ((w 20 1) + (j * (w 20 4)))) 51 4 0) 52 ge4 = mz_set (mz_set w 51 ((mz_set (mz_up (mz_up (mz_up (mz_up (mz_up w 51 0 ve1) 51 1 ve2) 51 2 ((w 20 0) + (i * (w 20 4)))) 51 3 ((w 20 1) + (j * (w 20 4)))) 51 4 0) 52 ge4) 51)) 52 ((mz_set (mz_up (mz_up (mz_up (mz_up (mz_up w 51 0 ve1) 51 1 ve2) 51 2 ((w 20 0) + (i * (w 20 4)))) 51 3 ((w 20 1) + (j * (w 20 4)))) 51 4 0) 52 ge4) 52) := sm_of2 (fun i h1 h2 => by simp only [mz_set_ne h2, mz_up_ne h1])
    rw [← hm]
    refine mz_go 10 (c' := (16, [some (.ref 49), some (.int i), some (.int j), some (.ref 20)], [.int j, .int i, .ref 20, .int 0, .ref 51], w)) rfl ?_
    refine mz_doQ (R := mz_r7) (as := [.ref 20, .int i, .int j]) (rest := [.int 0, .ref 51]) (r1 := some (.int ve1)) (m1 := w) mz_t7 mz_v7_20 rfl rfl rfl rfl rfl (Ee1.deep (by decide)) ?_
    refine mz_go 7 (c' := (28, [some (.ref 49), some (.int i), some (.int j), some (.ref 20)], [.int j, .int i, .ref 20, .int 1, .ref 51], mz_up w 51 0 ve1)) rfl ?_
    refine mz_doQ (R := mz_r8) (as := [.ref 20, .int i, .int j]) (rest := [.int 1, .ref 51]) (r1 := some (.int ve2)) (m1 := mz_up w 51 0 ve1) mz_t8 mz_v8_20 rfl rfl rfl rfl rfl (Ee2.deep (by decide)) ?_
    refine mz_go 24 (c' := (67, [some (.ref 49), some (.int i), some (.int j), some (.ref 20)], [.ref 49], mz_up (mz_up (mz_up (mz_up w 51 0 ve1) 51 1 ve2) 51 2 ((w 20 0) + (i * (w 20 4)))) 51 3 ((w 20 1) + (j * (w 20 4))))) rfl ?_
    refine mz_go 5 (c' := (74, [some (.ref 49), some (.int i), some (.int j), some (.ref 20)], [.int j, .int i, .ref 20, .int 4, .ref 51], mz_up (mz_up (mz_up (mz_up w 51 0 ve1) 51 1 ve2) 51 2 ((w 20 0) + (i * (w 20 4)))) 51 3 ((w 20 1) + (j * (w 20 4))))) rfl ?_
    refine mz_doQ (R := mz_r12) (as := [.ref 20, .int i, .int j]) (rest := [.int 4, .ref 51]) (r1 := some (.int ve3)) (m1 := mz_up (mz_up (mz_up (mz_up w 51 0 ve1) 51 1 ve2) 51 2 ((w 20 0) + (i * (w 20 4)))) 51 3 ((w 20 1) + (j * (w 20 4)))) mz_t12 mz_v12_20 rfl rfl rfl rfl rfl (Ee3.deep (by decide)) ?_
    refine mz_go 1 (c' := (if ve3 = 0 then 84 else 80, [some (.ref 49), some (.int i), some (.int j), some (.ref 20)], [.int 4, .ref 51], mz_up (mz_up (mz_up (mz_up w 51 0 ve1) 51 1 ve2) 51 2 ((w 20 0) + (i * (w 20 4)))) 51 3 ((w 20 1) + (j * (w 20 4))))) rfl ?_
    refine mz_ifT q1 ?_
    refine mz_go 9 (c' := (101, [some (.ref 49), some (.int i), some (.int j), some (.ref 20)], [.ref 52, .ref 51, .ref 16], mz_up (mz_up (mz_up (mz_up (mz_up w 51 0 ve1) 51 1 ve2) 51 2 ((w 20 0) + (i * (w 20 4)))) 51 3 ((w 20 1) + (j * (w 20 4)))) 51 4 0)) rfl ?_
    refine mz_doQ (R := mz_r57) (as := [.ref 16, .ref 51, .ref 52]) (rest := []) (r1 := some (.int ve4)) (m1 := mz_set (mz_up (mz_up (mz_up (mz_up (mz_up w 51 0 ve1) 51 1 ve2) 51 2 ((w 20 0) + (i * (w 20 4)))) 51 3 ((w 20 1) + (j * (w 20 4)))) 51 4 0) 52 ge4) mz_t57 mz_v57_16 rfl rfl rfl rfl rfl (Ee4.deep (by decide)) ?_
    exact mz_ret rfl
  · obtain ⟨ve4, ge4, Ee4⟩ := xs_ev16 (m := mz_up (mz_up (mz_up (mz_up (mz_up w 51 0 ve1) 51 1 ve2) 51 2 ((w 20 0) + (i * (w 20 4)))) 51 3 ((w 20 1) + (j * (w 20 4)))) 51 4 1) hT2 hV2
    refine ⟨ve4, ((mz_set (mz_up (mz_up (mz_up (mz_up (mz_up w 51 0 ve1) 51 1 ve2) 51 2 ((w 20 0) + (i * (w 20 4)))) 51 3 ((w 20 1) + (j * (w 20 4)))) 51 4 1) 52 ge4) 51), ((mz_set (mz_up (mz_up (mz_up (mz_up (mz_up w 51 0 ve1) 51 1 ve2) 51 2 ((w 20 0) + (i * (w 20 4)))) 51 3 ((w 20 1) + (j * (w 20 4)))) 51 4 1) 52 ge4) 52), ⟨?_, rfl⟩⟩
    have hm : mz_set (mz_up (mz_up (mz_up (mz_up (mz_up w 51 0 ve1) 51 1 ve2) 51 2 ((w 20 0) + (i * (w 20 4)))) 51 3 ((w 20 1) + (j * (w 20 4)))) 51 4 1) 52 ge4 = mz_set (mz_set w 51 ((mz_set (mz_up (mz_up (mz_up (mz_up (mz_up w 51 0 ve1) 51 1 ve2) 51 2 ((w 20 0) + (i * (w 20 4)))) 51 3 ((w 20 1) + (j * (w 20 4)))) 51 4 1) 52 ge4) 51)) 52 ((mz_set (mz_up (mz_up (mz_up (mz_up (mz_up w 51 0 ve1) 51 1 ve2) 51 2 ((w 20 0) + (i * (w 20 4)))) 51 3 ((w 20 1) + (j * (w 20 4)))) 51 4 1) 52 ge4) 52) := sm_of2 (fun i h1 h2 => by simp only [mz_set_ne h2, mz_up_ne h1])
    rw [← hm]
    refine mz_go 10 (c' := (16, [some (.ref 49), some (.int i), some (.int j), some (.ref 20)], [.int j, .int i, .ref 20, .int 0, .ref 51], w)) rfl ?_
    refine mz_doQ (R := mz_r7) (as := [.ref 20, .int i, .int j]) (rest := [.int 0, .ref 51]) (r1 := some (.int ve1)) (m1 := w) mz_t7 mz_v7_20 rfl rfl rfl rfl rfl (Ee1.deep (by decide)) ?_
    refine mz_go 7 (c' := (28, [some (.ref 49), some (.int i), some (.int j), some (.ref 20)], [.int j, .int i, .ref 20, .int 1, .ref 51], mz_up w 51 0 ve1)) rfl ?_
    refine mz_doQ (R := mz_r8) (as := [.ref 20, .int i, .int j]) (rest := [.int 1, .ref 51]) (r1 := some (.int ve2)) (m1 := mz_up w 51 0 ve1) mz_t8 mz_v8_20 rfl rfl rfl rfl rfl (Ee2.deep (by decide)) ?_
    refine mz_go 24 (c' := (67, [some (.ref 49), some (.int i), some (.int j), some (.ref 20)], [.ref 49], mz_up (mz_up (mz_up (mz_up w 51 0 ve1) 51 1 ve2) 51 2 ((w 20 0) + (i * (w 20 4)))) 51 3 ((w 20 1) + (j * (w 20 4))))) rfl ?_
    refine mz_go 5 (c' := (74, [some (.ref 49), some (.int i), some (.int j), some (.ref 20)], [.int j, .int i, .ref 20, .int 4, .ref 51], mz_up (mz_up (mz_up (mz_up w 51 0 ve1) 51 1 ve2) 51 2 ((w 20 0) + (i * (w 20 4)))) 51 3 ((w 20 1) + (j * (w 20 4))))) rfl ?_
    refine mz_doQ (R := mz_r12) (as := [.ref 20, .int i, .int j]) (rest := [.int 4, .ref 51]) (r1 := some (.int ve3)) (m1 := mz_up (mz_up (mz_up (mz_up w 51 0 ve1) 51 1 ve2) 51 2 ((w 20 0) + (i * (w 20 4)))) 51 3 ((w 20 1) + (j * (w 20 4)))) mz_t12 mz_v12_20 rfl rfl rfl rfl rfl (Ee3.deep (by decide)) ?_
    refine mz_go 1 (c' := (if ve3 = 0 then 84 else 80, [some (.ref 49), some (.int i), some (.int j), some (.ref 20)], [.int 4, .ref 51], mz_up (mz_up (mz_up (mz_up w 51 0 ve1) 51 1 ve2) 51 2 ((w 20 0) + (i * (w 20 4)))) 51 3 ((w 20 1) + (j * (w 20 4))))) rfl ?_
    refine mz_ifF q1 ?_
    refine mz_go 10 (c' := (101, [some (.ref 49), some (.int i), some (.int j), some (.ref 20)], [.ref 52, .ref 51, .ref 16], mz_up (mz_up (mz_up (mz_up (mz_up w 51 0 ve1) 51 1 ve2) 51 2 ((w 20 0) + (i * (w 20 4)))) 51 3 ((w 20 1) + (j * (w 20 4)))) 51 4 1)) rfl ?_
    refine mz_doQ (R := mz_r57) (as := [.ref 16, .ref 51, .ref 52]) (rest := []) (r1 := some (.int ve4)) (m1 := mz_set (mz_up (mz_up (mz_up (mz_up (mz_up w 51 0 ve1) 51 1 ve2) 51 2 ((w 20 0) + (i * (w 20 4)))) 51 3 ((w 20 1) + (j * (w 20 4)))) 51 4 1) 52 ge4) mz_t57 mz_v57_16 rfl rfl rfl rfl rfl (Ee4.deep (by decide)) ?_
    exact mz_ret rfl
set_option maxHeartbeats 4000000 in
set_option maxRecDepth 100000 in
theorem xw_wani {w : mz_M} {N : Nat} (hw : sm_W w N) (hN : N ≤ 6) (h4 : w 2 4 = nI N) (hr5 : w 7 5 = 1 ∨ w 7 5 = 2) (hr80 : sm_N 80 (w 7 2)) {WW HH : Nat} (hWW : WW ≤ 6) (hHH : HH ≤ 6) (hWH : WW = 0 ↔ HH = 0) (h202 : w 20 2 = nI WW) (h203 : w 20 3 = nI HH) {T2 : Nat} (hT2 : w 16 2 = nI T2) (hV2 : T2 = 0 ∨ sm_wf T2 5 (w 17) (w 18)) (xa x5 : Int32) (HX : ∀ (x6 : Int32) (x3 : Int32) (x4 : Int32) (x7 : Option Value) (r51 : Nat → Int32) (r52 : Nat → Int32), ∃ v m', mz_Ex 100 mz_k93 (111, [some (.ref 0), some (.int xa), some (.ref 20), some (.int x3), some (.int x4), some (.int x5), some (.int x6), x7], [], mz_set (mz_set w 51 r51) 52 r52) (some (.int v), m') ∧ sm_Sc w m') : ∀ fu : Nat, ∀ x6 : Int32, (nI WW).toInt - x6.toInt < (fu : Int) → ∀ (x3 : Int32) (x4 : Int32) (x7 : Option Value) (r51 : Nat → Int32) (r52 : Nat → Int32), ∃ v m', mz_Ex 100 mz_k93 (64, [some (.ref 0), some (.int xa), some (.ref 20), some (.int x3), some (.int x4), some (.int x5), some (.int x6), x7], [], mz_set (mz_set w 51 r51) 52 r52) (some (.int v), m') ∧ sm_Sc w m' := by
  have hT60c := sm_T60 hV2
  intro fu
  induction fu with
  | zero =>
    intro x6 hms x3 x4 x7 r51 r52
    have hmz : (nI WW) ≤ x6 := sm_mz2 hms
    obtain ⟨vr, mr, hr, hsc⟩ := HX x6 x3 x4 x7 ((mz_set (mz_set w 51 r51) 52 r52) 51) ((mz_set (mz_set w 51 r51) 52 r52) 52)
    have hm : mz_set (mz_set w 51 r51) 52 r52 = mz_set (mz_set w 51 ((mz_set (mz_set w 51 r51) 52 r52) 51)) 52 ((mz_set (mz_set w 51 r51) 52 r52) 52) := sm_of2 (fun i h1 h2 => by simp only [mz_set_ne h1, mz_set_ne h2])
    rw [← hm] at hr
    refine ⟨vr, mr, ?_, hsc⟩
    refine mz_go 3 (c' := (70, [some (.ref 0), some (.int xa), some (.ref 20), some (.int x3), some (.int x4), some (.int x5), some (.int x6), x7], [.int (w 20 2), .int x6], mz_set (mz_set w 51 r51) 52 r52)) rfl ?_
    rw [h202]
    refine mz_go 1 (c' := (if (nI WW) ≤ x6 then 111 else 73, [some (.ref 0), some (.int xa), some (.ref 20), some (.int x3), some (.int x4), some (.int x5), some (.int x6), x7], [], mz_set (mz_set w 51 r51) 52 r52)) rfl ?_
    refine mz_ifT hmz ?_
    exact hr
  | succ fu ih =>
    intro x6 hms x3 x4 x7 r51 r52
    by_cases q1 : (nI WW) ≤ x6
    · obtain ⟨vr, mr, hr, hsc⟩ := HX x6 x3 x4 x7 ((mz_set (mz_set w 51 r51) 52 r52) 51) ((mz_set (mz_set w 51 r51) 52 r52) 52)
      have hm : mz_set (mz_set w 51 r51) 52 r52 = mz_set (mz_set w 51 ((mz_set (mz_set w 51 r51) 52 r52) 51)) 52 ((mz_set (mz_set w 51 r51) 52 r52) 52) := sm_of2 (fun i h1 h2 => by simp only [mz_set_ne h1, mz_set_ne h2])
      rw [← hm] at hr
      refine ⟨vr, mr, ?_, hsc⟩
      refine mz_go 3 (c' := (70, [some (.ref 0), some (.int xa), some (.ref 20), some (.int x3), some (.int x4), some (.int x5), some (.int x6), x7], [.int (w 20 2), .int x6], mz_set (mz_set w 51 r51) 52 r52)) rfl ?_
      rw [h202]
      refine mz_go 1 (c' := (if (nI WW) ≤ x6 then 111 else 73, [some (.ref 0), some (.int xa), some (.ref 20), some (.int x3), some (.int x4), some (.int x5), some (.int x6), x7], [], mz_set (mz_set w 51 r51) 52 r52)) rfl ?_
      refine mz_ifT q1 ?_
      exact hr
    · obtain ⟨ve1, s51e1, s52e1, Ee1⟩ := xw_wof (w := mz_set (mz_set w 51 r51) 52 r52) hw hN h4 hr5 hr80 hWW hHH hWH h202 h203 hT2 hV2 x6 x5
      by_cases q2 : ve1 ≤ x3
      · obtain ⟨vr, mr, hr, hsc⟩ := ih (x6 + 1) (sm_me2 (sm_hN (by omega)) q1 hms) x3 x4 (some (.int ve1)) ((mz_set (mz_set (mz_set (mz_set w 51 r51) 52 r52) 51 s51e1) 52 s52e1) 51) ((mz_set (mz_set (mz_set (mz_set w 51 r51) 52 r52) 51 s51e1) 52 s52e1) 52)
        have hm : mz_set (mz_set (mz_set (mz_set w 51 r51) 52 r52) 51 s51e1) 52 s52e1 = mz_set (mz_set w 51 ((mz_set (mz_set (mz_set (mz_set w 51 r51) 52 r52) 51 s51e1) 52 s52e1) 51)) 52 ((mz_set (mz_set (mz_set (mz_set w 51 r51) 52 r52) 51 s51e1) 52 s52e1) 52) := sm_of2 (fun i h1 h2 => by simp only [mz_set_ne h1, mz_set_ne h2])
        rw [← hm] at hr
        refine ⟨vr, mr, ?_, hsc⟩
        refine mz_go 3 (c' := (70, [some (.ref 0), some (.int xa), some (.ref 20), some (.int x3), some (.int x4), some (.int x5), some (.int x6), x7], [.int (w 20 2), .int x6], mz_set (mz_set w 51 r51) 52 r52)) rfl ?_
        rw [h202]
        refine mz_go 1 (c' := (if (nI WW) ≤ x6 then 111 else 73, [some (.ref 0), some (.int xa), some (.ref 20), some (.int x3), some (.int x4), some (.int x5), some (.int x6), x7], [], mz_set (mz_set w 51 r51) 52 r52)) rfl ?_
        refine mz_ifF q1 ?_
        refine mz_go 4 (c' := (81, [some (.ref 0), some (.int xa), some (.ref 20), some (.int x3), some (.int x4), some (.int x5), some (.int x6), x7], [.int x5, .int x6, .ref 49], mz_set (mz_set w 51 r51) 52 r52)) rfl ?_
        refine mz_doQ (R := mz_r44) (as := [.ref 49, .int x6, .int x5]) (rest := []) (r1 := some (.int ve1)) (m1 := mz_set (mz_set (mz_set (mz_set w 51 r51) 52 r52) 51 s51e1) 52 s52e1) mz_t44 mz_v44_49 rfl rfl rfl rfl rfl (Ee1.deep (by decide)) ?_
        refine mz_go 4 (c' := (if ve1 ≤ x3 then 105 else 92, [some (.ref 0), some (.int xa), some (.ref 20), some (.int x3), some (.int x4), some (.int x5), some (.int x6), some (.int ve1)], [], mz_set (mz_set (mz_set (mz_set w 51 r51) 52 r52) 51 s51e1) 52 s52e1)) rfl ?_
        refine mz_ifT q2 ?_
        refine mz_go 2 (c' := (64, [some (.ref 0), some (.int xa), some (.ref 20), some (.int x3), some (.int x4), some (.int x5), some (.int (x6 + 1)), some (.int ve1)], [], mz_set (mz_set (mz_set (mz_set w 51 r51) 52 r52) 51 s51e1) 52 s52e1)) rfl ?_
        exact hr
      · obtain ⟨vr, mr, hr, hsc⟩ := ih (x6 + 1) (sm_me2 (sm_hN (by omega)) q1 hms) ve1 ((10 * x6) + x5) (some (.int ve1)) ((mz_set (mz_set (mz_set (mz_set w 51 r51) 52 r52) 51 s51e1) 52 s52e1) 51) ((mz_set (mz_set (mz_set (mz_set w 51 r51) 52 r52) 51 s51e1) 52 s52e1) 52)
        have hm : mz_set (mz_set (mz_set (mz_set w 51 r51) 52 r52) 51 s51e1) 52 s52e1 = mz_set (mz_set w 51 ((mz_set (mz_set (mz_set (mz_set w 51 r51) 52 r52) 51 s51e1) 52 s52e1) 51)) 52 ((mz_set (mz_set (mz_set (mz_set w 51 r51) 52 r52) 51 s51e1) 52 s52e1) 52) := sm_of2 (fun i h1 h2 => by simp only [mz_set_ne h1, mz_set_ne h2])
        rw [← hm] at hr
        refine ⟨vr, mr, ?_, hsc⟩
        refine mz_go 3 (c' := (70, [some (.ref 0), some (.int xa), some (.ref 20), some (.int x3), some (.int x4), some (.int x5), some (.int x6), x7], [.int (w 20 2), .int x6], mz_set (mz_set w 51 r51) 52 r52)) rfl ?_
        rw [h202]
        refine mz_go 1 (c' := (if (nI WW) ≤ x6 then 111 else 73, [some (.ref 0), some (.int xa), some (.ref 20), some (.int x3), some (.int x4), some (.int x5), some (.int x6), x7], [], mz_set (mz_set w 51 r51) 52 r52)) rfl ?_
        refine mz_ifF q1 ?_
        refine mz_go 4 (c' := (81, [some (.ref 0), some (.int xa), some (.ref 20), some (.int x3), some (.int x4), some (.int x5), some (.int x6), x7], [.int x5, .int x6, .ref 49], mz_set (mz_set w 51 r51) 52 r52)) rfl ?_
        refine mz_doQ (R := mz_r44) (as := [.ref 49, .int x6, .int x5]) (rest := []) (r1 := some (.int ve1)) (m1 := mz_set (mz_set (mz_set (mz_set w 51 r51) 52 r52) 51 s51e1) 52 s52e1) mz_t44 mz_v44_49 rfl rfl rfl rfl rfl (Ee1.deep (by decide)) ?_
        refine mz_go 4 (c' := (if ve1 ≤ x3 then 105 else 92, [some (.ref 0), some (.int xa), some (.ref 20), some (.int x3), some (.int x4), some (.int x5), some (.int x6), some (.int ve1)], [], mz_set (mz_set (mz_set (mz_set w 51 r51) 52 r52) 51 s51e1) 52 s52e1)) rfl ?_
        refine mz_ifF q2 ?_
        refine mz_go 10 (c' := (64, [some (.ref 0), some (.int xa), some (.ref 20), some (.int ve1), some (.int ((10 * x6) + x5)), some (.int x5), some (.int (x6 + 1)), some (.int ve1)], [], mz_set (mz_set (mz_set (mz_set w 51 r51) 52 r52) 51 s51e1) 52 s52e1)) rfl ?_
        exact hr
set_option maxHeartbeats 4000000 in
set_option maxRecDepth 100000 in
theorem xw_wanj {w : mz_M} {N : Nat} (hw : sm_W w N) (hN : N ≤ 6) (h4 : w 2 4 = nI N) (hr5 : w 7 5 = 1 ∨ w 7 5 = 2) (hr80 : sm_N 80 (w 7 2)) {WW HH : Nat} (hWW : WW ≤ 6) (hHH : HH ≤ 6) (hWH : WW = 0 ↔ HH = 0) (h202 : w 20 2 = nI WW) (h203 : w 20 3 = nI HH) {T2 : Nat} (hT2 : w 16 2 = nI T2) (hV2 : T2 = 0 ∨ sm_wf T2 5 (w 17) (w 18)) (xa : Int32) (HX : ∀ (x5 : Int32) (x3 : Int32) (x4 : Int32) (x6 : Option Value) (x7 : Option Value) (r51 : Nat → Int32) (r52 : Nat → Int32), ∃ v m', mz_Ex 100 mz_k93 (117, [some (.ref 0), some (.int xa), some (.ref 20), some (.int x3), some (.int x4), some (.int x5), x6, x7], [], mz_set (mz_set w 51 r51) 52 r52) (some (.int v), m') ∧ sm_Sc w m') : ∀ fu : Nat, ∀ x5 : Int32, (nI HH).toInt - x5.toInt < (fu : Int) → ∀ (x3 : Int32) (x4 : Int32) (x6 : Option Value) (x7 : Option Value) (r51 : Nat → Int32) (r52 : Nat → Int32), ∃ v m', mz_Ex 100 mz_k93 (52, [some (.ref 0), some (.int xa), some (.ref 20), some (.int x3), some (.int x4), some (.int x5), x6, x7], [], mz_set (mz_set w 51 r51) 52 r52) (some (.int v), m') ∧ sm_Sc w m' := by
  have hT60c := sm_T60 hV2
  intro fu
  induction fu with
  | zero =>
    intro x5 hms x3 x4 x6 x7 r51 r52
    have hmz : (nI HH) ≤ x5 := sm_mz2 hms
    obtain ⟨vr, mr, hr, hsc⟩ := HX x5 x3 x4 x6 x7 ((mz_set (mz_set w 51 r51) 52 r52) 51) ((mz_set (mz_set w 51 r51) 52 r52) 52)
    have hm : mz_set (mz_set w 51 r51) 52 r52 = mz_set (mz_set w 51 ((mz_set (mz_set w 51 r51) 52 r52) 51)) 52 ((mz_set (mz_set w 51 r51) 52 r52) 52) := sm_of2 (fun i h1 h2 => by simp only [mz_set_ne h1, mz_set_ne h2])
    rw [← hm] at hr
    refine ⟨vr, mr, ?_, hsc⟩
    refine mz_go 3 (c' := (58, [some (.ref 0), some (.int xa), some (.ref 20), some (.int x3), some (.int x4), some (.int x5), x6, x7], [.int (w 20 3), .int x5], mz_set (mz_set w 51 r51) 52 r52)) rfl ?_
    rw [h203]
    refine mz_go 1 (c' := (if (nI HH) ≤ x5 then 117 else 61, [some (.ref 0), some (.int xa), some (.ref 20), some (.int x3), some (.int x4), some (.int x5), x6, x7], [], mz_set (mz_set w 51 r51) 52 r52)) rfl ?_
    refine mz_ifT hmz ?_
    exact hr
  | succ fu ih =>
    intro x5 hms x3 x4 x6 x7 r51 r52
    by_cases q1 : (nI HH) ≤ x5
    · obtain ⟨vr, mr, hr, hsc⟩ := HX x5 x3 x4 x6 x7 ((mz_set (mz_set w 51 r51) 52 r52) 51) ((mz_set (mz_set w 51 r51) 52 r52) 52)
      have hm : mz_set (mz_set w 51 r51) 52 r52 = mz_set (mz_set w 51 ((mz_set (mz_set w 51 r51) 52 r52) 51)) 52 ((mz_set (mz_set w 51 r51) 52 r52) 52) := sm_of2 (fun i h1 h2 => by simp only [mz_set_ne h1, mz_set_ne h2])
      rw [← hm] at hr
      refine ⟨vr, mr, ?_, hsc⟩
      refine mz_go 3 (c' := (58, [some (.ref 0), some (.int xa), some (.ref 20), some (.int x3), some (.int x4), some (.int x5), x6, x7], [.int (w 20 3), .int x5], mz_set (mz_set w 51 r51) 52 r52)) rfl ?_
      rw [h203]
      refine mz_go 1 (c' := (if (nI HH) ≤ x5 then 117 else 61, [some (.ref 0), some (.int xa), some (.ref 20), some (.int x3), some (.int x4), some (.int x5), x6, x7], [], mz_set (mz_set w 51 r51) 52 r52)) rfl ?_
      refine mz_ifT q1 ?_
      exact hr
    · have HX1 : ∀ (x6_1 : Int32) (x3_1 : Int32) (x4_1 : Int32) (x7_1 : Option Value) (r51_1 : Nat → Int32) (r52_1 : Nat → Int32), ∃ v m', mz_Ex 100 mz_k93 (111, [some (.ref 0), some (.int xa), some (.ref 20), some (.int x3_1), some (.int x4_1), some (.int x5), some (.int x6_1), x7_1], [], mz_set (mz_set w 51 r51_1) 52 r52_1) (some (.int v), m') ∧ sm_Sc w m' := by
        intro x6_1 x3_1 x4_1 x7_1 r51_1 r52_1
        obtain ⟨vr, mr, hr, hsc⟩ := ih (x5 + 1) (sm_me2 (sm_hN (by omega)) q1 hms) x3_1 x4_1 (some (.int x6_1)) x7_1 ((mz_set (mz_set w 51 r51_1) 52 r52_1) 51) ((mz_set (mz_set w 51 r51_1) 52 r52_1) 52)
        have hm : mz_set (mz_set w 51 r51_1) 52 r52_1 = mz_set (mz_set w 51 ((mz_set (mz_set w 51 r51_1) 52 r52_1) 51)) 52 ((mz_set (mz_set w 51 r51_1) 52 r52_1) 52) := sm_of2 (fun i h1 h2 => by simp only [mz_set_ne h1, mz_set_ne h2])
        rw [← hm] at hr
        refine ⟨vr, mr, ?_, hsc⟩
        refine mz_go 2 (c' := (52, [some (.ref 0), some (.int xa), some (.ref 20), some (.int x3_1), some (.int x4_1), some (.int (x5 + 1)), some (.int x6_1), x7_1], [], mz_set (mz_set w 51 r51_1) 52 r52_1)) rfl ?_
        exact hr
      obtain ⟨vr, mr, hr, hsc⟩ := xw_wani hw hN h4 hr5 hr80 hWW hHH hWH h202 h203 hT2 hV2 xa x5 HX1 ((nI WW : Int32).toInt - (0 : Int32).toInt + 1).toNat 0 (by omega) x3 x4 x7 ((mz_set (mz_set w 51 r51) 52 r52) 51) ((mz_set (mz_set w 51 r51) 52 r52) 52)
      have hm : mz_set (mz_set w 51 r51) 52 r52 = mz_set (mz_set w 51 ((mz_set (mz_set w 51 r51) 52 r52) 51)) 52 ((mz_set (mz_set w 51 r51) 52 r52) 52) := sm_of2 (fun i h1 h2 => by simp only [mz_set_ne h1, mz_set_ne h2])
      rw [← hm] at hr
      refine ⟨vr, mr, ?_, hsc⟩
      refine mz_go 3 (c' := (58, [some (.ref 0), some (.int xa), some (.ref 20), some (.int x3), some (.int x4), some (.int x5), x6, x7], [.int (w 20 3), .int x5], mz_set (mz_set w 51 r51) 52 r52)) rfl ?_
      rw [h203]
      refine mz_go 1 (c' := (if (nI HH) ≤ x5 then 117 else 61, [some (.ref 0), some (.int xa), some (.ref 20), some (.int x3), some (.int x4), some (.int x5), x6, x7], [], mz_set (mz_set w 51 r51) 52 r52)) rfl ?_
      refine mz_ifF q1 ?_
      refine mz_go 2 (c' := (64, [some (.ref 0), some (.int xa), some (.ref 20), some (.int x3), some (.int x4), some (.int x5), some (.int 0), x7], [], mz_set (mz_set w 51 r51) 52 r52)) rfl ?_
      exact hr
set_option maxHeartbeats 4000000 in
set_option maxRecDepth 100000 in
theorem xw_want {w : mz_M} {N : Nat} (hw : sm_W w N) (hN : N ≤ 6) (h4 : w 2 4 = nI N) (hr5 : w 7 5 = 1 ∨ w 7 5 = 2) (hr80 : sm_N 80 (w 7 2)) {WW HH : Nat} (hWW : WW ≤ 6) (hHH : HH ≤ 6) (hWH : WW = 0 ↔ HH = 0) (h202 : w 20 2 = nI WW) (h203 : w 20 3 = nI HH) {T2 : Nat} (hT2 : w 16 2 = nI T2) (hV2 : T2 = 0 ∨ sm_wf T2 5 (w 17) (w 18)) (xa : Int32) : ∃ v m', mz_Me 100 mz_r93 [.ref 0, .int xa] w (some (.int v)) m' ∧ sm_Sc w m' := by
  have hT60c := sm_T60 hV2
  by_cases q1 : (sm_bI (sm_in xa 0 1)) = 0
  · refine ⟨(-1000001), mz_up w 64 1 ((w 64 1) + 1), ⟨?_, rfl⟩, ⟨fun i hi => (by simp only [mz_up_ne (sm_scne hi (r := 64) rfl)]), rfl, rfl⟩⟩
    refine mz_go 3 (c' := (3, [some (.ref 0), some (.int xa), none, none, none, none, none, none], [.int 1, .int 0, .int xa], w)) rfl ?_
    refine mz_doQ (R := mz_r121) (as := [.int xa, .int 0, .int 1]) (rest := []) (r1 := some (.int (sm_bI (sm_in xa 0 1)))) (m1 := w) mz_t121 mz_v121 rfl rfl rfl rfl rfl ((cs_in (m := w) xa 0 1).deep (by decide)) ?_
    refine mz_go 1 (c' := (if (sm_bI (sm_in xa 0 1)) = 0 then 9 else 15, [some (.ref 0), some (.int xa), none, none, none, none, none, none], [], w)) rfl ?_
    refine mz_ifT q1 ?_
    refine mz_go 2 (c' := (11, [some (.ref 0), some (.int xa), none, none, none, none, none, none], [.int 1, .ref 0], w)) rfl ?_
    refine mz_doQ (R := mz_r109) (as := [.ref 0, .int 1]) (rest := []) (r1 := some (.int (-1000001))) (m1 := mz_up w 64 1 ((w 64 1) + 1)) mz_t109 mz_v109_0 rfl rfl rfl rfl rfl ((cs_err1 (m := w)).deep (by decide)) ?_
    exact mz_ret rfl
  · by_cases q2 : WW ≤ 0
    · refine ⟨(-1000002), mz_up w 64 2 ((w 64 2) + 1), ⟨?_, rfl⟩, ⟨fun i hi => (by simp only [mz_up_ne (sm_scne hi (r := 64) rfl)]), rfl, rfl⟩⟩
      refine mz_go 3 (c' := (3, [some (.ref 0), some (.int xa), none, none, none, none, none, none], [.int 1, .int 0, .int xa], w)) rfl ?_
      refine mz_doQ (R := mz_r121) (as := [.int xa, .int 0, .int 1]) (rest := []) (r1 := some (.int 1)) (m1 := w) mz_t121 mz_v121 rfl rfl rfl rfl rfl ((cs_in1 (m := w) (v := xa) (a := 0) (b := 1) (show ¬ (xa < 0) from (sm_in_lo q1)) (show ¬ (1 < xa) from (sm_in_hi q1))).deep (by decide)) ?_
      refine mz_go 6 (c' := (24, [some (.ref 0), some (.int xa), some (.ref 20), none, none, none, none, none], [.ref 20], w)) rfl ?_
      refine mz_doQ (R := mz_r2) (as := [.ref 20]) (rest := []) (r1 := some (.int 0)) (m1 := w) mz_t2 mz_v2_20 rfl rfl rfl rfl rfl ⟨?_, rfl⟩ ?_
      · refine mz_go 2 (c' := (4, [some (.ref 20)], [.int (w 20 2)], w)) rfl ?_
        rw [h202]
        refine mz_go 1 (c' := (if (nI WW) ≤ 0 then 18 else 7, [some (.ref 20)], [], w)) rfl ?_
        refine mz_ifT (show ((nI WW) ≤ 0) from (sm_leN rfl rfl (show WW ≤ 0 by omega) (show 0 < 2 ^ 31 by omega))) ?_
        refine mz_go 1 (c' := (19, [some (.ref 20)], [.int 0], w)) rfl ?_
        exact mz_ret rfl
      refine mz_go 3 (c' := (32, [some (.ref 0), some (.int xa), some (.ref 20), none, none, none, none, none], [.int 2, .ref 0], w)) rfl ?_
      refine mz_doQ (R := mz_r109) (as := [.ref 0, .int 2]) (rest := []) (r1 := some (.int (-1000002))) (m1 := mz_up w 64 2 ((w 64 2) + 1)) mz_t109 mz_v109_0 rfl rfl rfl rfl rfl ((cs_err2 (m := w)).deep (by decide)) ?_
      exact mz_ret rfl
    · obtain ⟨ve1, s51e1, s52e1, Ee1⟩ := xw_wof (w := w) hw hN h4 hr5 hr80 hWW hHH hWH h202 h203 hT2 hV2 0 0
      have HX2 : ∀ (x5_2 : Int32) (x3_2 : Int32) (x4_2 : Int32) (x6_2 : Option Value) (x7_2 : Option Value) (r51_2 : Nat → Int32) (r52_2 : Nat → Int32), ∃ v m', mz_Ex 100 mz_k93 (117, [some (.ref 0), some (.int xa), some (.ref 20), some (.int x3_2), some (.int x4_2), some (.int x5_2), x6_2, x7_2], [], mz_set (mz_set w 51 r51_2) 52 r52_2) (some (.int v), m') ∧ sm_Sc w m' := by
        intro x5_2 x3_2 x4_2 x6_2 x7_2 r51_2 r52_2
        by_cases q3 : xa = 0
        · refine ⟨x4_2, mz_set (mz_set w 51 r51_2) 52 r52_2, ?_, ⟨fun i hi => (by simp only [mz_set_ne (sm_scne hi (r := 51) rfl), mz_set_ne (sm_scne hi (r := 52) rfl)]), rfl, rfl⟩⟩
          refine mz_go 2 (c' := (if xa = 0 then 121 else 126, [some (.ref 0), some (.int xa), some (.ref 20), some (.int x3_2), some (.int x4_2), some (.int x5_2), x6_2, x7_2], [], mz_set (mz_set w 51 r51_2) 52 r52_2)) rfl ?_
          refine mz_ifT q3 ?_
          refine mz_go 2 (c' := (127, [some (.ref 0), some (.int xa), some (.ref 20), some (.int x3_2), some (.int x4_2), some (.int x5_2), x6_2, x7_2], [.int x4_2], mz_set (mz_set w 51 r51_2) 52 r52_2)) rfl ?_
          exact mz_ret rfl
        · refine ⟨x3_2, mz_set (mz_set w 51 r51_2) 52 r52_2, ?_, ⟨fun i hi => (by simp only [mz_set_ne (sm_scne hi (r := 51) rfl), mz_set_ne (sm_scne hi (r := 52) rfl)]), rfl, rfl⟩⟩
          refine mz_go 2 (c' := (if xa = 0 then 121 else 126, [some (.ref 0), some (.int xa), some (.ref 20), some (.int x3_2), some (.int x4_2), some (.int x5_2), x6_2, x7_2], [], mz_set (mz_set w 51 r51_2) 52 r52_2)) rfl ?_
          refine mz_ifF q3 ?_
          refine mz_go 1 (c' := (127, [some (.ref 0), some (.int xa), some (.ref 20), some (.int x3_2), some (.int x4_2), some (.int x5_2), x6_2, x7_2], [.int x3_2], mz_set (mz_set w 51 r51_2) 52 r52_2)) rfl ?_
          exact mz_ret rfl
      obtain ⟨vr, mr, hr, hsc⟩ := xw_wanj hw hN h4 hr5 hr80 hWW hHH hWH h202 h203 hT2 hV2 xa HX2 ((nI HH : Int32).toInt - (0 : Int32).toInt + 1).toNat 0 (by omega) ve1 0 none none ((mz_set (mz_set w 51 s51e1) 52 s52e1) 51) ((mz_set (mz_set w 51 s51e1) 52 s52e1) 52)
      have hm : mz_set (mz_set w 51 s51e1) 52 s52e1 = mz_set (mz_set w 51 ((mz_set (mz_set w 51 s51e1) 52 s52e1) 51)) 52 ((mz_set (mz_set w 51 s51e1) 52 s52e1) 52) := sm_of2 (fun i h1 h2 => by simp only [mz_set_ne h1, mz_set_ne h2])
      rw [← hm] at hr
      refine ⟨vr, mr, ⟨?_, rfl⟩, hsc⟩
      refine mz_go 3 (c' := (3, [some (.ref 0), some (.int xa), none, none, none, none, none, none], [.int 1, .int 0, .int xa], w)) rfl ?_
      refine mz_doQ (R := mz_r121) (as := [.int xa, .int 0, .int 1]) (rest := []) (r1 := some (.int 1)) (m1 := w) mz_t121 mz_v121 rfl rfl rfl rfl rfl ((cs_in1 (m := w) (v := xa) (a := 0) (b := 1) (show ¬ (xa < 0) from (sm_in_lo q1)) (show ¬ (1 < xa) from (sm_in_hi q1))).deep (by decide)) ?_
      refine mz_go 6 (c' := (24, [some (.ref 0), some (.int xa), some (.ref 20), none, none, none, none, none], [.ref 20], w)) rfl ?_
      refine mz_doQ (R := mz_r2) (as := [.ref 20]) (rest := []) (r1 := some (.int 1)) (m1 := w) mz_t2 mz_v2_20 rfl rfl rfl rfl rfl ⟨?_, rfl⟩ ?_
      · refine mz_go 2 (c' := (4, [some (.ref 20)], [.int (w 20 2)], w)) rfl ?_
        rw [h202]
        refine mz_go 1 (c' := (if (nI WW) ≤ 0 then 18 else 7, [some (.ref 20)], [], w)) rfl ?_
        refine mz_ifF (show ¬ ((nI WW) ≤ 0) from (sm_nleN rfl rfl (show 0 < WW by omega) (show WW < 2 ^ 31 by omega))) ?_
        refine mz_go 2 (c' := (11, [some (.ref 20)], [.int (w 20 3)], w)) rfl ?_
        rw [h203]
        refine mz_go 1 (c' := (if (nI HH) ≤ 0 then 18 else 14, [some (.ref 20)], [], w)) rfl ?_
        refine mz_ifF (show ¬ ((nI HH) ≤ 0) from (sm_nleN rfl rfl (show 0 < HH by omega) (show HH < 2 ^ 31 by omega))) ?_
        refine mz_go 2 (c' := (19, [some (.ref 20)], [.int 1], w)) rfl ?_
        exact mz_ret rfl
      refine mz_go 5 (c' := (42, [some (.ref 0), some (.int xa), some (.ref 20), none, none, none, none, none], [.int 0, .int 0, .ref 49], w)) rfl ?_
      refine mz_doQ (R := mz_r44) (as := [.ref 49, .int 0, .int 0]) (rest := []) (r1 := some (.int ve1)) (m1 := mz_set (mz_set w 51 s51e1) 52 s52e1) mz_t44 mz_v44_49 rfl rfl rfl rfl rfl (Ee1.deep (by decide)) ?_
      refine mz_go 5 (c' := (52, [some (.ref 0), some (.int xa), some (.ref 20), some (.int ve1), some (.int 0), some (.int 0), none, none], [], mz_set (mz_set w 51 s51e1) 52 s52e1)) rfl ?_
      exact hr
