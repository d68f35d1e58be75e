set_option maxHeartbeats 4000000 in
set_option maxRecDepth 100000 in
theorem xw_chkl {w : mz_M} {N : Nat} (hw : sm_W w N) (hN : N ≤ 6) (h4 : w 2 4 = nI N) (hr5 : w 7 5 = 1 ∨ w 7 5 = 2) (hr80 : sm_N 80 (w 7 2)) {WW HH : Nat} (hWW : WW ≤ 6) (hHH : HH ≤ 6) (hWH : WW = 0 ↔ HH = 0) (h202 : w 20 2 = nI WW) (h203 : w 20 3 = nI HH) {T2 : Nat} (hT2 : w 16 2 = nI T2) (hV2 : T2 = 0 ∨ sm_wf T2 5 (w 17) (w 18)) {AA : Nat} (hAA : AA ≤ 24) (h111 : w 1 11 = nI AA) (xa : Int32) (HX : ∀ (x4 : Int32), ∃ v m', mz_Ex 100 mz_k106 (101, [some (.ref 0), some (.int xa), some (.int (nI AA)), some (.ref 20), some (.int x4)], [], mz_up w 1 11 0) (some (.int v), m') ∧ sm_Sc (mz_up w 1 11 0) m') : ∀ j k : Nat, k + j = WW → ∃ v m', mz_Ex 100 mz_k106 (55, [some (.ref 0), some (.int xa), some (.int (nI AA)), some (.ref 20), some (.int (nI k))], [], mz_up w 1 11 0) (some (.int v), m') ∧ sm_Sc (mz_up w 1 11 0) m' := by
  have hT60c := sm_T60 hV2
  intro j
  induction j with
  | zero =>
    intro k hk 
    rw [show k = WW by omega]
    obtain ⟨vr, mr, hr, hsc⟩ := HX (nI WW) 
    refine ⟨vr, mr, ?_, hsc⟩
    refine mz_go 3 (c' := (61, [some (.ref 0), some (.int xa), some (.int (nI AA)), some (.ref 20), some (.int (nI WW))], [.int (w 20 2), .int (nI WW)], mz_up w 1 11 0)) rfl ?_
    rw [h202]
    refine mz_go 1 (c' := (if (nI WW) ≤ (nI WW) then 101 else 64, [some (.ref 0), some (.int xa), some (.int (nI AA)), some (.ref 20), some (.int (nI WW))], [], mz_up w 1 11 0)) rfl ?_
    refine mz_ifT (show ((nI WW) ≤ (nI WW)) from (sm_leN rfl rfl (show WW ≤ WW by omega) (show WW < 2 ^ 31 by omega))) ?_
    exact hr
  | succ j ih =>
    intro k hk 
    by_cases q1 : AA ≤ k
    · refine ⟨1 + (nI k), mz_up w 1 11 0, ?_, ⟨fun _ _ => rfl, rfl, rfl⟩⟩
      refine mz_go 3 (c' := (61, [some (.ref 0), some (.int xa), some (.int (nI AA)), some (.ref 20), some (.int (nI k))], [.int (w 20 2), .int (nI k)], mz_up w 1 11 0)) rfl ?_
      rw [h202]
      refine mz_go 1 (c' := (if (nI WW) ≤ (nI k) then 101 else 64, [some (.ref 0), some (.int xa), some (.int (nI AA)), some (.ref 20), some (.int (nI k))], [], mz_up w 1 11 0)) rfl ?_
      refine mz_ifF (show ¬ ((nI WW) ≤ (nI k)) from (sm_nleN rfl rfl (show k < WW by omega) (show WW < 2 ^ 31 by omega))) ?_
      refine mz_go 3 (c' := (if (nI AA) ≤ (nI k) then 90 else 70, [some (.ref 0), some (.int xa), some (.int (nI AA)), some (.ref 20), some (.int (nI k))], [], mz_up w 1 11 0)) rfl ?_
      refine mz_ifT (show ((nI AA) ≤ (nI k)) from (sm_leN rfl rfl (show AA ≤ k by omega) (show k < 2 ^ 31 by omega))) ?_
      refine mz_go 3 (c' := (94, [some (.ref 0), some (.int xa), some (.int (nI AA)), some (.ref 20), some (.int (nI k))], [.int (1 + (nI k))], mz_up w 1 11 0)) rfl ?_
      exact mz_ret rfl
    · obtain ⟨ve1, Ee1⟩ := xc_col (m := mz_up w 1 11 0) hWW hHH h202 h203 (nI k) xa
      by_cases q2 : (w 24 k) = ve1
      · obtain ⟨vr, mr, hr, hsc⟩ := ih (k + 1) (by omega) 
        rw [nI_succ k] at hr
        refine ⟨vr, mr, ?_, hsc⟩
        refine mz_go 3 (c' := (61, [some (.ref 0), some (.int xa), some (.int (nI AA)), some (.ref 20), some (.int (nI k))], [.int (w 20 2), .int (nI k)], mz_up w 1 11 0)) rfl ?_
        rw [h202]
        refine mz_go 1 (c' := (if (nI WW) ≤ (nI k) then 101 else 64, [some (.ref 0), some (.int xa), some (.int (nI AA)), some (.ref 20), some (.int (nI k))], [], mz_up w 1 11 0)) rfl ?_
        refine mz_ifF (show ¬ ((nI WW) ≤ (nI k)) from (sm_nleN rfl rfl (show k < WW by omega) (show WW < 2 ^ 31 by omega))) ?_
        refine mz_go 3 (c' := (if (nI AA) ≤ (nI k) then 90 else 70, [some (.ref 0), some (.int xa), some (.int (nI AA)), some (.ref 20), some (.int (nI k))], [], mz_up w 1 11 0)) rfl ?_
        refine mz_ifF (show ¬ ((nI AA) ≤ (nI k)) from (sm_nleN rfl rfl (show k < AA by omega) (show AA < 2 ^ 31 by omega))) ?_
        refine mz_go 4 (c' := (79, [some (.ref 0), some (.int xa), some (.int (nI AA)), some (.ref 20), some (.int (nI k))], [.int (nI k), .ref 24], mz_up w 1 11 0)) rfl ?_
        refine mz_arr (c' := (80, [some (.ref 0), some (.int xa), some (.int (nI AA)), some (.ref 20), some (.int (nI k))], [.int (w 24 ((nI k).toNatClampNeg))], mz_up w 1 11 0)) rfl (show mz_in (nI k) 24 = true from sm_inN rfl (show k < 24 by omega) (by decide)) ?_
        rw [show (nI k : Int32).toNatClampNeg = k from sm_clN rfl (show k < 2 ^ 31 by omega)]
        refine mz_go 3 (c' := (84, [some (.ref 0), some (.int xa), some (.int (nI AA)), some (.ref 20), some (.int (nI k))], [.int xa, .int (nI k), .ref 20, .int (w 24 k)], mz_up w 1 11 0)) rfl ?_
        refine mz_doQ (R := mz_r7) (as := [.ref 20, .int (nI k), .int xa]) (rest := [.int (w 24 k)]) (r1 := some (.int ve1)) (m1 := mz_up w 1 11 0) mz_t7 mz_v7_20 rfl rfl rfl rfl rfl (Ee1.deep (by decide)) ?_
        refine mz_go 1 (c' := (if (w 24 k) = ve1 then 95 else 90, [some (.ref 0), some (.int xa), some (.int (nI AA)), some (.ref 20), some (.int (nI k))], [], mz_up w 1 11 0)) rfl ?_
        refine mz_ifT q2 ?_
        refine mz_go 2 (c' := (55, [some (.ref 0), some (.int xa), some (.int (nI AA)), some (.ref 20), some (.int ((nI k) + 1))], [], mz_up w 1 11 0)) rfl ?_
        exact hr
      · refine ⟨1 + (nI k), mz_up w 1 11 0, ?_, ⟨fun _ _ => rfl, rfl, rfl⟩⟩
        refine mz_go 3 (c' := (61, [some (.ref 0), some (.int xa), some (.int (nI AA)), some (.ref 20), some (.int (nI k))], [.int (w 20 2), .int (nI k)], mz_up w 1 11 0)) rfl ?_
        rw [h202]
        refine mz_go 1 (c' := (if (nI WW) ≤ (nI k) then 101 else 64, [some (.ref 0), some (.int xa), some (.int (nI AA)), some (.ref 20), some (.int (nI k))], [], mz_up w 1 11 0)) rfl ?_
        refine mz_ifF (show ¬ ((nI WW) ≤ (nI k)) from (sm_nleN rfl rfl (show k < WW by omega) (show WW < 2 ^ 31 by omega))) ?_
        refine mz_go 3 (c' := (if (nI AA) ≤ (nI k) then 90 else 70, [some (.ref 0), some (.int xa), some (.int (nI AA)), some (.ref 20), some (.int (nI k))], [], mz_up w 1 11 0)) rfl ?_
        refine mz_ifF (show ¬ ((nI AA) ≤ (nI k)) from (sm_nleN rfl rfl (show k < AA by omega) (show AA < 2 ^ 31 by omega))) ?_
        refine mz_go 4 (c' := (79, [some (.ref 0), some (.int xa), some (.int (nI AA)), some (.ref 20), some (.int (nI k))], [.int (nI k), .ref 24], mz_up w 1 11 0)) rfl ?_
        refine mz_arr (c' := (80, [some (.ref 0), some (.int xa), some (.int (nI AA)), some (.ref 20), some (.int (nI k))], [.int (w 24 ((nI k).toNatClampNeg))], mz_up w 1 11 0)) rfl (show mz_in (nI k) 24 = true from sm_inN rfl (show k < 24 by omega) (by decide)) ?_
        rw [show (nI k : Int32).toNatClampNeg = k from sm_clN rfl (show k < 2 ^ 31 by omega)]
        refine mz_go 3 (c' := (84, [some (.ref 0), some (.int xa), some (.int (nI AA)), some (.ref 20), some (.int (nI k))], [.int xa, .int (nI k), .ref 20, .int (w 24 k)], mz_up w 1 11 0)) rfl ?_
        refine mz_doQ (R := mz_r7) (as := [.ref 20, .int (nI k), .int xa]) (rest := [.int (w 24 k)]) (r1 := some (.int ve1)) (m1 := mz_up w 1 11 0) mz_t7 mz_v7_20 rfl rfl rfl rfl rfl (Ee1.deep (by decide)) ?_
        refine mz_go 1 (c' := (if (w 24 k) = ve1 then 95 else 90, [some (.ref 0), some (.int xa), some (.int (nI AA)), some (.ref 20), some (.int (nI k))], [], mz_up w 1 11 0)) rfl ?_
        refine mz_ifF q2 ?_
        refine mz_go 3 (c' := (94, [some (.ref 0), some (.int xa), some (.int (nI AA)), some (.ref 20), some (.int (nI k))], [.int (1 + (nI k))], mz_up w 1 11 0)) rfl ?_
        exact mz_ret rfl
set_option maxHeartbeats 4000000 in
set_option maxRecDepth 100000 in
theorem xw_check {w : mz_M} {N : Nat} (hw : sm_W w N) (hN : N ≤ 6) (h4 : w 2 4 = nI N) (hr5 : w 7 5 = 1 ∨ w 7 5 = 2) (hr80 : sm_N 80 (w 7 2)) {WW HH : Nat} (hWW : WW ≤ 6) (hHH : HH ≤ 6) (hWH : WW = 0 ↔ HH = 0) (h202 : w 20 2 = nI WW) (h203 : w 20 3 = nI HH) {T2 : Nat} (hT2 : w 16 2 = nI T2) (hV2 : T2 = 0 ∨ sm_wf T2 5 (w 17) (w 18)) {AA : Nat} (hAA : AA ≤ 24) (h111 : w 1 11 = nI AA) (xa : Int32) : ∃ v m', mz_Me 100 mz_r106 [.ref 0, .int xa] w (some (.int v)) m' ∧ sm_Sc (mz_up w 1 11 0) m' := by
  have hT60c := sm_T60 hV2
  by_cases q1 : WW ≤ 0
  · refine ⟨(-1000002), mz_up (mz_up w 1 11 0) 64 2 ((w 64 2) + 1), ⟨?_, rfl⟩, ⟨fun i hi => (by simp only [mz_up_ne (sm_scne hi (r := 64) rfl)]), rfl, rfl⟩⟩
    refine mz_go 3 (c' := (7, [some (.ref 0), some (.int xa), none, none, none], [.int (w 1 11)], w)) rfl ?_
    rw [h111]
    refine mz_go 10 (c' := (25, [some (.ref 0), some (.int xa), some (.int (nI AA)), some (.ref 20), none], [.ref 20], mz_up w 1 11 0)) rfl ?_
    refine mz_doQ (R := mz_r2) (as := [.ref 20]) (rest := []) (r1 := some (.int 0)) (m1 := mz_up w 1 11 0) mz_t2 mz_v2_20 rfl rfl rfl rfl rfl ⟨?_, rfl⟩ ?_
    · refine mz_go 2 (c' := (4, [some (.ref 20)], [.int (w 20 2)], mz_up w 1 11 0)) rfl ?_
      rw [h202]
      refine mz_go 1 (c' := (if (nI WW) ≤ 0 then 18 else 7, [some (.ref 20)], [], mz_up w 1 11 0)) rfl ?_
      refine mz_ifT (show ((nI WW) ≤ 0) from (sm_leN rfl rfl (show WW ≤ 0 by omega) (show 0 < 2 ^ 31 by omega))) ?_
      refine mz_go 1 (c' := (19, [some (.ref 20)], [.int 0], mz_up w 1 11 0)) rfl ?_
      exact mz_ret rfl
    refine mz_go 3 (c' := (33, [some (.ref 0), some (.int xa), some (.int (nI AA)), some (.ref 20), none], [.int 2, .ref 0], mz_up w 1 11 0)) rfl ?_
    refine mz_doQ (R := mz_r109) (as := [.ref 0, .int 2]) (rest := []) (r1 := some (.int (-1000002))) (m1 := mz_up (mz_up w 1 11 0) 64 2 ((w 64 2) + 1)) mz_t109 mz_v109_0 rfl rfl rfl rfl rfl ((cs_err2 (m := mz_up w 1 11 0)).deep (by decide)) ?_
    exact mz_ret rfl
  · obtain ⟨ve1, Ee1⟩ := xc_has (m := mz_up w 1 11 0) hWW hHH h202 h203 0 xa
    by_cases q2 : ve1 = 0
    · refine ⟨(-1000001), mz_up (mz_up w 1 11 0) 64 1 ((w 64 1) + 1), ⟨?_, rfl⟩, ⟨fun i hi => (by simp only [mz_up_ne (sm_scne hi (r := 64) rfl)]), rfl, rfl⟩⟩
      refine mz_go 3 (c' := (7, [some (.ref 0), some (.int xa), none, none, none], [.int (w 1 11)], w)) rfl ?_
      rw [h111]
      refine mz_go 10 (c' := (25, [some (.ref 0), some (.int xa), some (.int (nI AA)), some (.ref 20), none], [.ref 20], mz_up w 1 11 0)) rfl ?_
      refine mz_doQ (R := mz_r2) (as := [.ref 20]) (rest := []) (r1 := some (.int 1)) (m1 := mz_up w 1 11 0) mz_t2 mz_v2_20 rfl rfl rfl rfl rfl ⟨?_, rfl⟩ ?_
      · refine mz_go 2 (c' := (4, [some (.ref 20)], [.int (w 20 2)], mz_up w 1 11 0)) rfl ?_
        rw [h202]
        refine mz_go 1 (c' := (if (nI WW) ≤ 0 then 18 else 7, [some (.ref 20)], [], mz_up w 1 11 0)) rfl ?_
        refine mz_ifF (show ¬ ((nI WW) ≤ 0) from (sm_nleN rfl rfl (show 0 < WW by omega) (show WW < 2 ^ 31 by omega))) ?_
        refine mz_go 2 (c' := (11, [some (.ref 20)], [.int (w 20 3)], mz_up w 1 11 0)) rfl ?_
        rw [h203]
        refine mz_go 1 (c' := (if (nI HH) ≤ 0 then 18 else 14, [some (.ref 20)], [], mz_up w 1 11 0)) rfl ?_
        refine mz_ifF (show ¬ ((nI HH) ≤ 0) from (sm_nleN rfl rfl (show 0 < HH by omega) (show HH < 2 ^ 31 by omega))) ?_
        refine mz_go 2 (c' := (19, [some (.ref 20)], [.int 1], mz_up w 1 11 0)) rfl ?_
        exact mz_ret rfl
      refine mz_go 4 (c' := (40, [some (.ref 0), some (.int xa), some (.int (nI AA)), some (.ref 20), none], [.int xa, .int 0, .ref 20], mz_up w 1 11 0)) rfl ?_
      refine mz_doQ (R := mz_r4) (as := [.ref 20, .int 0, .int xa]) (rest := []) (r1 := some (.int ve1)) (m1 := mz_up w 1 11 0) mz_t4 mz_v4_20 rfl rfl rfl rfl rfl (Ee1.deep (by decide)) ?_
      refine mz_go 1 (c' := (if ve1 = 0 then 46 else 52, [some (.ref 0), some (.int xa), some (.int (nI AA)), some (.ref 20), none], [], mz_up w 1 11 0)) rfl ?_
      refine mz_ifT q2 ?_
      refine mz_go 2 (c' := (48, [some (.ref 0), some (.int xa), some (.int (nI AA)), some (.ref 20), none], [.int 1, .ref 0], mz_up w 1 11 0)) rfl ?_
      refine mz_doQ (R := mz_r109) (as := [.ref 0, .int 1]) (rest := []) (r1 := some (.int (-1000001))) (m1 := mz_up (mz_up w 1 11 0) 64 1 ((w 64 1) + 1)) mz_t109 mz_v109_0 rfl rfl rfl rfl rfl ((cs_err1 (m := mz_up w 1 11 0)).deep (by decide)) ?_
      exact mz_ret rfl
    · have HX1 : ∀ (x4_1 : Int32), ∃ v m', mz_Ex 100 mz_k106 (101, [some (.ref 0), some (.int xa), some (.int (nI AA)), some (.ref 20), some (.int x4_1)], [], mz_up w 1 11 0) (some (.int v), m') ∧ sm_Sc (mz_up w 1 11 0) m' := by
        intro x4_1
        by_cases q3 : AA ≤ WW
        · refine ⟨0, mz_up w 1 11 0, ?_, ⟨fun _ _ => rfl, rfl, rfl⟩⟩
          refine mz_go 3 (c' := (106, [some (.ref 0), some (.int xa), some (.int (nI AA)), some (.ref 20), some (.int x4_1)], [.int (w 20 2), .int (nI AA)], mz_up w 1 11 0)) rfl ?_
          rw [h202]
          refine mz_go 1 (c' := (if (nI AA) ≤ (nI WW) then 118 else 109, [some (.ref 0), some (.int xa), some (.int (nI AA)), some (.ref 20), some (.int x4_1)], [], mz_up w 1 11 0)) rfl ?_
          refine mz_ifT (show ((nI AA) ≤ (nI WW)) from (sm_leN rfl rfl (show AA ≤ WW by omega) (show WW < 2 ^ 31 by omega))) ?_
          refine mz_go 1 (c' := (119, [some (.ref 0), some (.int xa), some (.int (nI AA)), some (.ref 20), some (.int x4_1)], [.int 0], mz_up w 1 11 0)) rfl ?_
          exact mz_ret rfl
        · refine ⟨1 + (nI WW), mz_up w 1 11 0, ?_, ⟨fun _ _ => rfl, rfl, rfl⟩⟩
          refine mz_go 3 (c' := (106, [some (.ref 0), some (.int xa), some (.int (nI AA)), some (.ref 20), some (.int x4_1)], [.int (w 20 2), .int (nI AA)], mz_up w 1 11 0)) rfl ?_
          rw [h202]
          refine mz_go 1 (c' := (if (nI AA) ≤ (nI WW) then 118 else 109, [some (.ref 0), some (.int xa), some (.int (nI AA)), some (.ref 20), some (.int x4_1)], [], mz_up w 1 11 0)) rfl ?_
          refine mz_ifF (show ¬ ((nI AA) ≤ (nI WW)) from (sm_nleN rfl rfl (show WW < AA by omega) (show AA < 2 ^ 31 by omega))) ?_
          refine mz_go 3 (c' := (114, [some (.ref 0), some (.int xa), some (.int (nI AA)), some (.ref 20), some (.int x4_1)], [.int (w 20 2), .int 1], mz_up w 1 11 0)) rfl ?_
          rw [h202]
          refine mz_go 2 (c' := (119, [some (.ref 0), some (.int xa), some (.int (nI AA)), some (.ref 20), some (.int x4_1)], [.int (1 + (nI WW))], mz_up w 1 11 0)) rfl ?_
          exact mz_ret rfl
      obtain ⟨vr, mr, hr, hsc⟩ := xw_chkl hw hN h4 hr5 hr80 hWW hHH hWH h202 h203 hT2 hV2 hAA h111 xa HX1 WW 0 (by omega) 
      refine ⟨vr, mr, ⟨?_, rfl⟩, hsc⟩
      refine mz_go 3 (c' := (7, [some (.ref 0), some (.int xa), none, none, none], [.int (w 1 11)], w)) rfl ?_
      rw [h111]
      refine mz_go 10 (c' := (25, [some (.ref 0), some (.int xa), some (.int (nI AA)), some (.ref 20), none], [.ref 20], mz_up w 1 11 0)) rfl ?_
      refine mz_doQ (R := mz_r2) (as := [.ref 20]) (rest := []) (r1 := some (.int 1)) (m1 := mz_up w 1 11 0) mz_t2 mz_v2_20 rfl rfl rfl rfl rfl ⟨?_, rfl⟩ ?_
      · refine mz_go 2 (c' := (4, [some (.ref 20)], [.int (w 20 2)], mz_up w 1 11 0)) rfl ?_
        rw [h202]
        refine mz_go 1 (c' := (if (nI WW) ≤ 0 then 18 else 7, [some (.ref 20)], [], mz_up w 1 11 0)) rfl ?_
        refine mz_ifF (show ¬ ((nI WW) ≤ 0) from (sm_nleN rfl rfl (show 0 < WW by omega) (show WW < 2 ^ 31 by omega))) ?_
        refine mz_go 2 (c' := (11, [some (.ref 20)], [.int (w 20 3)], mz_up w 1 11 0)) rfl ?_
        rw [h203]
        refine mz_go 1 (c' := (if (nI HH) ≤ 0 then 18 else 14, [some (.ref 20)], [], mz_up w 1 11 0)) rfl ?_
        refine mz_ifF (show ¬ ((nI HH) ≤ 0) from (sm_nleN rfl rfl (show 0 < HH by omega) (show HH < 2 ^ 31 by omega))) ?_
        refine mz_go 2 (c' := (19, [some (.ref 20)], [.int 1], mz_up w 1 11 0)) rfl ?_
        exact mz_ret rfl
      refine mz_go 4 (c' := (40, [some (.ref 0), some (.int xa), some (.int (nI AA)), some (.ref 20), none], [.int xa, .int 0, .ref 20], mz_up w 1 11 0)) rfl ?_
      refine mz_doQ (R := mz_r4) (as := [.ref 20, .int 0, .int xa]) (rest := []) (r1 := some (.int ve1)) (m1 := mz_up w 1 11 0) mz_t4 mz_v4_20 rfl rfl rfl rfl rfl (Ee1.deep (by decide)) ?_
      refine mz_go 1 (c' := (if ve1 = 0 then 46 else 52, [some (.ref 0), some (.int xa), some (.int (nI AA)), some (.ref 20), none], [], mz_up w 1 11 0)) rfl ?_
      refine mz_ifF q2 ?_
      refine mz_go 2 (c' := (55, [some (.ref 0), some (.int xa), some (.int (nI AA)), some (.ref 20), some (.int 0)], [], mz_up w 1 11 0)) rfl ?_
      exact hr
set_option maxHeartbeats 4000000 in
set_option maxRecDepth 100000 in
theorem xr_chkl {w : mz_M} {N : Nat} (hw : sm_W w N) (hN : N ≤ 6) (hr5 : w 7 5 = 1 ∨ w 7 5 = 2) (hr80 : sm_N 80 (w 7 2)) (hr2 : sm_HR w (w 66)) (h660 : w 66 0 = nI N) (h6615 : w 66 15 = w 7 5) {WW HH : Nat} (hWW : WW ≤ 6) (hHH : HH ≤ 6) (hWH : WW = 0 ↔ HH = 0) (h6660 : w 66 60 = nI WW) (h6661 : w 66 61 = nI HH) {T2 : Nat} (hT2 : w 16 2 = nI T2) (hU2 : w 66 420 = nI T2) (hV2 : T2 = 0 ∨ sm_wf T2 5 (w 17) (w 18)) {AA : Nat} (hAA : AA ≤ 24) (h662 : w 66 2 = nI AA) {J : Nat} (hJ : J < 6) (HX : ∀ (x3 : Int32), ∃ v m', mz_Ex 100 mz_k227 (87, [some (.ref 65), some (.int (nI J)), some (.int (nI AA)), some (.int x3)], [], mz_up w 66 2 0) (some (.int v), m') ∧ sm_Sc (mz_up w 66 2 0) m') : ∀ j k : Nat, k + j = AA → ∃ v m', mz_Ex 100 mz_k227 (49, [some (.ref 65), some (.int (nI J)), some (.int (nI AA)), some (.int (nI k))], [], mz_up w 66 2 0) (some (.int v), m') ∧ sm_Sc (mz_up w 66 2 0) m' := by
  have hT60c := sm_T60 hV2
  intro j
  induction j with
  | zero =>
    intro k hk 
    rw [show k = AA by omega]
    obtain ⟨vr, mr, hr, hsc⟩ := HX (nI AA) 
    refine ⟨vr, mr, ?_, hsc⟩
    refine mz_go 3 (c' := (if (nI AA) ≤ (nI AA) then 87 else 54, [some (.ref 65), some (.int (nI J)), some (.int (nI AA)), some (.int (nI AA))], [], mz_up w 66 2 0)) rfl ?_
    refine mz_ifT (show ((nI AA) ≤ (nI AA)) from (sm_leN rfl rfl (show AA ≤ AA by omega) (show AA < 2 ^ 31 by omega))) ?_
    exact hr
  | succ j ih =>
    intro k hk 
    by_cases q1 : WW ≤ k
    · obtain ⟨vr, mr, hr, hsc⟩ := HX (nI k) 
      refine ⟨vr, mr, ?_, hsc⟩
      refine mz_go 3 (c' := (if (nI AA) ≤ (nI k) then 87 else 54, [some (.ref 65), some (.int (nI J)), some (.int (nI AA)), some (.int (nI k))], [], mz_up w 66 2 0)) rfl ?_
      refine mz_ifF (show ¬ ((nI AA) ≤ (nI k)) from (sm_nleN rfl rfl (show k < AA by omega) (show AA < 2 ^ 31 by omega))) ?_
      refine mz_go 2 (c' := (56, [some (.ref 65), some (.int (nI J)), some (.int (nI AA)), some (.int (nI k))], [.ref 65, .int (nI k)], mz_up w 66 2 0)) rfl ?_
      refine mz_doQ (R := mz_r183) (as := [.ref 65]) (rest := [.int (nI k)]) (r1 := some (.int (nI WW))) (m1 := mz_up w 66 2 0) mz_t183 mz_v183_65 rfl rfl rfl rfl rfl ⟨?_, rfl⟩ ?_
      · refine mz_go 4 (c' := (7, [some (.ref 65)], [.int (w 66 60)], mz_up w 66 2 0)) rfl ?_
        rw [h6660]
        exact mz_ret rfl
      refine mz_go 1 (c' := (if (nI WW) ≤ (nI k) then 87 else 62, [some (.ref 65), some (.int (nI J)), some (.int (nI AA)), some (.int (nI k))], [], mz_up w 66 2 0)) rfl ?_
      refine mz_ifT (show ((nI WW) ≤ (nI k)) from (sm_leN rfl rfl (show WW ≤ k by omega) (show k < 2 ^ 31 by omega))) ?_
      exact hr
    · obtain ⟨ve1, Ee1⟩ := xr_col (m := mz_up w 66 2 0) (A := k) (B := J) (by omega) (by omega) (a := nI k) (b := nI J) rfl rfl
      by_cases q2 : (w 66 (620 + k)) = ve1
      · obtain ⟨vr, mr, hr, hsc⟩ := ih (k + 1) (by omega) 
        rw [nI_succ k] at hr
        refine ⟨vr, mr, ?_, hsc⟩
        refine mz_go 3 (c' := (if (nI AA) ≤ (nI k) then 87 else 54, [some (.ref 65), some (.int (nI J)), some (.int (nI AA)), some (.int (nI k))], [], mz_up w 66 2 0)) rfl ?_
        refine mz_ifF (show ¬ ((nI AA) ≤ (nI k)) from (sm_nleN rfl rfl (show k < AA by omega) (show AA < 2 ^ 31 by omega))) ?_
        refine mz_go 2 (c' := (56, [some (.ref 65), some (.int (nI J)), some (.int (nI AA)), some (.int (nI k))], [.ref 65, .int (nI k)], mz_up w 66 2 0)) rfl ?_
        refine mz_doQ (R := mz_r183) (as := [.ref 65]) (rest := [.int (nI k)]) (r1 := some (.int (nI WW))) (m1 := mz_up w 66 2 0) mz_t183 mz_v183_65 rfl rfl rfl rfl rfl ⟨?_, rfl⟩ ?_
        · refine mz_go 4 (c' := (7, [some (.ref 65)], [.int (w 66 60)], mz_up w 66 2 0)) rfl ?_
          rw [h6660]
          exact mz_ret rfl
        refine mz_go 1 (c' := (if (nI WW) ≤ (nI k) then 87 else 62, [some (.ref 65), some (.int (nI J)), some (.int (nI AA)), some (.int (nI k))], [], mz_up w 66 2 0)) rfl ?_
        refine mz_ifF (show ¬ ((nI WW) ≤ (nI k)) from (sm_nleN rfl rfl (show k < WW by omega) (show WW < 2 ^ 31 by omega))) ?_
        refine mz_go 5 (c' := (71, [some (.ref 65), some (.int (nI J)), some (.int (nI AA)), some (.int (nI k))], [.int (620 + (nI k)), .ref 66], mz_up w 66 2 0)) rfl ?_
        refine mz_arr (c' := (72, [some (.ref 65), some (.int (nI J)), some (.int (nI AA)), some (.int (nI k))], [.int ((mz_up w 66 2 0) 66 ((620 + (nI k)).toNatClampNeg))], mz_up w 66 2 0)) rfl (show mz_in (620 + (nI k)) 650 = true from sm_inN (sm_addN rfl rfl) (show (620 + k) < 650 by omega) (by decide)) ?_
        rw [show (620 + (nI k) : Int32).toNatClampNeg = (620 + k) from sm_clN (sm_addN rfl rfl) (show (620 + k) < 2 ^ 31 by omega)]
        rw [show (mz_up w 66 2 0) 66 (620 + k) = w 66 (620 + k) from by rw [mz_up_eq, if_neg (show ¬ (620 + k) = 2 by omega)]]
        refine mz_go 3 (c' := (75, [some (.ref 65), some (.int (nI J)), some (.int (nI AA)), some (.int (nI k))], [.int (nI J), .int (nI k), .ref 65, .int (w 66 (620 + k))], mz_up w 66 2 0)) rfl ?_
        refine mz_doQ (R := mz_r186) (as := [.ref 65, .int (nI k), .int (nI J)]) (rest := [.int (w 66 (620 + k))]) (r1 := some (.int ve1)) (m1 := mz_up w 66 2 0) mz_t186 mz_v186_65 rfl rfl rfl rfl rfl (Ee1.deep (by decide)) ?_
        refine mz_go 1 (c' := (if (w 66 (620 + k)) = ve1 then 81 else 87, [some (.ref 65), some (.int (nI J)), some (.int (nI AA)), some (.int (nI k))], [], mz_up w 66 2 0)) rfl ?_
        refine mz_ifT q2 ?_
        refine mz_go 2 (c' := (49, [some (.ref 65), some (.int (nI J)), some (.int (nI AA)), some (.int ((nI k) + 1))], [], mz_up w 66 2 0)) rfl ?_
        exact hr
      · obtain ⟨vr, mr, hr, hsc⟩ := HX (nI k) 
        refine ⟨vr, mr, ?_, hsc⟩
        refine mz_go 3 (c' := (if (nI AA) ≤ (nI k) then 87 else 54, [some (.ref 65), some (.int (nI J)), some (.int (nI AA)), some (.int (nI k))], [], mz_up w 66 2 0)) rfl ?_
        refine mz_ifF (show ¬ ((nI AA) ≤ (nI k)) from (sm_nleN rfl rfl (show k < AA by omega) (show AA < 2 ^ 31 by omega))) ?_
        refine mz_go 2 (c' := (56, [some (.ref 65), some (.int (nI J)), some (.int (nI AA)), some (.int (nI k))], [.ref 65, .int (nI k)], mz_up w 66 2 0)) rfl ?_
        refine mz_doQ (R := mz_r183) (as := [.ref 65]) (rest := [.int (nI k)]) (r1 := some (.int (nI WW))) (m1 := mz_up w 66 2 0) mz_t183 mz_v183_65 rfl rfl rfl rfl rfl ⟨?_, rfl⟩ ?_
        · refine mz_go 4 (c' := (7, [some (.ref 65)], [.int (w 66 60)], mz_up w 66 2 0)) rfl ?_
          rw [h6660]
          exact mz_ret rfl
        refine mz_go 1 (c' := (if (nI WW) ≤ (nI k) then 87 else 62, [some (.ref 65), some (.int (nI J)), some (.int (nI AA)), some (.int (nI k))], [], mz_up w 66 2 0)) rfl ?_
        refine mz_ifF (show ¬ ((nI WW) ≤ (nI k)) from (sm_nleN rfl rfl (show k < WW by omega) (show WW < 2 ^ 31 by omega))) ?_
        refine mz_go 5 (c' := (71, [some (.ref 65), some (.int (nI J)), some (.int (nI AA)), some (.int (nI k))], [.int (620 + (nI k)), .ref 66], mz_up w 66 2 0)) rfl ?_
        refine mz_arr (c' := (72, [some (.ref 65), some (.int (nI J)), some (.int (nI AA)), some (.int (nI k))], [.int ((mz_up w 66 2 0) 66 ((620 + (nI k)).toNatClampNeg))], mz_up w 66 2 0)) rfl (show mz_in (620 + (nI k)) 650 = true from sm_inN (sm_addN rfl rfl) (show (620 + k) < 650 by omega) (by decide)) ?_
        rw [show (620 + (nI k) : Int32).toNatClampNeg = (620 + k) from sm_clN (sm_addN rfl rfl) (show (620 + k) < 2 ^ 31 by omega)]
        rw [show (mz_up w 66 2 0) 66 (620 + k) = w 66 (620 + k) from by rw [mz_up_eq, if_neg (show ¬ (620 + k) = 2 by omega)]]
        refine mz_go 3 (c' := (75, [some (.ref 65), some (.int (nI J)), some (.int (nI AA)), some (.int (nI k))], [.int (nI J), .int (nI k), .ref 65, .int (w 66 (620 + k))], mz_up w 66 2 0)) rfl ?_
        refine mz_doQ (R := mz_r186) (as := [.ref 65, .int (nI k), .int (nI J)]) (rest := [.int (w 66 (620 + k))]) (r1 := some (.int ve1)) (m1 := mz_up w 66 2 0) mz_t186 mz_v186_65 rfl rfl rfl rfl rfl (Ee1.deep (by decide)) ?_
        refine mz_go 1 (c' := (if (w 66 (620 + k)) = ve1 then 81 else 87, [some (.ref 65), some (.int (nI J)), some (.int (nI AA)), some (.int (nI k))], [], mz_up w 66 2 0)) rfl ?_
        refine mz_ifF q2 ?_
        exact hr
set_option maxHeartbeats 4000000 in
set_option maxRecDepth 100000 in
theorem xr_check {w : mz_M} {N : Nat} (hw : sm_W w N) (hN : N ≤ 6) (hr5 : w 7 5 = 1 ∨ w 7 5 = 2) (hr80 : sm_N 80 (w 7 2)) (hr2 : sm_HR w (w 66)) (h660 : w 66 0 = nI N) (h6615 : w 66 15 = w 7 5) {WW HH : Nat} (hWW : WW ≤ 6) (hHH : HH ≤ 6) (hWH : WW = 0 ↔ HH = 0) (h6660 : w 66 60 = nI WW) (h6661 : w 66 61 = nI HH) {T2 : Nat} (hT2 : w 16 2 = nI T2) (hU2 : w 66 420 = nI T2) (hV2 : T2 = 0 ∨ sm_wf T2 5 (w 17) (w 18)) {AA : Nat} (hAA : AA ≤ 24) (h662 : w 66 2 = nI AA) (xa : Int32) : ∃ v m', mz_Me 100 mz_r227 [.ref 65, .int xa] w (some (.int v)) m' ∧ sm_Sc (mz_up w 66 2 0) m' := by
  have hT60c := sm_T60 hV2
  by_cases q1 : WW ≤ 0
  · refine ⟨(-1000002), mz_up (mz_up w 66 2 0) 68 2 ((w 68 2) + 1), ⟨?_, rfl⟩, ⟨fun i hi => (by simp only [mz_up_ne (sm_scne hi (r := 68) rfl)]), rfl, rfl⟩⟩
    refine mz_go 4 (c' := (6, [some (.ref 65), some (.int xa), none, none], [.int (w 66 2)], w)) rfl ?_
    rw [h662]
    refine mz_go 7 (c' := (15, [some (.ref 65), some (.int xa), some (.int (nI AA)), none], [.ref 65], mz_up w 66 2 0)) rfl ?_
    refine mz_doQ (R := mz_r185) (as := [.ref 65]) (rest := []) (r1 := some (.int 0)) (m1 := mz_up w 66 2 0) mz_t185 mz_v185_65 rfl rfl rfl rfl rfl ⟨?_, rfl⟩ ?_
    · refine mz_go 1 (c' := (1, [some (.ref 65)], [.ref 65], mz_up w 66 2 0)) rfl ?_
      refine mz_doQ (R := mz_r183) (as := [.ref 65]) (rest := []) (r1 := some (.int (nI WW))) (m1 := mz_up w 66 2 0) mz_t183 mz_v183_65 rfl rfl rfl rfl rfl ⟨?_, rfl⟩ ?_
      · refine mz_go 4 (c' := (7, [some (.ref 65)], [.int (w 66 60)], mz_up w 66 2 0)) rfl ?_
        rw [h6660]
        exact mz_ret rfl
      refine mz_go 1 (c' := (if (nI WW) ≤ 0 then 11 else 7, [some (.ref 65)], [], mz_up w 66 2 0)) rfl ?_
      refine mz_ifT (show ((nI WW) ≤ 0) from (sm_leN rfl rfl (show WW ≤ 0 by omega) (show 0 < 2 ^ 31 by omega))) ?_
      refine mz_go 1 (c' := (12, [some (.ref 65)], [.int 0], mz_up w 66 2 0)) rfl ?_
      exact mz_ret rfl
    refine mz_go 3 (c' := (23, [some (.ref 65), some (.int xa), some (.int (nI AA)), none], [.int 2, .ref 65], mz_up w 66 2 0)) rfl ?_
    refine mz_doQ (R := mz_r127) (as := [.ref 65, .int 2]) (rest := []) (r1 := some (.int (-1000002))) (m1 := mz_up (mz_up w 66 2 0) 68 2 ((w 68 2) + 1)) mz_t127 mz_v127_65 rfl rfl rfl rfl rfl ((ct_err2 (m := mz_up w 66 2 0)).deep (by decide)) ?_
    exact mz_ret rfl
  · by_cases q2 : xa < 0
    · refine ⟨(-1000001), mz_up (mz_up w 66 2 0) 68 1 ((w 68 1) + 1), ⟨?_, rfl⟩, ⟨fun i hi => (by simp only [mz_up_ne (sm_scne hi (r := 68) rfl)]), rfl, rfl⟩⟩
      refine mz_go 4 (c' := (6, [some (.ref 65), some (.int xa), none, none], [.int (w 66 2)], w)) rfl ?_
      rw [h662]
      refine mz_go 7 (c' := (15, [some (.ref 65), some (.int xa), some (.int (nI AA)), none], [.ref 65], mz_up w 66 2 0)) rfl ?_
      refine mz_doQ (R := mz_r185) (as := [.ref 65]) (rest := []) (r1 := some (.int 1)) (m1 := mz_up w 66 2 0) mz_t185 mz_v185_65 rfl rfl rfl rfl rfl ⟨?_, rfl⟩ ?_
      · refine mz_go 1 (c' := (1, [some (.ref 65)], [.ref 65], mz_up w 66 2 0)) rfl ?_
        refine mz_doQ (R := mz_r183) (as := [.ref 65]) (rest := []) (r1 := some (.int (nI WW))) (m1 := mz_up w 66 2 0) mz_t183 mz_v183_65 rfl rfl rfl rfl rfl ⟨?_, rfl⟩ ?_
        · refine mz_go 4 (c' := (7, [some (.ref 65)], [.int (w 66 60)], mz_up w 66 2 0)) rfl ?_
          rw [h6660]
          exact mz_ret rfl
        refine mz_go 1 (c' := (if (nI WW) ≤ 0 then 11 else 7, [some (.ref 65)], [], mz_up w 66 2 0)) rfl ?_
        refine mz_ifF (show ¬ ((nI WW) ≤ 0) from (sm_nleN rfl rfl (show 0 < WW by omega) (show WW < 2 ^ 31 by omega))) ?_
        refine mz_go 2 (c' := (12, [some (.ref 65)], [.int 1], mz_up w 66 2 0)) rfl ?_
        exact mz_ret rfl
      refine mz_go 4 (c' := (30, [some (.ref 65), some (.int xa), some (.int (nI AA)), none], [.ref 65, .int 0, .int xa], mz_up w 66 2 0)) rfl ?_
      refine mz_doQ (R := mz_r184) (as := [.ref 65]) (rest := [.int 0, .int xa]) (r1 := some (.int (nI HH))) (m1 := mz_up w 66 2 0) mz_t184 mz_v184_65 rfl rfl rfl rfl rfl ⟨?_, rfl⟩ ?_
      · refine mz_go 4 (c' := (7, [some (.ref 65)], [.int (w 66 61)], mz_up w 66 2 0)) rfl ?_
        rw [h6661]
        exact mz_ret rfl
      refine mz_go 2 (c' := (35, [some (.ref 65), some (.int xa), some (.int (nI AA)), none], [.int ((nI HH) - 1), .int 0, .int xa], mz_up w 66 2 0)) rfl ?_
      refine mz_doQ (R := mz_r128) (as := [.int xa, .int 0, .int ((nI HH) - 1)]) (rest := []) (r1 := some (.int 0)) (m1 := mz_up w 66 2 0) mz_t128 mz_v128 rfl rfl rfl rfl rfl ((ct_inL (m := mz_up w 66 2 0) (v := xa) (a := 0) (b := (nI HH) - 1) q2).deep (by decide)) ?_
      refine mz_go 3 (c' := (43, [some (.ref 65), some (.int xa), some (.int (nI AA)), none], [.int 1, .ref 65], mz_up w 66 2 0)) rfl ?_
      refine mz_doQ (R := mz_r127) (as := [.ref 65, .int 1]) (rest := []) (r1 := some (.int (-1000001))) (m1 := mz_up (mz_up w 66 2 0) 68 1 ((w 68 1) + 1)) mz_t127 mz_v127_65 rfl rfl rfl rfl rfl ((ct_err1 (m := mz_up w 66 2 0)).deep (by decide)) ?_
      exact mz_ret rfl
    · obtain ⟨jxa, hjxa, rfl⟩ := nI_of q2
      by_cases q3 : (HH - 1) < jxa
      · refine ⟨(-1000001), mz_up (mz_up w 66 2 0) 68 1 ((w 68 1) + 1), ⟨?_, rfl⟩, ⟨fun i hi => (by simp only [mz_up_ne (sm_scne hi (r := 68) rfl)]), rfl, rfl⟩⟩
        refine mz_go 4 (c' := (6, [some (.ref 65), some (.int (nI jxa)), none, none], [.int (w 66 2)], w)) rfl ?_
        rw [h662]
        refine mz_go 7 (c' := (15, [some (.ref 65), some (.int (nI jxa)), some (.int (nI AA)), none], [.ref 65], mz_up w 66 2 0)) rfl ?_
        refine mz_doQ (R := mz_r185) (as := [.ref 65]) (rest := []) (r1 := some (.int 1)) (m1 := mz_up w 66 2 0) mz_t185 mz_v185_65 rfl rfl rfl rfl rfl ⟨?_, rfl⟩ ?_
        · refine mz_go 1 (c' := (1, [some (.ref 65)], [.ref 65], mz_up w 66 2 0)) rfl ?_
          refine mz_doQ (R := mz_r183) (as := [.ref 65]) (rest := []) (r1 := some (.int (nI WW))) (m1 := mz_up w 66 2 0) mz_t183 mz_v183_65 rfl rfl rfl rfl rfl ⟨?_, rfl⟩ ?_
          · refine mz_go 4 (c' := (7, [some (.ref 65)], [.int (w 66 60)], mz_up w 66 2 0)) rfl ?_
            rw [h6660]
            exact mz_ret rfl
          refine mz_go 1 (c' := (if (nI WW) ≤ 0 then 11 else 7, [some (.ref 65)], [], mz_up w 66 2 0)) rfl ?_
          refine mz_ifF (show ¬ ((nI WW) ≤ 0) from (sm_nleN rfl rfl (show 0 < WW by omega) (show WW < 2 ^ 31 by omega))) ?_
          refine mz_go 2 (c' := (12, [some (.ref 65)], [.int 1], mz_up w 66 2 0)) rfl ?_
          exact mz_ret rfl
        refine mz_go 4 (c' := (30, [some (.ref 65), some (.int (nI jxa)), some (.int (nI AA)), none], [.ref 65, .int 0, .int (nI jxa)], mz_up w 66 2 0)) rfl ?_
        refine mz_doQ (R := mz_r184) (as := [.ref 65]) (rest := [.int 0, .int (nI jxa)]) (r1 := some (.int (nI HH))) (m1 := mz_up w 66 2 0) mz_t184 mz_v184_65 rfl rfl rfl rfl rfl ⟨?_, rfl⟩ ?_
        · refine mz_go 4 (c' := (7, [some (.ref 65)], [.int (w 66 61)], mz_up w 66 2 0)) rfl ?_
          rw [h6661]
          exact mz_ret rfl
        refine mz_go 2 (c' := (35, [some (.ref 65), some (.int (nI jxa)), some (.int (nI AA)), none], [.int ((nI HH) - 1), .int 0, .int (nI jxa)], mz_up w 66 2 0)) rfl ?_
        refine mz_doQ (R := mz_r128) (as := [.int (nI jxa), .int 0, .int ((nI HH) - 1)]) (rest := []) (r1 := some (.int 0)) (m1 := mz_up w 66 2 0) mz_t128 mz_v128 rfl rfl rfl rfl rfl ((ct_inG (m := mz_up w 66 2 0) (v := nI jxa) (a := 0) (b := (nI HH) - 1) q2 (show (((nI HH) - 1) < (nI jxa)) from (sm_ltN (sm_subN (a := HH) (b := 1) rfl rfl (by omega)) rfl (show (HH - 1) < jxa by omega) (show jxa < 2 ^ 31 by omega)))).deep (by decide)) ?_
        refine mz_go 3 (c' := (43, [some (.ref 65), some (.int (nI jxa)), some (.int (nI AA)), none], [.int 1, .ref 65], mz_up w 66 2 0)) rfl ?_
        refine mz_doQ (R := mz_r127) (as := [.ref 65, .int 1]) (rest := []) (r1 := some (.int (-1000001))) (m1 := mz_up (mz_up w 66 2 0) 68 1 ((w 68 1) + 1)) mz_t127 mz_v127_65 rfl rfl rfl rfl rfl ((ct_err1 (m := mz_up w 66 2 0)).deep (by decide)) ?_
        exact mz_ret rfl
      · have HX1 : ∀ (x3_1 : Int32), ∃ v m', mz_Ex 100 mz_k227 (87, [some (.ref 65), some (.int (nI jxa)), some (.int (nI AA)), some (.int x3_1)], [], mz_up w 66 2 0) (some (.int v), m') ∧ sm_Sc (mz_up w 66 2 0) m' := by
          intro x3_1
          by_cases q4 : x3_1 = (nI AA)
          · by_cases q5 : x3_1 = (nI WW)
            · refine ⟨0, mz_up w 66 2 0, ?_, ⟨fun _ _ => rfl, rfl, rfl⟩⟩
              refine mz_go 3 (c' := (if x3_1 = (nI AA) then 92 else 104, [some (.ref 65), some (.int (nI jxa)), some (.int (nI AA)), some (.int x3_1)], [], mz_up w 66 2 0)) rfl ?_
              refine mz_ifT q4 ?_
              refine mz_go 2 (c' := (94, [some (.ref 65), some (.int (nI jxa)), some (.int (nI AA)), some (.int x3_1)], [.ref 65, .int x3_1], mz_up w 66 2 0)) rfl ?_
              refine mz_doQ (R := mz_r183) (as := [.ref 65]) (rest := [.int x3_1]) (r1 := some (.int (nI WW))) (m1 := mz_up w 66 2 0) mz_t183 mz_v183_65 rfl rfl rfl rfl rfl ⟨?_, rfl⟩ ?_
              · refine mz_go 4 (c' := (7, [some (.ref 65)], [.int (w 66 60)], mz_up w 66 2 0)) rfl ?_
                rw [h6660]
                exact mz_ret rfl
              refine mz_go 1 (c' := (if x3_1 = (nI WW) then 100 else 104, [some (.ref 65), some (.int (nI jxa)), some (.int (nI AA)), some (.int x3_1)], [], mz_up w 66 2 0)) rfl ?_
              refine mz_ifT q5 ?_
              refine mz_go 2 (c' := (107, [some (.ref 65), some (.int (nI jxa)), some (.int (nI AA)), some (.int x3_1)], [.int 0], mz_up w 66 2 0)) rfl ?_
              exact mz_ret rfl
            · refine ⟨1 + x3_1, mz_up w 66 2 0, ?_, ⟨fun _ _ => rfl, rfl, rfl⟩⟩
              refine mz_go 3 (c' := (if x3_1 = (nI AA) then 92 else 104, [some (.ref 65), some (.int (nI jxa)), some (.int (nI AA)), some (.int x3_1)], [], mz_up w 66 2 0)) rfl ?_
              refine mz_ifT q4 ?_
              refine mz_go 2 (c' := (94, [some (.ref 65), some (.int (nI jxa)), some (.int (nI AA)), some (.int x3_1)], [.ref 65, .int x3_1], mz_up w 66 2 0)) rfl ?_
              refine mz_doQ (R := mz_r183) (as := [.ref 65]) (rest := [.int x3_1]) (r1 := some (.int (nI WW))) (m1 := mz_up w 66 2 0) mz_t183 mz_v183_65 rfl rfl rfl rfl rfl ⟨?_, rfl⟩ ?_
              · refine mz_go 4 (c' := (7, [some (.ref 65)], [.int (w 66 60)], mz_up w 66 2 0)) rfl ?_
                rw [h6660]
                exact mz_ret rfl
              refine mz_go 1 (c' := (if x3_1 = (nI WW) then 100 else 104, [some (.ref 65), some (.int (nI jxa)), some (.int (nI AA)), some (.int x3_1)], [], mz_up w 66 2 0)) rfl ?_
              refine mz_ifF q5 ?_
              refine mz_go 3 (c' := (107, [some (.ref 65), some (.int (nI jxa)), some (.int (nI AA)), some (.int x3_1)], [.int (1 + x3_1)], mz_up w 66 2 0)) rfl ?_
              exact mz_ret rfl
          · refine ⟨1 + x3_1, mz_up w 66 2 0, ?_, ⟨fun _ _ => rfl, rfl, rfl⟩⟩
            refine mz_go 3 (c' := (if x3_1 = (nI AA) then 92 else 104, [some (.ref 65), some (.int (nI jxa)), some (.int (nI AA)), some (.int x3_1)], [], mz_up w 66 2 0)) rfl ?_
            refine mz_ifF q4 ?_
            refine mz_go 3 (c' := (107, [some (.ref 65), some (.int (nI jxa)), some (.int (nI AA)), some (.int x3_1)], [.int (1 + x3_1)], mz_up w 66 2 0)) rfl ?_
            exact mz_ret rfl
        obtain ⟨vr, mr, hr, hsc⟩ := xr_chkl hw hN hr5 hr80 hr2 h660 h6615 hWW hHH hWH h6660 h6661 hT2 hU2 hV2 hAA h662 (J := jxa) (by omega) HX1 AA 0 (by omega) 
        refine ⟨vr, mr, ⟨?_, rfl⟩, hsc⟩
        refine mz_go 4 (c' := (6, [some (.ref 65), some (.int (nI jxa)), none, none], [.int (w 66 2)], w)) rfl ?_
        rw [h662]
        refine mz_go 7 (c' := (15, [some (.ref 65), some (.int (nI jxa)), some (.int (nI AA)), none], [.ref 65], mz_up w 66 2 0)) rfl ?_
        refine mz_doQ (R := mz_r185) (as := [.ref 65]) (rest := []) (r1 := some (.int 1)) (m1 := mz_up w 66 2 0) mz_t185 mz_v185_65 rfl rfl rfl rfl rfl ⟨?_, rfl⟩ ?_
        · refine mz_go 1 (c' := (1, [some (.ref 65)], [.ref 65], mz_up w 66 2 0)) rfl ?_
          refine mz_doQ (R := mz_r183) (as := [.ref 65]) (rest := []) (r1 := some (.int (nI WW))) (m1 := mz_up w 66 2 0) mz_t183 mz_v183_65 rfl rfl rfl rfl rfl ⟨?_, rfl⟩ ?_
          · refine mz_go 4 (c' := (7, [some (.ref 65)], [.int (w 66 60)], mz_up w 66 2 0)) rfl ?_
            rw [h6660]
            exact mz_ret rfl
          refine mz_go 1 (c' := (if (nI WW) ≤ 0 then 11 else 7, [some (.ref 65)], [], mz_up w 66 2 0)) rfl ?_
          refine mz_ifF (show ¬ ((nI WW) ≤ 0) from (sm_nleN rfl rfl (show 0 < WW by omega) (show WW < 2 ^ 31 by omega))) ?_
          refine mz_go 2 (c' := (12, [some (.ref 65)], [.int 1], mz_up w 66 2 0)) rfl ?_
          exact mz_ret rfl
        refine mz_go 4 (c' := (30, [some (.ref 65), some (.int (nI jxa)), some (.int (nI AA)), none], [.ref 65, .int 0, .int (nI jxa)], mz_up w 66 2 0)) rfl ?_
        refine mz_doQ (R := mz_r184) (as := [.ref 65]) (rest := [.int 0, .int (nI jxa)]) (r1 := some (.int (nI HH))) (m1 := mz_up w 66 2 0) mz_t184 mz_v184_65 rfl rfl rfl rfl rfl ⟨?_, rfl⟩ ?_
        · refine mz_go 4 (c' := (7, [some (.ref 65)], [.int (w 66 61)], mz_up w 66 2 0)) rfl ?_
          rw [h6661]
          exact mz_ret rfl
        refine mz_go 2 (c' := (35, [some (.ref 65), some (.int (nI jxa)), some (.int (nI AA)), none], [.int ((nI HH) - 1), .int 0, .int (nI jxa)], mz_up w 66 2 0)) rfl ?_
        refine mz_doQ (R := mz_r128) (as := [.int (nI jxa), .int 0, .int ((nI HH) - 1)]) (rest := []) (r1 := some (.int 1)) (m1 := mz_up w 66 2 0) mz_t128 mz_v128 rfl rfl rfl rfl rfl ((ct_in1 (m := mz_up w 66 2 0) (v := nI jxa) (a := 0) (b := (nI HH) - 1) q2 (show ¬ (((nI HH) - 1) < (nI jxa)) from (sm_nltN (sm_subN (a := HH) (b := 1) rfl rfl (by omega)) rfl (show jxa ≤ (HH - 1) by omega) (show (HH - 1) < 2 ^ 31 by omega)))).deep (by decide)) ?_
        refine mz_go 3 (c' := (49, [some (.ref 65), some (.int (nI jxa)), some (.int (nI AA)), some (.int 0)], [], mz_up w 66 2 0)) rfl ?_
        exact hr
set_option maxHeartbeats 4000000 in
set_option maxRecDepth 100000 in
theorem sc_check {n : Nat} (hn : n < 64) {w : mz_M} (hI : sm_I n w) (xa : Int32) : ∃ v1 v2 m1 m2, mz_Me 100 mz_r106 [.ref 0, .int xa] w (some (.int v1)) m1 ∧ mz_Me 100 mz_r227 [.ref 65, .int xa] m1 (some (.int v2)) m2 ∧ sm_I (n + 1) m2 := by
  have hI2 := hI
  obtain ⟨hn0, ⟨-, ⟨hr80, hr5, hrr⟩, ⟨⟨TT, hTT, h81, h661⟩, htp⟩, ⟨⟨T0, hT0, hU0, hV0, -⟩, ⟨T1, hT1, hU1, hV1, -⟩, ⟨T2, hT2, hU2, hV2, -⟩⟩, ⟨hbx, hby, hbl⟩, ⟨⟨WW, HH, hWW, hHH, hWH, h202, h203, h6660, h6661⟩, h6662, h6663, h6664, hpc⟩, ⟨hth, h66160, hthr⟩, ⟨⟨AA, hAA, h111, h662⟩, h663, hwt⟩⟩, ⟨hsh, hsn⟩, ⟨hcb1, hcb2⟩, ⟨JJ, hJJ, h07, h652, hkept⟩⟩ := hI
  obtain ⟨N, hw, hr2, h660, -, -, h6615⟩ := sm_world hI2
  have hw2 := hw
  obtain ⟨hN, h4, hpb, -, -⟩ := hw2
  have hT60a := sm_T60 hV0
  have hT60b := sm_T60 hV1
  have hT60c := sm_T60 hV2
  obtain ⟨B1, hB1, e571⟩ := sm_Nof (by decide) hcb1
  obtain ⟨B2, hB2, e6519⟩ := sm_Nof (by decide) hcb2
  obtain ⟨v1, m1, E1, S1⟩ := xw_check hw hN h4 hr5 hr80 hWW hHH hWH h202 h203 hT2 hV2 hAA h111 xa
  have hl : ∀ i, sm_scr i = false → i ≠ 1 → m1 i = w i := fun i h h1 => (S1.1 i h).trans (mz_up_ne h1)
  have hl2 : ∀ i, 2 ≤ i → i < 19 → m1 i = w i := fun i h h1 => hl i (by unfold sm_scr; rw [decide_eq_false (by omega)]; rfl) (by omega)
  have e66 : m1 66 = w 66 := hl 66 rfl (by decide)
  have hw3 : sm_W m1 N := sm_W_of hl2 hw
  obtain ⟨v2, m2, E2, S2⟩ := xr_check (w := m1) hw3 hN (by rw [hl 7 rfl (by decide)]; exact hr5) (by rw [hl 7 rfl (by decide)]; exact hr80) (by rw [e66]; exact sm_HR_of hl2 hr2) (by rw [e66]; exact h660) (by rw [e66, hl 7 rfl (by decide)]; exact h6615) hWW hHH hWH (by rw [e66]; exact h6660) (by rw [e66]; exact h6661) (by rw [hl 16 rfl (by decide)]; exact hT2) (by rw [e66]; exact hU2) (by rw [hl 17 rfl (by decide), hl 18 rfl (by decide)]; exact hV2) hAA (by rw [e66]; exact h662) xa
  refine ⟨v1, v2, m1, m2, E1, E2, ?_⟩
  obtain ⟨-, ⟨d1, d2, d3, ⟨d4, d4b, d4c⟩, d5, d6, d7, d8⟩, da, db, dc⟩ := hI2
  have g : ∀ i, sm_scr i = false → i ≠ 1 → i ≠ 66 → m2 i = w i := fun i h h1 h2 => (S2.1 i h).trans ((mz_up_ne h2).trans (hl i h h1))
  have g1 : ∀ k, k ≠ 11 → m2 1 k = w 1 k := fun k hk => by rw [S2.1 1 rfl, mz_up_ne (show (1 : Nat) ≠ 66 by decide), S1.1 1 rfl, mz_up_eq, if_neg hk]
  have g11 : m2 1 11 = 0 := by rw [S2.1 1 rfl, mz_up_ne (show (1 : Nat) ≠ 66 by decide), S1.1 1 rfl, mz_up_eq, if_pos rfl]
  have hs : ∀ i, i ≠ 2 → m2 66 i = w 66 i := fun i hi => by rw [S2.1 66 rfl, mz_up_eq, if_neg hi, e66]
  have hs2 : m2 66 2 = 0 := by rw [S2.1 66 rfl, mz_up_eq, if_pos rfl]
  have e652 : m2 65 2 = w 65 2 := S2.2.1.trans S1.2.1
  have e6519 : m2 65 19 = w 65 19 := S2.2.2.trans S1.2.2
  have F : ∀ i, i ≠ 2 → m2 66 i = w 66 i := hs
  refine ⟨hn, ⟨?_, ?_, ?_, ⟨?_, ?_, ?_⟩, ?_, ?_, ?_, ?_⟩, ?_, ?_, ?_⟩
  · show sm_c1 (m2 2) (m2 3) (m2 4) (m2 5) (m2 6) (m2 66)
    rw [g 2 rfl (by decide) (by decide), g 3 rfl (by decide) (by decide), g 4 rfl (by decide) (by decide), g 5 rfl (by decide) (by decide), g 6 rfl (by decide) (by decide)]
    exact sm_k1 (hs 0 (by decide)) (fun i h1 h2 => hs i (by omega)) d1
  · show sm_c2 (m2 7) (m2 66)
    rw [g 7 rfl (by decide) (by decide)]
    exact sm_k2 (fun i h1 h2 => hs i (by omega)) d2
  · show sm_c3 (m2 8) (m2 9) (m2 66)
    rw [g 8 rfl (by decide) (by decide), g 9 rfl (by decide) (by decide)]
    exact sm_k3 (hs 1 (by decide)) (fun i h1 h2 => hs i (by omega)) d3
  · show sm_c4 (m2 10) (m2 11) (m2 12) 3 170 sm_ch0 (m2 66)
    rw [g 10 rfl (by decide) (by decide), g 11 rfl (by decide) (by decide), g 12 rfl (by decide) (by decide)]
    exact sm_k4 (fun i h1 h2 => hs i (by omega)) d4
  · show sm_c4 (m2 13) (m2 14) (m2 15) 3 295 sm_ch1 (m2 66)
    rw [g 13 rfl (by decide) (by decide), g 14 rfl (by decide) (by decide), g 15 rfl (by decide) (by decide)]
    exact sm_k4 (fun i h1 h2 => hs i (by omega)) d4b
  · show sm_c4 (m2 16) (m2 17) (m2 18) 5 420 sm_ch2 (m2 66)
    rw [g 16 rfl (by decide) (by decide), g 17 rfl (by decide) (by decide), g 18 rfl (by decide) (by decide)]
    exact sm_k4 (fun i h1 h2 => hs i (by omega)) d4c
  · show sm_c5 (m2 19) (m2 66)
    rw [g 19 rfl (by decide) (by decide)]
    exact sm_k5 (fun i h1 h2 => hs i (by omega)) d5
  · show sm_c6 (m2 20) (m2 21) (m2 22) (m2 66)
    rw [g 20 rfl (by decide) (by decide), g 21 rfl (by decide) (by decide), g 22 rfl (by decide) (by decide)]
    exact sm_k6 (fun i h1 h2 => hs i (by omega)) d6
  · show sm_c7 (m2 1) (m2 23) (m2 66)
    rw [g 23 rfl (by decide) (by decide)]
    refine ⟨?_, ?_, fun i hi => (hs _ (by omega)).trans (d7.2.2 i hi)⟩
    · rw [g1 9 (by decide)]
      exact d7.1
    · rw [g1 9 (by decide), hs 160 (by decide)]
      exact d7.2.1
  · show sm_c8 (m2 1) (m2 24) (m2 66)
    rw [g 24 rfl (by decide) (by decide)]
    refine ⟨⟨0, by decide, g11, hs2⟩, ?_, fun i hi => (hs _ (by omega)).trans (d8.2.2 i hi)⟩
    rw [g1 12 (by decide), hs 3 (by decide)]
    exact d8.2.1
  · rw [g 61 rfl (by decide) (by decide), g 62 rfl (by decide) (by decide), g 63 rfl (by decide) (by decide), g 75 rfl (by decide) (by decide), g 76 rfl (by decide) (by decide), g 77 rfl (by decide) (by decide)]
    exact da
  · rw [g 57 rfl (by decide) (by decide), e6519]
    exact db
  · rw [g 0 rfl (by decide) (by decide), g 67 rfl (by decide) (by decide), e652]
    exact sm_cc_of (fun i h1 h2 => g i (by unfold sm_scr; rw [decide_eq_false (by omega)]; rfl) (by omega) (by omega)) dc
