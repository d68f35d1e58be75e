set_option maxHeartbeats 4000000 in
set_option maxRecDepth 100000 in
theorem sm_colN {v : Int32} (h : sm_colB v) : ∃ V, V ≤ 9 ∧ v = nI V := by
  rcases h with h | h
  · obtain ⟨V, hV, e⟩ := sm_Nof (by decide) h
    exact ⟨V, by omega, e⟩
  · exact ⟨9, by decide, h⟩
theorem xr_colB {m : mz_M} (hcol : ∀ i, i < 36 → sm_colB (m 66 (70 + i))) {A B : Nat} (hA : A < 6) (hB : B < 6) {a b : Int32} (ea : a = nI A) (eb : b = nI B) : ∃ V, V ≤ 9 ∧ mz_Me 3 mz_r186 [.ref 65, .int a, .int b] m (some (.int (nI V))) m := by
  subst ea
  subst eb
  have h := hcol (6 * B + A) (by omega)
  rw [show 70 + (6 * B + A) = (70 + (6 * B)) + A by omega] at h
  obtain ⟨V, hV, e⟩ := sm_colN h
  refine ⟨V, hV, ?_⟩
  rw [← e]
  refine ⟨?_, rfl⟩
  refine mz_go 9 (c' := (13, [some (.ref 65), some (.int (nI A)), some (.int (nI B))], [.int ((70 + (6 * (nI B))) + (nI A)), .ref 66], m)) rfl ?_
  refine mz_arr (c' := (14, [some (.ref 65), some (.int (nI A)), some (.int (nI B))], [.int (m 66 (((70 + (6 * (nI B))) + (nI A)).toNatClampNeg))], m)) rfl (show mz_in ((70 + (6 * (nI B))) + (nI A)) 650 = true from sm_inN (sm_addN (sm_addN rfl (sm_mulN rfl rfl)) rfl) (show ((70 + (6 * B)) + A) < 650 by omega) (by decide)) ?_
  rw [show ((70 + (6 * (nI B))) + (nI A) : Int32).toNatClampNeg = ((70 + (6 * B)) + A) from sm_clN (sm_addN (sm_addN rfl (sm_mulN rfl rfl)) rfl) (show ((70 + (6 * B)) + A) < 2 ^ 31 by omega)]
  exact mz_ret rfl
set_option maxHeartbeats 4000000 in
set_option maxRecDepth 100000 in
theorem xr_tur0 {w : mz_M} {N : Nat} (hw : sm_W w N) (hN : N ≤ 6) (hr5 : w 7 5 = 1 ∨ w 7 5 = 2) (hr80 : sm_N 80 (w 7 2)) (hr2 : sm_HR w (w 66)) (h660 : w 66 0 = nI N) (h6615 : w 66 15 = w 7 5) {WW HH : Nat} (hWW : WW ≤ 6) (hHH : HH ≤ 6) (hWH : WW = 0 ↔ HH = 0) (h6660 : w 66 60 = nI WW) (h6661 : w 66 61 = nI HH) {T2 : Nat} (hT2 : w 16 2 = nI T2) (hU2 : w 66 420 = nI T2) (hV2 : T2 = 0 ∨ sm_wf T2 5 (w 17) (w 18)) (hcol : ∀ i, i < 36 → sm_colB (w 66 (70 + i))) (xa : Int32) (HX : ∀ (r72 : Nat → Int32) (r73 : Nat → Int32), ∃ v m', mz_Ex 100 mz_k201 (73, [some (.ref 65), some (.int xa), some (.int (nI 10)), none, none, none, none, none, none], [], mz_set (mz_set w 72 r72) 73 r73) (some (.int v), m') ∧ sm_Sc w m') : ∀ j k : Nat, k + j = 10 → ∀ (r72 : Nat → Int32) (r73 : Nat → Int32), ∃ v m', mz_Ex 100 mz_k201 (47, [some (.ref 65), some (.int xa), some (.int (nI k)), none, none, none, none, none, none], [], mz_set (mz_set w 72 r72) 73 r73) (some (.int v), m') ∧ sm_Sc w m' := by
  have hT60c := sm_T60 hV2
  intro j
  induction j with
  | zero =>
    intro k hk r72 r73
    rw [show k = 10 by omega]
    obtain ⟨vr, mr, hr, hsc⟩ := HX ((mz_set (mz_set w 72 r72) 73 r73) 72) ((mz_set (mz_set w 72 r72) 73 r73) 73)
    have hm : mz_set (mz_set w 72 r72) 73 r73 = mz_set (mz_set w 72 ((mz_set (mz_set w 72 r72) 73 r73) 72)) 73 ((mz_set (mz_set w 72 r72) 73 r73) 73) := sm_of2 (fun i h1 h2 => by simp only [mz_set_ne h1, mz_set_ne h2])
    rw [← hm] at hr
    refine ⟨vr, mr, ?_, hsc⟩
    refine mz_go 3 (c' := (if 10 ≤ (nI 10) then 73 else 53, [some (.ref 65), some (.int xa), some (.int (nI 10)), none, none, none, none, none, none], [], mz_set (mz_set w 72 r72) 73 r73)) rfl ?_
    refine mz_ifT (show (10 ≤ (nI 10)) from (sm_leN rfl rfl (show 10 ≤ 10 by omega) (show 10 < 2 ^ 31 by omega))) ?_
    exact hr
  | succ j ih =>
    intro k hk r72 r73
    obtain ⟨vr, mr, hr, hsc⟩ := ih (k + 1) (by omega) ((mz_up (mz_up (mz_set (mz_set w 72 r72) 73 r73) 72 k (-1)) 73 k (-1)) 72) ((mz_up (mz_up (mz_set (mz_set w 72 r72) 73 r73) 72 k (-1)) 73 k (-1)) 73)
    rw [nI_succ k] at hr
    have hm : mz_up (mz_up (mz_set (mz_set w 72 r72) 73 r73) 72 k (-1)) 73 k (-1) = mz_set (mz_set w 72 ((mz_up (mz_up (mz_set (mz_set w 72 r72) 73 r73) 72 k (-1)) 73 k (-1)) 72)) 73 ((mz_up (mz_up (mz_set (mz_set w 72 r72) 73 r73) 72 k (-1)) 73 k (-1)) 73) := sm_of2 (fun i h1 h2 => by simp only [mz_set_ne h1, mz_set_ne h2, mz_up_ne h1, mz_up_ne h2])
    rw [← hm] at hr
    refine ⟨vr, mr, ?_, hsc⟩
    refine mz_go 3 (c' := (if 10 ≤ (nI k) then 73 else 53, [some (.ref 65), some (.int xa), some (.int (nI k)), none, none, none, none, none, none], [], mz_set (mz_set w 72 r72) 73 r73)) rfl ?_
    refine mz_ifF (show ¬ (10 ≤ (nI k)) from (sm_nleN rfl rfl (show k < 10 by omega) (show 10 < 2 ^ 31 by omega))) ?_
    refine mz_go 4 (c' := (59, [some (.ref 65), some (.int xa), some (.int (nI k)), none, none, none, none, none, none], [.int (-1), .int (nI k), .ref 72], mz_set (mz_set w 72 r72) 73 r73)) rfl ?_
    refine mz_arr (c' := (60, [some (.ref 65), some (.int xa), some (.int (nI k)), none, none, none, none, none, none], [], mz_up (mz_set (mz_set w 72 r72) 73 r73) 72 ((nI k).toNatClampNeg) (-1))) rfl (show mz_in (nI k) 10 = true from sm_inN rfl (show k < 10 by omega) (by decide)) ?_
    rw [show (nI k : Int32).toNatClampNeg = k from sm_clN rfl (show k < 2 ^ 31 by omega)]
    refine mz_go 4 (c' := (66, [some (.ref 65), some (.int xa), some (.int (nI k)), none, none, none, none, none, none], [.int (-1), .int (nI k), .ref 73], mz_up (mz_set (mz_set w 72 r72) 73 r73) 72 k (-1))) rfl ?_
    refine mz_arr (c' := (67, [some (.ref 65), some (.int xa), some (.int (nI k)), none, none, none, none, none, none], [], mz_up (mz_up (mz_set (mz_set w 72 r72) 73 r73) 72 k (-1)) 73 ((nI k).toNatClampNeg) (-1))) rfl (show mz_in (nI k) 10 = true from sm_inN rfl (show k < 10 by omega) (by decide)) ?_
    rw [show (nI k : Int32).toNatClampNeg = k from sm_clN rfl (show k < 2 ^ 31 by omega)]
    refine mz_go 2 (c' := (47, [some (.ref 65), some (.int xa), some (.int ((nI k) + 1)), none, none, none, none, none, none], [], mz_up (mz_up (mz_set (mz_set w 72 r72) 73 r73) 72 k (-1)) 73 k (-1))) rfl ?_
    exact hr
set_option maxHeartbeats 4000000 in
set_option maxRecDepth 100000 in
theorem xr_turq {w : mz_M} {N : Nat} (hw : sm_W w N) (hN : N ≤ 6) (hr5 : w 7 5 = 1 ∨ w 7 5 = 2) (hr80 : sm_N 80 (w 7 2)) (hr2 : sm_HR w (w 66)) (h660 : w 66 0 = nI N) (h6615 : w 66 15 = w 7 5) {WW HH : Nat} (hWW : WW ≤ 6) (hHH : HH ≤ 6) (hWH : WW = 0 ↔ HH = 0) (h6660 : w 66 60 = nI WW) (h6661 : w 66 61 = nI HH) {T2 : Nat} (hT2 : w 16 2 = nI T2) (hU2 : w 66 420 = nI T2) (hV2 : T2 = 0 ∨ sm_wf T2 5 (w 17) (w 18)) (hcol : ∀ i, i < 36 → sm_colB (w 66 (70 + i))) {xa : Int32} (hq : xa.toInt < 1000000) (x2 : Int32) {A B : Nat} (hA : A < WW) (hB : B < WW) (HX : ∀ (x7 : Int32) (x5 : Int32) (e5 : Nat) (hx5 : x5 = nI e5) (hb5 : e5 < WW) (x6 : Int32) (e6 : Nat) (hx6 : x6 = nI e6) (hb6 : e6 < WW) (x8 : Option Value) (r72 : Nat → Int32) (r73 : Nat → Int32), ∃ v m', mz_Ex 100 mz_k201 (138, [some (.ref 65), some (.int xa), some (.int x2), some (.int (nI A)), some (.int (nI B)), some (.int x5), some (.int x6), some (.int x7), x8], [], mz_set (mz_set w 72 r72) 73 r73) (some (.int v), m') ∧ sm_Sc w m') : ∀ fu : Nat, ∀ x7 : Int32, (xa).toInt - x7.toInt < (fu : Int) → ∀ (x5 : Int32) (e5 : Nat) (hx5 : x5 = nI e5) (hb5 : e5 < WW) (x6 : Int32) (e6 : Nat) (hx6 : x6 = nI e6) (hb6 : e6 < WW) (x8 : Option Value) (r72 : Nat → Int32) (r73 : Nat → Int32), ∃ v m', mz_Ex 100 mz_k201 (107, [some (.ref 65), some (.int xa), some (.int x2), some (.int (nI A)), some (.int (nI B)), some (.int x5), some (.int x6), some (.int x7), x8], [], mz_set (mz_set w 72 r72) 73 r73) (some (.int v), m') ∧ sm_Sc w m' := by
  have hT60c := sm_T60 hV2
  intro fu
  induction fu with
  | zero =>
    intro x7 hms x5 e5 hx5 hb5 x6 e6 hx6 hb6 x8 r72 r73
    have hmz : xa ≤ x7 := sm_mz2 hms
    obtain ⟨vr, mr, hr, hsc⟩ := HX x7 x5 e5 hx5 (by omega) x6 e6 hx6 (by omega) x8 ((mz_set (mz_set w 72 r72) 73 r73) 72) ((mz_set (mz_set w 72 r72) 73 r73) 73)
    have hm : mz_set (mz_set w 72 r72) 73 r73 = mz_set (mz_set w 72 ((mz_set (mz_set w 72 r72) 73 r73) 72)) 73 ((mz_set (mz_set w 72 r72) 73 r73) 73) := sm_of2 (fun i h1 h2 => by simp only [mz_set_ne h1, mz_set_ne h2])
    rw [← hm] at hr
    refine ⟨vr, mr, ?_, hsc⟩
    refine mz_go 3 (c' := (if xa ≤ x7 then 138 else 113, [some (.ref 65), some (.int xa), some (.int x2), some (.int (nI A)), some (.int (nI B)), some (.int x5), some (.int x6), some (.int x7), x8], [], mz_set (mz_set w 72 r72) 73 r73)) rfl ?_
    refine mz_ifT hmz ?_
    exact hr
  | succ fu ih =>
    intro x7 hms x5 e5 hx5 hb5 x6 e6 hx6 hb6 x8 r72 r73
    by_cases q1 : xa ≤ x7
    · obtain ⟨vr, mr, hr, hsc⟩ := HX x7 x5 e5 hx5 (by omega) x6 e6 hx6 (by omega) x8 ((mz_set (mz_set w 72 r72) 73 r73) 72) ((mz_set (mz_set w 72 r72) 73 r73) 73)
      have hm : mz_set (mz_set w 72 r72) 73 r73 = mz_set (mz_set w 72 ((mz_set (mz_set w 72 r72) 73 r73) 72)) 73 ((mz_set (mz_set w 72 r72) 73 r73) 73) := sm_of2 (fun i h1 h2 => by simp only [mz_set_ne h1, mz_set_ne h2])
      rw [← hm] at hr
      refine ⟨vr, mr, ?_, hsc⟩
      refine mz_go 3 (c' := (if xa ≤ x7 then 138 else 113, [some (.ref 65), some (.int xa), some (.int x2), some (.int (nI A)), some (.int (nI B)), some (.int x5), some (.int x6), some (.int x7), x8], [], mz_set (mz_set w 72 r72) 73 r73)) rfl ?_
      refine mz_ifT q1 ?_
      exact hr
    · obtain ⟨vr, mr, hr, hsc⟩ := ih (x7 + 1) (sm_me2 hq q1 hms) (((nI WW) - 1) - x6) ((WW - 1) - e6) (sm_subN (a := (WW - 1)) (b := e6) (sm_subN (a := WW) (b := 1) rfl rfl (by omega)) hx6 (by omega)) (by omega) x5 e5 hx5 (by omega) (some (.int x5)) ((mz_set (mz_set w 72 r72) 73 r73) 72) ((mz_set (mz_set w 72 r72) 73 r73) 73)
      have hm : mz_set (mz_set w 72 r72) 73 r73 = mz_set (mz_set w 72 ((mz_set (mz_set w 72 r72) 73 r73) 72)) 73 ((mz_set (mz_set w 72 r72) 73 r73) 73) := sm_of2 (fun i h1 h2 => by simp only [mz_set_ne h1, mz_set_ne h2])
      rw [← hm] at hr
      refine ⟨vr, mr, ?_, hsc⟩
      refine mz_go 3 (c' := (if xa ≤ x7 then 138 else 113, [some (.ref 65), some (.int xa), some (.int x2), some (.int (nI A)), some (.int (nI B)), some (.int x5), some (.int x6), some (.int x7), x8], [], mz_set (mz_set w 72 r72) 73 r73)) rfl ?_
      refine mz_ifF q1 ?_
      refine mz_go 3 (c' := (118, [some (.ref 65), some (.int xa), some (.int x2), some (.int (nI A)), some (.int (nI B)), some (.int x5), some (.int x6), some (.int x7), some (.int x5)], [.ref 65], mz_set (mz_set w 72 r72) 73 r73)) rfl ?_
      refine mz_doQ (R := mz_r183) (as := [.ref 65]) (rest := []) (r1 := some (.int (nI WW))) (m1 := mz_set (mz_set w 72 r72) 73 r73) mz_t183 mz_v183_65 rfl rfl rfl rfl rfl ⟨?_, rfl⟩ ?_
      · refine mz_go 4 (c' := (7, [some (.ref 65)], [.int (w 66 60)], mz_set (mz_set w 72 r72) 73 r73)) rfl ?_
        rw [h6660]
        exact mz_ret rfl
      refine mz_go 9 (c' := (107, [some (.ref 65), some (.int xa), some (.int x2), some (.int (nI A)), some (.int (nI B)), some (.int (((nI WW) - 1) - x6)), some (.int x5), some (.int (x7 + 1)), some (.int x5)], [], mz_set (mz_set w 72 r72) 73 r73)) rfl ?_
      exact hr
set_option maxHeartbeats 4000000 in
set_option maxRecDepth 100000 in
theorem xr_turj {w : mz_M} {N : Nat} (hw : sm_W w N) (hN : N ≤ 6) (hr5 : w 7 5 = 1 ∨ w 7 5 = 2) (hr80 : sm_N 80 (w 7 2)) (hr2 : sm_HR w (w 66)) (h660 : w 66 0 = nI N) (h6615 : w 66 15 = w 7 5) {WW HH : Nat} (hWW : WW ≤ 6) (hHH : HH ≤ 6) (hWH : WW = 0 ↔ HH = 0) (h6660 : w 66 60 = nI WW) (h6661 : w 66 61 = nI HH) {T2 : Nat} (hT2 : w 16 2 = nI T2) (hU2 : w 66 420 = nI T2) (hV2 : T2 = 0 ∨ sm_wf T2 5 (w 17) (w 18)) (hcol : ∀ i, i < 36 → sm_colB (w 66 (70 + i))) {xa : Int32} (hq : xa.toInt < 1000000) {A : Nat} (hA : A < WW) (HX : ∀ (x2 : Int32) (x5 : Option Value) (x6 : Option Value) (x7 : Option Value) (x8 : Option Value) (r72 : Nat → Int32) (r73 : Nat → Int32), ∃ v m', mz_Ex 100 mz_k201 (235, [some (.ref 65), some (.int xa), some (.int x2), some (.int (nI A)), some (.int (nI WW)), x5, x6, x7, x8], [], mz_set (mz_set w 72 r72) 73 r73) (some (.int v), m') ∧ sm_Sc w m') : ∀ j k : Nat, k + j = WW → ∀ (x2 : Int32) (x5 : Option Value) (x6 : Option Value) (x7 : Option Value) (x8 : Option Value) (r72 : Nat → Int32) (r73 : Nat → Int32), ∃ v m', mz_Ex 100 mz_k201 (88, [some (.ref 65), some (.int xa), some (.int x2), some (.int (nI A)), some (.int (nI k)), x5, x6, x7, x8], [], mz_set (mz_set w 72 r72) 73 r73) (some (.int v), m') ∧ sm_Sc w m' := by
  have hT60c := sm_T60 hV2
  intro j
  induction j with
  | zero =>
    intro k hk x2 x5 x6 x7 x8 r72 r73
    rw [show k = WW by omega]
    obtain ⟨vr, mr, hr, hsc⟩ := HX x2 x5 x6 x7 x8 ((mz_set (mz_set w 72 r72) 73 r73) 72) ((mz_set (mz_set w 72 r72) 73 r73) 73)
    have hm : mz_set (mz_set w 72 r72) 73 r73 = mz_set (mz_set w 72 ((mz_set (mz_set w 72 r72) 73 r73) 72)) 73 ((mz_set (mz_set w 72 r72) 73 r73) 73) := sm_of2 (fun i h1 h2 => by simp only [mz_set_ne h1, mz_set_ne h2])
    rw [← hm] at hr
    refine ⟨vr, mr, ?_, hsc⟩
    refine mz_go 2 (c' := (91, [some (.ref 65), some (.int xa), some (.int x2), some (.int (nI A)), some (.int (nI WW)), x5, x6, x7, x8], [.ref 65, .int (nI WW)], mz_set (mz_set w 72 r72) 73 r73)) rfl ?_
    refine mz_doQ (R := mz_r183) (as := [.ref 65]) (rest := [.int (nI WW)]) (r1 := some (.int (nI WW))) (m1 := mz_set (mz_set w 72 r72) 73 r73) mz_t183 mz_v183_65 rfl rfl rfl rfl rfl ⟨?_, rfl⟩ ?_
    · refine mz_go 4 (c' := (7, [some (.ref 65)], [.int (w 66 60)], mz_set (mz_set w 72 r72) 73 r73)) rfl ?_
      rw [h6660]
      exact mz_ret rfl
    refine mz_go 1 (c' := (if (nI WW) ≤ (nI WW) then 235 else 97, [some (.ref 65), some (.int xa), some (.int x2), some (.int (nI A)), some (.int (nI WW)), x5, x6, x7, x8], [], mz_set (mz_set w 72 r72) 73 r73)) rfl ?_
    refine mz_ifT (show ((nI WW) ≤ (nI WW)) from (sm_leN rfl rfl (show WW ≤ WW by omega) (show WW < 2 ^ 31 by omega))) ?_
    exact hr
  | succ j ih =>
    intro k hk x2 x5 x6 x7 x8 r72 r73
    have HX1 : ∀ (x7_1 : Int32) (x5_1 : Int32) (e5_1 : Nat) (hx5_1 : x5_1 = nI e5_1) (hb5_1 : e5_1 < WW) (x6_1 : Int32) (e6_1 : Nat) (hx6_1 : x6_1 = nI e6_1) (hb6_1 : e6_1 < WW) (x8_1 : Option Value) (r72_1 : Nat → Int32) (r73_1 : Nat → Int32), ∃ v m', mz_Ex 100 mz_k201 (138, [some (.ref 65), some (.int xa), some (.int x2), some (.int (nI A)), some (.int (nI k)), some (.int x5_1), some (.int x6_1), some (.int x7_1), x8_1], [], mz_set (mz_set w 72 r72_1) 73 r73_1) (some (.int v), m') ∧ sm_Sc w m' := by
      intro x7_1 x5_1 e5_1 hx5_1 hb5_1 x6_1 e6_1 hx6_1 hb6_1 x8_1 r72_1 r73_1
      obtain ⟨Ve1, hVe1, Ee1⟩ := xr_colB (m := mz_set (mz_set w 72 r72_1) 73 r73_1) hcol (A := A) (B := k) (by omega) (by omega) (a := nI A) (b := nI k) rfl rfl
      obtain ⟨Ve2, hVe2, Ee2⟩ := xr_colB (m := mz_set (mz_set w 72 r72_1) 73 r73_1) hcol (A := e5_1) (B := e6_1) (by omega) (by omega) (a := x5_1) (b := x6_1) hx5_1 hx6_1
      by_cases q1 : x2 = 0
      · obtain ⟨vr, mr, hr, hsc⟩ := ih (k + 1) (by omega) 0 (some (.int x5_1)) (some (.int x6_1)) (some (.int (nI Ve1))) (some (.int (nI Ve2))) ((mz_up (mz_up (mz_set (mz_set w 72 r72_1) 73 r73_1) 72 Ve1 (nI Ve2)) 73 Ve2 (nI Ve1)) 72) ((mz_up (mz_up (mz_set (mz_set w 72 r72_1) 73 r73_1) 72 Ve1 (nI Ve2)) 73 Ve2 (nI Ve1)) 73)
        rw [nI_succ k] at hr
        have hm : mz_up (mz_up (mz_set (mz_set w 72 r72_1) 73 r73_1) 72 Ve1 (nI Ve2)) 73 Ve2 (nI Ve1) = mz_set (mz_set w 72 ((mz_up (mz_up (mz_set (mz_set w 72 r72_1) 73 r73_1) 72 Ve1 (nI Ve2)) 73 Ve2 (nI Ve1)) 72)) 73 ((mz_up (mz_up (mz_set (mz_set w 72 r72_1) 73 r73_1) 72 Ve1 (nI Ve2)) 73 Ve2 (nI Ve1)) 73) := sm_of2 (fun i h1 h2 => by simp only [mz_set_ne h1, mz_set_ne h2, mz_up_ne h1, mz_up_ne h2])
        rw [← hm] at hr
        refine ⟨vr, mr, ?_, hsc⟩
        refine mz_go 3 (c' := (142, [some (.ref 65), some (.int xa), some (.int x2), some (.int (nI A)), some (.int (nI k)), some (.int x5_1), some (.int x6_1), some (.int x7_1), x8_1], [.int (nI k), .int (nI A), .ref 65], mz_set (mz_set w 72 r72_1) 73 r73_1)) rfl ?_
        refine mz_doQ (R := mz_r186) (as := [.ref 65, .int (nI A), .int (nI k)]) (rest := []) (r1 := some (.int (nI Ve1))) (m1 := mz_set (mz_set w 72 r72_1) 73 r73_1) mz_t186 mz_v186_65 rfl rfl rfl rfl rfl (Ee1.deep (by decide)) ?_
        refine mz_go 4 (c' := (152, [some (.ref 65), some (.int xa), some (.int x2), some (.int (nI A)), some (.int (nI k)), some (.int x5_1), some (.int x6_1), some (.int (nI Ve1)), x8_1], [.int x6_1, .int x5_1, .ref 65], mz_set (mz_set w 72 r72_1) 73 r73_1)) rfl ?_
        refine mz_doQ (R := mz_r186) (as := [.ref 65, .int x5_1, .int x6_1]) (rest := []) (r1 := some (.int (nI Ve2))) (m1 := mz_set (mz_set w 72 r72_1) 73 r73_1) mz_t186 mz_v186_65 rfl rfl rfl rfl rfl (Ee2.deep (by decide)) ?_
        refine mz_go 3 (c' := (if x2 = 0 then 209 else 161, [some (.ref 65), some (.int xa), some (.int x2), some (.int (nI A)), some (.int (nI k)), some (.int x5_1), some (.int x6_1), some (.int (nI Ve1)), some (.int (nI Ve2))], [], mz_set (mz_set w 72 r72_1) 73 r73_1)) rfl ?_
        refine mz_ifT q1 ?_
        refine mz_go 6 (c' := (219, [some (.ref 65), some (.int xa), some (.int 0), some (.int (nI A)), some (.int (nI k)), some (.int x5_1), some (.int x6_1), some (.int (nI Ve1)), some (.int (nI Ve2))], [.int (nI Ve2), .int (nI Ve1), .ref 72], mz_set (mz_set w 72 r72_1) 73 r73_1)) rfl ?_
        refine mz_arr (c' := (220, [some (.ref 65), some (.int xa), some (.int 0), some (.int (nI A)), some (.int (nI k)), some (.int x5_1), some (.int x6_1), some (.int (nI Ve1)), some (.int (nI Ve2))], [], mz_up (mz_set (mz_set w 72 r72_1) 73 r73_1) 72 ((nI Ve1).toNatClampNeg) (nI Ve2))) rfl (show mz_in (nI Ve1) 10 = true from sm_inN rfl (show Ve1 < 10 by omega) (by decide)) ?_
        rw [show (nI Ve1 : Int32).toNatClampNeg = Ve1 from sm_clN rfl (show Ve1 < 2 ^ 31 by omega)]
        refine mz_go 4 (c' := (228, [some (.ref 65), some (.int xa), some (.int 0), some (.int (nI A)), some (.int (nI k)), some (.int x5_1), some (.int x6_1), some (.int (nI Ve1)), some (.int (nI Ve2))], [.int (nI Ve1), .int (nI Ve2), .ref 73], mz_up (mz_set (mz_set w 72 r72_1) 73 r73_1) 72 Ve1 (nI Ve2))) rfl ?_
        refine mz_arr (c' := (229, [some (.ref 65), some (.int xa), some (.int 0), some (.int (nI A)), some (.int (nI k)), some (.int x5_1), some (.int x6_1), some (.int (nI Ve1)), some (.int (nI Ve2))], [], mz_up (mz_up (mz_set (mz_set w 72 r72_1) 73 r73_1) 72 Ve1 (nI Ve2)) 73 ((nI Ve2).toNatClampNeg) (nI Ve1))) rfl (show mz_in (nI Ve2) 10 = true from sm_inN rfl (show Ve2 < 10 by omega) (by decide)) ?_
        rw [show (nI Ve2 : Int32).toNatClampNeg = Ve2 from sm_clN rfl (show Ve2 < 2 ^ 31 by omega)]
        refine mz_go 2 (c' := (88, [some (.ref 65), some (.int xa), some (.int 0), some (.int (nI A)), some (.int ((nI k) + 1)), some (.int x5_1), some (.int x6_1), some (.int (nI Ve1)), some (.int (nI Ve2))], [], mz_up (mz_up (mz_set (mz_set w 72 r72_1) 73 r73_1) 72 Ve1 (nI Ve2)) 73 Ve2 (nI Ve1))) rfl ?_
        exact hr
      · by_cases q2 : (r72_1 Ve1) < 0
        · by_cases q3 : (r73_1 Ve2) < 0
          · obtain ⟨vr, mr, hr, hsc⟩ := ih (k + 1) (by omega) 1 (some (.int x5_1)) (some (.int x6_1)) (some (.int (nI Ve1))) (some (.int (nI Ve2))) ((mz_up (mz_up (mz_set (mz_set w 72 r72_1) 73 r73_1) 72 Ve1 (nI Ve2)) 73 Ve2 (nI Ve1)) 72) ((mz_up (mz_up (mz_set (mz_set w 72 r72_1) 73 r73_1) 72 Ve1 (nI Ve2)) 73 Ve2 (nI Ve1)) 73)
            rw [nI_succ k] at hr
            have hm : mz_up (mz_up (mz_set (mz_set w 72 r72_1) 73 r73_1) 72 Ve1 (nI Ve2)) 73 Ve2 (nI Ve1) = mz_set (mz_set w 72 ((mz_up (mz_up (mz_set (mz_set w 72 r72_1) 73 r73_1) 72 Ve1 (nI Ve2)) 73 Ve2 (nI Ve1)) 72)) 73 ((mz_up (mz_up (mz_set (mz_set w 72 r72_1) 73 r73_1) 72 Ve1 (nI Ve2)) 73 Ve2 (nI Ve1)) 73) := sm_of2 (fun i h1 h2 => by simp only [mz_set_ne h1, mz_set_ne h2, mz_up_ne h1, mz_up_ne h2])
            rw [← hm] at hr
            refine ⟨vr, mr, ?_, hsc⟩
            refine mz_go 3 (c' := (142, [some (.ref 65), some (.int xa), some (.int x2), some (.int (nI A)), some (.int (nI k)), some (.int x5_1), some (.int x6_1), some (.int x7_1), x8_1], [.int (nI k), .int (nI A), .ref 65], mz_set (mz_set w 72 r72_1) 73 r73_1)) rfl ?_
            refine mz_doQ (R := mz_r186) (as := [.ref 65, .int (nI A), .int (nI k)]) (rest := []) (r1 := some (.int (nI Ve1))) (m1 := mz_set (mz_set w 72 r72_1) 73 r73_1) mz_t186 mz_v186_65 rfl rfl rfl rfl rfl (Ee1.deep (by decide)) ?_
            refine mz_go 4 (c' := (152, [some (.ref 65), some (.int xa), some (.int x2), some (.int (nI A)), some (.int (nI k)), some (.int x5_1), some (.int x6_1), some (.int (nI Ve1)), x8_1], [.int x6_1, .int x5_1, .ref 65], mz_set (mz_set w 72 r72_1) 73 r73_1)) rfl ?_
            refine mz_doQ (R := mz_r186) (as := [.ref 65, .int x5_1, .int x6_1]) (rest := []) (r1 := some (.int (nI Ve2))) (m1 := mz_set (mz_set w 72 r72_1) 73 r73_1) mz_t186 mz_v186_65 rfl rfl rfl rfl rfl (Ee2.deep (by decide)) ?_
            refine mz_go 3 (c' := (if x2 = 0 then 209 else 161, [some (.ref 65), some (.int xa), some (.int x2), some (.int (nI A)), some (.int (nI k)), some (.int x5_1), some (.int x6_1), some (.int (nI Ve1)), some (.int (nI Ve2))], [], mz_set (mz_set w 72 r72_1) 73 r73_1)) rfl ?_
            refine mz_ifF q1 ?_
            refine mz_go 3 (c' := (167, [some (.ref 65), some (.int xa), some (.int x2), some (.int (nI A)), some (.int (nI k)), some (.int x5_1), some (.int x6_1), some (.int (nI Ve1)), some (.int (nI Ve2))], [.int (nI Ve1), .ref 72], mz_set (mz_set w 72 r72_1) 73 r73_1)) rfl ?_
            refine mz_arr (c' := (168, [some (.ref 65), some (.int xa), some (.int x2), some (.int (nI A)), some (.int (nI k)), some (.int x5_1), some (.int x6_1), some (.int (nI Ve1)), some (.int (nI Ve2))], [.int (r72_1 ((nI Ve1).toNatClampNeg))], mz_set (mz_set w 72 r72_1) 73 r73_1)) rfl (show mz_in (nI Ve1) 10 = true from sm_inN rfl (show Ve1 < 10 by omega) (by decide)) ?_
            rw [show (nI Ve1 : Int32).toNatClampNeg = Ve1 from sm_clN rfl (show Ve1 < 2 ^ 31 by omega)]
            refine mz_go 1 (c' := (if (r72_1 Ve1) < 0 then 183 else 171, [some (.ref 65), some (.int xa), some (.int x2), some (.int (nI A)), some (.int (nI k)), some (.int x5_1), some (.int x6_1), some (.int (nI Ve1)), some (.int (nI Ve2))], [], mz_set (mz_set w 72 r72_1) 73 r73_1)) rfl ?_
            refine mz_ifT q2 ?_
            refine mz_go 3 (c' := (189, [some (.ref 65), some (.int xa), some (.int x2), some (.int (nI A)), some (.int (nI k)), some (.int x5_1), some (.int x6_1), some (.int (nI Ve1)), some (.int (nI Ve2))], [.int (nI Ve2), .ref 73], mz_set (mz_set w 72 r72_1) 73 r73_1)) rfl ?_
            refine mz_arr (c' := (190, [some (.ref 65), some (.int xa), some (.int x2), some (.int (nI A)), some (.int (nI k)), some (.int x5_1), some (.int x6_1), some (.int (nI Ve1)), some (.int (nI Ve2))], [.int (r73_1 ((nI Ve2).toNatClampNeg))], mz_set (mz_set w 72 r72_1) 73 r73_1)) rfl (show mz_in (nI Ve2) 10 = true from sm_inN rfl (show Ve2 < 10 by omega) (by decide)) ?_
            rw [show (nI Ve2 : Int32).toNatClampNeg = Ve2 from sm_clN rfl (show Ve2 < 2 ^ 31 by omega)]
            refine mz_go 1 (c' := (if (r73_1 Ve2) < 0 then 205 else 193, [some (.ref 65), some (.int xa), some (.int x2), some (.int (nI A)), some (.int (nI k)), some (.int x5_1), some (.int x6_1), some (.int (nI Ve1)), some (.int (nI Ve2))], [], mz_set (mz_set w 72 r72_1) 73 r73_1)) rfl ?_
            refine mz_ifT q3 ?_
            refine mz_go 7 (c' := (219, [some (.ref 65), some (.int xa), some (.int 1), some (.int (nI A)), some (.int (nI k)), some (.int x5_1), some (.int x6_1), some (.int (nI Ve1)), some (.int (nI Ve2))], [.int (nI Ve2), .int (nI Ve1), .ref 72], mz_set (mz_set w 72 r72_1) 73 r73_1)) rfl ?_
            refine mz_arr (c' := (220, [some (.ref 65), some (.int xa), some (.int 1), some (.int (nI A)), some (.int (nI k)), some (.int x5_1), some (.int x6_1), some (.int (nI Ve1)), some (.int (nI Ve2))], [], mz_up (mz_set (mz_set w 72 r72_1) 73 r73_1) 72 ((nI Ve1).toNatClampNeg) (nI Ve2))) rfl (show mz_in (nI Ve1) 10 = true from sm_inN rfl (show Ve1 < 10 by omega) (by decide)) ?_
            rw [show (nI Ve1 : Int32).toNatClampNeg = Ve1 from sm_clN rfl (show Ve1 < 2 ^ 31 by omega)]
            refine mz_go 4 (c' := (228, [some (.ref 65), some (.int xa), some (.int 1), some (.int (nI A)), some (.int (nI k)), some (.int x5_1), some (.int x6_1), some (.int (nI Ve1)), some (.int (nI Ve2))], [.int (nI Ve1), .int (nI Ve2), .ref 73], mz_up (mz_set (mz_set w 72 r72_1) 73 r73_1) 72 Ve1 (nI Ve2))) rfl ?_
            refine mz_arr (c' := (229, [some (.ref 65), some (.int xa), some (.int 1), some (.int (nI A)), some (.int (nI k)), some (.int x5_1), some (.int x6_1), some (.int (nI Ve1)), some (.int (nI Ve2))], [], mz_up (mz_up (mz_set (mz_set w 72 r72_1) 73 r73_1) 72 Ve1 (nI Ve2)) 73 ((nI Ve2).toNatClampNeg) (nI Ve1))) rfl (show mz_in (nI Ve2) 10 = true from sm_inN rfl (show Ve2 < 10 by omega) (by decide)) ?_
            rw [show (nI Ve2 : Int32).toNatClampNeg = Ve2 from sm_clN rfl (show Ve2 < 2 ^ 31 by omega)]
            refine mz_go 2 (c' := (88, [some (.ref 65), some (.int xa), some (.int 1), some (.int (nI A)), some (.int ((nI k) + 1)), some (.int x5_1), some (.int x6_1), some (.int (nI Ve1)), some (.int (nI Ve2))], [], mz_up (mz_up (mz_set (mz_set w 72 r72_1) 73 r73_1) 72 Ve1 (nI Ve2)) 73 Ve2 (nI Ve1))) rfl ?_
            exact hr
          · by_cases q4 : (r73_1 Ve2) = (nI Ve1)
            · obtain ⟨vr, mr, hr, hsc⟩ := ih (k + 1) (by omega) 1 (some (.int x5_1)) (some (.int x6_1)) (some (.int (nI Ve1))) (some (.int (nI Ve2))) ((mz_up (mz_up (mz_set (mz_set w 72 r72_1) 73 r73_1) 72 Ve1 (nI Ve2)) 73 Ve2 (nI Ve1)) 72) ((mz_up (mz_up (mz_set (mz_set w 72 r72_1) 73 r73_1) 72 Ve1 (nI Ve2)) 73 Ve2 (nI Ve1)) 73)
              rw [nI_succ k] at hr
              have hm : mz_up (mz_up (mz_set (mz_set w 72 r72_1) 73 r73_1) 72 Ve1 (nI Ve2)) 73 Ve2 (nI Ve1) = mz_set (mz_set w 72 ((mz_up (mz_up (mz_set (mz_set w 72 r72_1) 73 r73_1) 72 Ve1 (nI Ve2)) 73 Ve2 (nI Ve1)) 72)) 73 ((mz_up (mz_up (mz_set (mz_set w 72 r72_1) 73 r73_1) 72 Ve1 (nI Ve2)) 73 Ve2 (nI Ve1)) 73) := sm_of2 (fun i h1 h2 => by simp only [mz_set_ne h1, mz_set_ne h2, mz_up_ne h1, mz_up_ne h2])
              rw [← hm] at hr
              refine ⟨vr, mr, ?_, hsc⟩
              refine mz_go 3 (c' := (142, [some (.ref 65), some (.int xa), some (.int x2), some (.int (nI A)), some (.int (nI k)), some (.int x5_1), some (.int x6_1), some (.int x7_1), x8_1], [.int (nI k), .int (nI A), .ref 65], mz_set (mz_set w 72 r72_1) 73 r73_1)) rfl ?_
              refine mz_doQ (R := mz_r186) (as := [.ref 65, .int (nI A), .int (nI k)]) (rest := []) (r1 := some (.int (nI Ve1))) (m1 := mz_set (mz_set w 72 r72_1) 73 r73_1) mz_t186 mz_v186_65 rfl rfl rfl rfl rfl (Ee1.deep (by decide)) ?_
              refine mz_go 4 (c' := (152, [some (.ref 65), some (.int xa), some (.int x2), some (.int (nI A)), some (.int (nI k)), some (.int x5_1), some (.int x6_1), some (.int (nI Ve1)), x8_1], [.int x6_1, .int x5_1, .ref 65], mz_set (mz_set w 72 r72_1) 73 r73_1)) rfl ?_
              refine mz_doQ (R := mz_r186) (as := [.ref 65, .int x5_1, .int x6_1]) (rest := []) (r1 := some (.int (nI Ve2))) (m1 := mz_set (mz_set w 72 r72_1) 73 r73_1) mz_t186 mz_v186_65 rfl rfl rfl rfl rfl (Ee2.deep (by decide)) ?_
              refine mz_go 3 (c' := (if x2 = 0 then 209 else 161, [some (.ref 65), some (.int xa), some (.int x2), some (.int (nI A)), some (.int (nI k)), some (.int x5_1), some (.int x6_1), some (.int (nI Ve1)), some (.int (nI Ve2))], [], mz_set (mz_set w 72 r72_1) 73 r73_1)) rfl ?_
              refine mz_ifF q1 ?_
              refine mz_go 3 (c' := (167, [some (.ref 65), some (.int xa), some (.int x2), some (.int (nI A)), some (.int (nI k)), some (.int x5_1), some (.int x6_1), some (.int (nI Ve1)), some (.int (nI Ve2))], [.int (nI Ve1), .ref 72], mz_set (mz_set w 72 r72_1) 73 r73_1)) rfl ?_
              refine mz_arr (c' := (168, [some (.ref 65), some (.int xa), some (.int x2), some (.int (nI A)), some (.int (nI k)), some (.int x5_1), some (.int x6_1), some (.int (nI Ve1)), some (.int (nI Ve2))], [.int (r72_1 ((nI Ve1).toNatClampNeg))], mz_set (mz_set w 72 r72_1) 73 r73_1)) rfl (show mz_in (nI Ve1) 10 = true from sm_inN rfl (show Ve1 < 10 by omega) (by decide)) ?_
              rw [show (nI Ve1 : Int32).toNatClampNeg = Ve1 from sm_clN rfl (show Ve1 < 2 ^ 31 by omega)]
              refine mz_go 1 (c' := (if (r72_1 Ve1) < 0 then 183 else 171, [some (.ref 65), some (.int xa), some (.int x2), some (.int (nI A)), some (.int (nI k)), some (.int x5_1), some (.int x6_1), some (.int (nI Ve1)), some (.int (nI Ve2))], [], mz_set (mz_set w 72 r72_1) 73 r73_1)) rfl ?_
              refine mz_ifT q2 ?_
              refine mz_go 3 (c' := (189, [some (.ref 65), some (.int xa), some (.int x2), some (.int (nI A)), some (.int (nI k)), some (.int x5_1), some (.int x6_1), some (.int (nI Ve1)), some (.int (nI Ve2))], [.int (nI Ve2), .ref 73], mz_set (mz_set w 72 r72_1) 73 r73_1)) rfl ?_
              refine mz_arr (c' := (190, [some (.ref 65), some (.int xa), some (.int x2), some (.int (nI A)), some (.int (nI k)), some (.int x5_1), some (.int x6_1), some (.int (nI Ve1)), some (.int (nI Ve2))], [.int (r73_1 ((nI Ve2).toNatClampNeg))], mz_set (mz_set w 72 r72_1) 73 r73_1)) rfl (show mz_in (nI Ve2) 10 = true from sm_inN rfl (show Ve2 < 10 by omega) (by decide)) ?_
              rw [show (nI Ve2 : Int32).toNatClampNeg = Ve2 from sm_clN rfl (show Ve2 < 2 ^ 31 by omega)]
              refine mz_go 1 (c' := (if (r73_1 Ve2) < 0 then 205 else 193, [some (.ref 65), some (.int xa), some (.int x2), some (.int (nI A)), some (.int (nI k)), some (.int x5_1), some (.int x6_1), some (.int (nI Ve1)), some (.int (nI Ve2))], [], mz_set (mz_set w 72 r72_1) 73 r73_1)) rfl ?_
              refine mz_ifF q3 ?_
              refine mz_go 3 (c' := (199, [some (.ref 65), some (.int xa), some (.int x2), some (.int (nI A)), some (.int (nI k)), some (.int x5_1), some (.int x6_1), some (.int (nI Ve1)), some (.int (nI Ve2))], [.int (nI Ve2), .ref 73], mz_set (mz_set w 72 r72_1) 73 r73_1)) rfl ?_
              refine mz_arr (c' := (200, [some (.ref 65), some (.int xa), some (.int x2), some (.int (nI A)), some (.int (nI k)), some (.int x5_1), some (.int x6_1), some (.int (nI Ve1)), some (.int (nI Ve2))], [.int (r73_1 ((nI Ve2).toNatClampNeg))], mz_set (mz_set w 72 r72_1) 73 r73_1)) rfl (show mz_in (nI Ve2) 10 = true from sm_inN rfl (show Ve2 < 10 by omega) (by decide)) ?_
              rw [show (nI Ve2 : Int32).toNatClampNeg = Ve2 from sm_clN rfl (show Ve2 < 2 ^ 31 by omega)]
              refine mz_go 2 (c' := (if (r73_1 Ve2) = (nI Ve1) then 205 else 209, [some (.ref 65), some (.int xa), some (.int x2), some (.int (nI A)), some (.int (nI k)), some (.int x5_1), some (.int x6_1), some (.int (nI Ve1)), some (.int (nI Ve2))], [], mz_set (mz_set w 72 r72_1) 73 r73_1)) rfl ?_
              refine mz_ifT q4 ?_
              refine mz_go 7 (c' := (219, [some (.ref 65), some (.int xa), some (.int 1), some (.int (nI A)), some (.int (nI k)), some (.int x5_1), some (.int x6_1), some (.int (nI Ve1)), some (.int (nI Ve2))], [.int (nI Ve2), .int (nI Ve1), .ref 72], mz_set (mz_set w 72 r72_1) 73 r73_1)) rfl ?_
              refine mz_arr (c' := (220, [some (.ref 65), some (.int xa), some (.int 1), some (.int (nI A)), some (.int (nI k)), some (.int x5_1), some (.int x6_1), some (.int (nI Ve1)), some (.int (nI Ve2))], [], mz_up (mz_set (mz_set w 72 r72_1) 73 r73_1) 72 ((nI Ve1).toNatClampNeg) (nI Ve2))) rfl (show mz_in (nI Ve1) 10 = true from sm_inN rfl (show Ve1 < 10 by omega) (by decide)) ?_
              rw [show (nI Ve1 : Int32).toNatClampNeg = Ve1 from sm_clN rfl (show Ve1 < 2 ^ 31 by omega)]
              refine mz_go 4 (c' := (228, [some (.ref 65), some (.int xa), some (.int 1), some (.int (nI A)), some (.int (nI k)), some (.int x5_1), some (.int x6_1), some (.int (nI Ve1)), some (.int (nI Ve2))], [.int (nI Ve1), .int (nI Ve2), .ref 73], mz_up (mz_set (mz_set w 72 r72_1) 73 r73_1) 72 Ve1 (nI Ve2))) rfl ?_
              refine mz_arr (c' := (229, [some (.ref 65), some (.int xa), some (.int 1), some (.int (nI A)), some (.int (nI k)), some (.int x5_1), some (.int x6_1), some (.int (nI Ve1)), some (.int (nI Ve2))], [], mz_up (mz_up (mz_set (mz_set w 72 r72_1) 73 r73_1) 72 Ve1 (nI Ve2)) 73 ((nI Ve2).toNatClampNeg) (nI Ve1))) rfl (show mz_in (nI Ve2) 10 = true from sm_inN rfl (show Ve2 < 10 by omega) (by decide)) ?_
              rw [show (nI Ve2 : Int32).toNatClampNeg = Ve2 from sm_clN rfl (show Ve2 < 2 ^ 31 by omega)]
              refine mz_go 2 (c' := (88, [some (.ref 65), some (.int xa), some (.int 1), some (.int (nI A)), some (.int ((nI k) + 1)), some (.int x5_1), some (.int x6_1), some (.int (nI Ve1)), some (.int (nI Ve2))], [], mz_up (mz_up (mz_set (mz_set w 72 r72_1) 73 r73_1) 72 Ve1 (nI Ve2)) 73 Ve2 (nI Ve1))) rfl ?_
              exact hr
            · obtain ⟨vr, mr, hr, hsc⟩ := ih (k + 1) (by omega) 0 (some (.int x5_1)) (some (.int x6_1)) (some (.int (nI Ve1))) (some (.int (nI Ve2))) ((mz_up (mz_up (mz_set (mz_set w 72 r72_1) 73 r73_1) 72 Ve1 (nI Ve2)) 73 Ve2 (nI Ve1)) 72) ((mz_up (mz_up (mz_set (mz_set w 72 r72_1) 73 r73_1) 72 Ve1 (nI Ve2)) 73 Ve2 (nI Ve1)) 73)
              rw [nI_succ k] at hr
              have hm : mz_up (mz_up (mz_set (mz_set w 72 r72_1) 73 r73_1) 72 Ve1 (nI Ve2)) 73 Ve2 (nI Ve1) = mz_set (mz_set w 72 ((mz_up (mz_up (mz_set (mz_set w 72 r72_1) 73 r73_1) 72 Ve1 (nI Ve2)) 73 Ve2 (nI Ve1)) 72)) 73 ((mz_up (mz_up (mz_set (mz_set w 72 r72_1) 73 r73_1) 72 Ve1 (nI Ve2)) 73 Ve2 (nI Ve1)) 73) := sm_of2 (fun i h1 h2 => by simp only [mz_set_ne h1, mz_set_ne h2, mz_up_ne h1, mz_up_ne h2])
              rw [← hm] at hr
              refine ⟨vr, mr, ?_, hsc⟩
              refine mz_go 3 (c' := (142, [some (.ref 65), some (.int xa), some (.int x2), some (.int (nI A)), some (.int (nI k)), some (.int x5_1), some (.int x6_1), some (.int x7_1), x8_1], [.int (nI k), .int (nI A), .ref 65], mz_set (mz_set w 72 r72_1) 73 r73_1)) rfl ?_
              refine mz_doQ (R := mz_r186) (as := [.ref 65, .int (nI A), .int (nI k)]) (rest := []) (r1 := some (.int (nI Ve1))) (m1 := mz_set (mz_set w 72 r72_1) 73 r73_1) mz_t186 mz_v186_65 rfl rfl rfl rfl rfl (Ee1.deep (by decide)) ?_
              refine mz_go 4 (c' := (152, [some (.ref 65), some (.int xa), some (.int x2), some (.int (nI A)), some (.int (nI k)), some (.int x5_1), some (.int x6_1), some (.int (nI Ve1)), x8_1], [.int x6_1, .int x5_1, .ref 65], mz_set (mz_set w 72 r72_1) 73 r73_1)) rfl ?_
              refine mz_doQ (R := mz_r186) (as := [.ref 65, .int x5_1, .int x6_1]) (rest := []) (r1 := some (.int (nI Ve2))) (m1 := mz_set (mz_set w 72 r72_1) 73 r73_1) mz_t186 mz_v186_65 rfl rfl rfl rfl rfl (Ee2.deep (by decide)) ?_
              refine mz_go 3 (c' := (if x2 = 0 then 209 else 161, [some (.ref 65), some (.int xa), some (.int x2), some (.int (nI A)), some (.int (nI k)), some (.int x5_1), some (.int x6_1), some (.int (nI Ve1)), some (.int (nI Ve2))], [], mz_set (mz_set w 72 r72_1) 73 r73_1)) rfl ?_
              refine mz_ifF q1 ?_
              refine mz_go 3 (c' := (167, [some (.ref 65), some (.int xa), some (.int x2), some (.int (nI A)), some (.int (nI k)), some (.int x5_1), some (.int x6_1), some (.int (nI Ve1)), some (.int (nI Ve2))], [.int (nI Ve1), .ref 72], mz_set (mz_set w 72 r72_1) 73 r73_1)) rfl ?_
              refine mz_arr (c' := (168, [some (.ref 65), some (.int xa), some (.int x2), some (.int (nI A)), some (.int (nI k)), some (.int x5_1), some (.int x6_1), some (.int (nI Ve1)), some (.int (nI Ve2))], [.int (r72_1 ((nI Ve1).toNatClampNeg))], mz_set (mz_set w 72 r72_1) 73 r73_1)) rfl (show mz_in (nI Ve1) 10 = true from sm_inN rfl (show Ve1 < 10 by omega) (by decide)) ?_
              rw [show (nI Ve1 : Int32).toNatClampNeg = Ve1 from sm_clN rfl (show Ve1 < 2 ^ 31 by omega)]
              refine mz_go 1 (c' := (if (r72_1 Ve1) < 0 then 183 else 171, [some (.ref 65), some (.int xa), some (.int x2), some (.int (nI A)), some (.int (nI k)), some (.int x5_1), some (.int x6_1), some (.int (nI Ve1)), some (.int (nI Ve2))], [], mz_set (mz_set w 72 r72_1) 73 r73_1)) rfl ?_
              refine mz_ifT q2 ?_
              refine mz_go 3 (c' := (189, [some (.ref 65), some (.int xa), some (.int x2), some (.int (nI A)), some (.int (nI k)), some (.int x5_1), some (.int x6_1), some (.int (nI Ve1)), some (.int (nI Ve2))], [.int (nI Ve2), .ref 73], mz_set (mz_set w 72 r72_1) 73 r73_1)) rfl ?_
              refine mz_arr (c' := (190, [some (.ref 65), some (.int xa), some (.int x2), some (.int (nI A)), some (.int (nI k)), some (.int x5_1), some (.int x6_1), some (.int (nI Ve1)), some (.int (nI Ve2))], [.int (r73_1 ((nI Ve2).toNatClampNeg))], mz_set (mz_set w 72 r72_1) 73 r73_1)) rfl (show mz_in (nI Ve2) 10 = true from sm_inN rfl (show Ve2 < 10 by omega) (by decide)) ?_
              rw [show (nI Ve2 : Int32).toNatClampNeg = Ve2 from sm_clN rfl (show Ve2 < 2 ^ 31 by omega)]
              refine mz_go 1 (c' := (if (r73_1 Ve2) < 0 then 205 else 193, [some (.ref 65), some (.int xa), some (.int x2), some (.int (nI A)), some (.int (nI k)), some (.int x5_1), some (.int x6_1), some (.int (nI Ve1)), some (.int (nI Ve2))], [], mz_set (mz_set w 72 r72_1) 73 r73_1)) rfl ?_
              refine mz_ifF q3 ?_
              refine mz_go 3 (c' := (199, [some (.ref 65), some (.int xa), some (.int x2), some (.int (nI A)), some (.int (nI k)), some (.int x5_1), some (.int x6_1), some (.int (nI Ve1)), some (.int (nI Ve2))], [.int (nI Ve2), .ref 73], mz_set (mz_set w 72 r72_1) 73 r73_1)) rfl ?_
              refine mz_arr (c' := (200, [some (.ref 65), some (.int xa), some (.int x2), some (.int (nI A)), some (.int (nI k)), some (.int x5_1), some (.int x6_1), some (.int (nI Ve1)), some (.int (nI Ve2))], [.int (r73_1 ((nI Ve2).toNatClampNeg))], mz_set (mz_set w 72 r72_1) 73 r73_1)) rfl (show mz_in (nI Ve2) 10 = true from sm_inN rfl (show Ve2 < 10 by omega) (by decide)) ?_
              rw [show (nI Ve2 : Int32).toNatClampNeg = Ve2 from sm_clN rfl (show Ve2 < 2 ^ 31 by omega)]
              refine mz_go 2 (c' := (if (r73_1 Ve2) = (nI Ve1) then 205 else 209, [some (.ref 65), some (.int xa), some (.int x2), some (.int (nI A)), some (.int (nI k)), some (.int x5_1), some (.int x6_1), some (.int (nI Ve1)), some (.int (nI Ve2))], [], mz_set (mz_set w 72 r72_1) 73 r73_1)) rfl ?_
              refine mz_ifF q4 ?_
              refine mz_go 6 (c' := (219, [some (.ref 65), some (.int xa), some (.int 0), some (.int (nI A)), some (.int (nI k)), some (.int x5_1), some (.int x6_1), some (.int (nI Ve1)), some (.int (nI Ve2))], [.int (nI Ve2), .int (nI Ve1), .ref 72], mz_set (mz_set w 72 r72_1) 73 r73_1)) rfl ?_
              refine mz_arr (c' := (220, [some (.ref 65), some (.int xa), some (.int 0), some (.int (nI A)), some (.int (nI k)), some (.int x5_1), some (.int x6_1), some (.int (nI Ve1)), some (.int (nI Ve2))], [], mz_up (mz_set (mz_set w 72 r72_1) 73 r73_1) 72 ((nI Ve1).toNatClampNeg) (nI Ve2))) rfl (show mz_in (nI Ve1) 10 = true from sm_inN rfl (show Ve1 < 10 by omega) (by decide)) ?_
              rw [show (nI Ve1 : Int32).toNatClampNeg = Ve1 from sm_clN rfl (show Ve1 < 2 ^ 31 by omega)]
              refine mz_go 4 (c' := (228, [some (.ref 65), some (.int xa), some (.int 0), some (.int (nI A)), some (.int (nI k)), some (.int x5_1), some (.int x6_1), some (.int (nI Ve1)), some (.int (nI Ve2))], [.int (nI Ve1), .int (nI Ve2), .ref 73], mz_up (mz_set (mz_set w 72 r72_1) 73 r73_1) 72 Ve1 (nI Ve2))) rfl ?_
              refine mz_arr (c' := (229, [some (.ref 65), some (.int xa), some (.int 0), some (.int (nI A)), some (.int (nI k)), some (.int x5_1), some (.int x6_1), some (.int (nI Ve1)), some (.int (nI Ve2))], [], mz_up (mz_up (mz_set (mz_set w 72 r72_1) 73 r73_1) 72 Ve1 (nI Ve2)) 73 ((nI Ve2).toNatClampNeg) (nI Ve1))) rfl (show mz_in (nI Ve2) 10 = true from sm_inN rfl (show Ve2 < 10 by omega) (by decide)) ?_
              rw [show (nI Ve2 : Int32).toNatClampNeg = Ve2 from sm_clN rfl (show Ve2 < 2 ^ 31 by omega)]
              refine mz_go 2 (c' := (88, [some (.ref 65), some (.int xa), some (.int 0), some (.int (nI A)), some (.int ((nI k) + 1)), some (.int x5_1), some (.int x6_1), some (.int (nI Ve1)), some (.int (nI Ve2))], [], mz_up (mz_up (mz_set (mz_set w 72 r72_1) 73 r73_1) 72 Ve1 (nI Ve2)) 73 Ve2 (nI Ve1))) rfl ?_
              exact hr
        · by_cases q5 : (r72_1 Ve1) = (nI Ve2)
          · by_cases q6 : (r73_1 Ve2) < 0
            · obtain ⟨vr, mr, hr, hsc⟩ := ih (k + 1) (by omega) 1 (some (.int x5_1)) (some (.int x6_1)) (some (.int (nI Ve1))) (some (.int (nI Ve2))) ((mz_up (mz_up (mz_set (mz_set w 72 r72_1) 73 r73_1) 72 Ve1 (nI Ve2)) 73 Ve2 (nI Ve1)) 72) ((mz_up (mz_up (mz_set (mz_set w 72 r72_1) 73 r73_1) 72 Ve1 (nI Ve2)) 73 Ve2 (nI Ve1)) 73)
              rw [nI_succ k] at hr
              have hm : mz_up (mz_up (mz_set (mz_set w 72 r72_1) 73 r73_1) 72 Ve1 (nI Ve2)) 73 Ve2 (nI Ve1) = mz_set (mz_set w 72 ((mz_up (mz_up (mz_set (mz_set w 72 r72_1) 73 r73_1) 72 Ve1 (nI Ve2)) 73 Ve2 (nI Ve1)) 72)) 73 ((mz_up (mz_up (mz_set (mz_set w 72 r72_1) 73 r73_1) 72 Ve1 (nI Ve2)) 73 Ve2 (nI Ve1)) 73) := sm_of2 (fun i h1 h2 => by simp only [mz_set_ne h1, mz_set_ne h2, mz_up_ne h1, mz_up_ne h2])
              rw [← hm] at hr
              refine ⟨vr, mr, ?_, hsc⟩
              refine mz_go 3 (c' := (142, [some (.ref 65), some (.int xa), some (.int x2), some (.int (nI A)), some (.int (nI k)), some (.int x5_1), some (.int x6_1), some (.int x7_1), x8_1], [.int (nI k), .int (nI A), .ref 65], mz_set (mz_set w 72 r72_1) 73 r73_1)) rfl ?_
              refine mz_doQ (R := mz_r186) (as := [.ref 65, .int (nI A), .int (nI k)]) (rest := []) (r1 := some (.int (nI Ve1))) (m1 := mz_set (mz_set w 72 r72_1) 73 r73_1) mz_t186 mz_v186_65 rfl rfl rfl rfl rfl (Ee1.deep (by decide)) ?_
              refine mz_go 4 (c' := (152, [some (.ref 65), some (.int xa), some (.int x2), some (.int (nI A)), some (.int (nI k)), some (.int x5_1), some (.int x6_1), some (.int (nI Ve1)), x8_1], [.int x6_1, .int x5_1, .ref 65], mz_set (mz_set w 72 r72_1) 73 r73_1)) rfl ?_
              refine mz_doQ (R := mz_r186) (as := [.ref 65, .int x5_1, .int x6_1]) (rest := []) (r1 := some (.int (nI Ve2))) (m1 := mz_set (mz_set w 72 r72_1) 73 r73_1) mz_t186 mz_v186_65 rfl rfl rfl rfl rfl (Ee2.deep (by decide)) ?_
              refine mz_go 3 (c' := (if x2 = 0 then 209 else 161, [some (.ref 65), some (.int xa), some (.int x2), some (.int (nI A)), some (.int (nI k)), some (.int x5_1), some (.int x6_1), some (.int (nI Ve1)), some (.int (nI Ve2))], [], mz_set (mz_set w 72 r72_1) 73 r73_1)) rfl ?_
              refine mz_ifF q1 ?_
              refine mz_go 3 (c' := (167, [some (.ref 65), some (.int xa), some (.int x2), some (.int (nI A)), some (.int (nI k)), some (.int x5_1), some (.int x6_1), some (.int (nI Ve1)), some (.int (nI Ve2))], [.int (nI Ve1), .ref 72], mz_set (mz_set w 72 r72_1) 73 r73_1)) rfl ?_
              refine mz_arr (c' := (168, [some (.ref 65), some (.int xa), some (.int x2), some (.int (nI A)), some (.int (nI k)), some (.int x5_1), some (.int x6_1), some (.int (nI Ve1)), some (.int (nI Ve2))], [.int (r72_1 ((nI Ve1).toNatClampNeg))], mz_set (mz_set w 72 r72_1) 73 r73_1)) rfl (show mz_in (nI Ve1) 10 = true from sm_inN rfl (show Ve1 < 10 by omega) (by decide)) ?_
              rw [show (nI Ve1 : Int32).toNatClampNeg = Ve1 from sm_clN rfl (show Ve1 < 2 ^ 31 by omega)]
              refine mz_go 1 (c' := (if (r72_1 Ve1) < 0 then 183 else 171, [some (.ref 65), some (.int xa), some (.int x2), some (.int (nI A)), some (.int (nI k)), some (.int x5_1), some (.int x6_1), some (.int (nI Ve1)), some (.int (nI Ve2))], [], mz_set (mz_set w 72 r72_1) 73 r73_1)) rfl ?_
              refine mz_ifF q2 ?_
              refine mz_go 3 (c' := (177, [some (.ref 65), some (.int xa), some (.int x2), some (.int (nI A)), some (.int (nI k)), some (.int x5_1), some (.int x6_1), some (.int (nI Ve1)), some (.int (nI Ve2))], [.int (nI Ve1), .ref 72], mz_set (mz_set w 72 r72_1) 73 r73_1)) rfl ?_
              refine mz_arr (c' := (178, [some (.ref 65), some (.int xa), some (.int x2), some (.int (nI A)), some (.int (nI k)), some (.int x5_1), some (.int x6_1), some (.int (nI Ve1)), some (.int (nI Ve2))], [.int (r72_1 ((nI Ve1).toNatClampNeg))], mz_set (mz_set w 72 r72_1) 73 r73_1)) rfl (show mz_in (nI Ve1) 10 = true from sm_inN rfl (show Ve1 < 10 by omega) (by decide)) ?_
              rw [show (nI Ve1 : Int32).toNatClampNeg = Ve1 from sm_clN rfl (show Ve1 < 2 ^ 31 by omega)]
              refine mz_go 2 (c' := (if (r72_1 Ve1) = (nI Ve2) then 183 else 209, [some (.ref 65), some (.int xa), some (.int x2), some (.int (nI A)), some (.int (nI k)), some (.int x5_1), some (.int x6_1), some (.int (nI Ve1)), some (.int (nI Ve2))], [], mz_set (mz_set w 72 r72_1) 73 r73_1)) rfl ?_
              refine mz_ifT q5 ?_
              refine mz_go 3 (c' := (189, [some (.ref 65), some (.int xa), some (.int x2), some (.int (nI A)), some (.int (nI k)), some (.int x5_1), some (.int x6_1), some (.int (nI Ve1)), some (.int (nI Ve2))], [.int (nI Ve2), .ref 73], mz_set (mz_set w 72 r72_1) 73 r73_1)) rfl ?_
              refine mz_arr (c' := (190, [some (.ref 65), some (.int xa), some (.int x2), some (.int (nI A)), some (.int (nI k)), some (.int x5_1), some (.int x6_1), some (.int (nI Ve1)), some (.int (nI Ve2))], [.int (r73_1 ((nI Ve2).toNatClampNeg))], mz_set (mz_set w 72 r72_1) 73 r73_1)) rfl (show mz_in (nI Ve2) 10 = true from sm_inN rfl (show Ve2 < 10 by omega) (by decide)) ?_
              rw [show (nI Ve2 : Int32).toNatClampNeg = Ve2 from sm_clN rfl (show Ve2 < 2 ^ 31 by omega)]
              refine mz_go 1 (c' := (if (r73_1 Ve2) < 0 then 205 else 193, [some (.ref 65), some (.int xa), some (.int x2), some (.int (nI A)), some (.int (nI k)), some (.int x5_1), some (.int x6_1), some (.int (nI Ve1)), some (.int (nI Ve2))], [], mz_set (mz_set w 72 r72_1) 73 r73_1)) rfl ?_
              refine mz_ifT q6 ?_
              refine mz_go 7 (c' := (219, [some (.ref 65), some (.int xa), some (.int 1), some (.int (nI A)), some (.int (nI k)), some (.int x5_1), some (.int x6_1), some (.int (nI Ve1)), some (.int (nI Ve2))], [.int (nI Ve2), .int (nI Ve1), .ref 72], mz_set (mz_set w 72 r72_1) 73 r73_1)) rfl ?_
              refine mz_arr (c' := (220, [some (.ref 65), some (.int xa), some (.int 1), some (.int (nI A)), some (.int (nI k)), some (.int x5_1), some (.int x6_1), some (.int (nI Ve1)), some (.int (nI Ve2))], [], mz_up (mz_set (mz_set w 72 r72_1) 73 r73_1) 72 ((nI Ve1).toNatClampNeg) (nI Ve2))) rfl (show mz_in (nI Ve1) 10 = true from sm_inN rfl (show Ve1 < 10 by omega) (by decide)) ?_
              rw [show (nI Ve1 : Int32).toNatClampNeg = Ve1 from sm_clN rfl (show Ve1 < 2 ^ 31 by omega)]
              refine mz_go 4 (c' := (228, [some (.ref 65), some (.int xa), some (.int 1), some (.int (nI A)), some (.int (nI k)), some (.int x5_1), some (.int x6_1), some (.int (nI Ve1)), some (.int (nI Ve2))], [.int (nI Ve1), .int (nI Ve2), .ref 73], mz_up (mz_set (mz_set w 72 r72_1) 73 r73_1) 72 Ve1 (nI Ve2))) rfl ?_
              refine mz_arr (c' := (229, [some (.ref 65), some (.int xa), some (.int 1), some (.int (nI A)), some (.int (nI k)), some (.int x5_1), some (.int x6_1), some (.int (nI Ve1)), some (.int (nI Ve2))], [], mz_up (mz_up (mz_set (mz_set w 72 r72_1) 73 r73_1) 72 Ve1 (nI Ve2)) 73 ((nI Ve2).toNatClampNeg) (nI Ve1))) rfl (show mz_in (nI Ve2) 10 = true from sm_inN rfl (show Ve2 < 10 by omega) (by decide)) ?_
              rw [show (nI Ve2 : Int32).toNatClampNeg = Ve2 from sm_clN rfl (show Ve2 < 2 ^ 31 by omega)]
              refine mz_go 2 (c' := (88, [some (.ref 65), some (.int xa), some (.int 1), some (.int (nI A)), some (.int ((nI k) + 1)), some (.int x5_1), some (.int x6_1), some (.int (nI Ve1)), some (.int (nI Ve2))], [], mz_up (mz_up (mz_set (mz_set w 72 r72_1) 73 r73_1) 72 Ve1 (nI Ve2)) 73 Ve2 (nI Ve1))) rfl ?_
              exact hr
            · by_cases q7 : (r73_1 Ve2) = (nI Ve1)
              · obtain ⟨vr, mr, hr, hsc⟩ := ih (k + 1) (by omega) 1 (some (.int x5_1)) (some (.int x6_1)) (some (.int (nI Ve1))) (some (.int (nI Ve2))) ((mz_up (mz_up (mz_set (mz_set w 72 r72_1) 73 r73_1) 72 Ve1 (nI Ve2)) 73 Ve2 (nI Ve1)) 72) ((mz_up (mz_up (mz_set (mz_set w 72 r72_1) 73 r73_1) 72 Ve1 (nI Ve2)) 73 Ve2 (nI Ve1)) 73)
                rw [nI_succ k] at hr
                have hm : mz_up (mz_up (mz_set (mz_set w 72 r72_1) 73 r73_1) 72 Ve1 (nI Ve2)) 73 Ve2 (nI Ve1) = mz_set (mz_set w 72 ((mz_up (mz_up (mz_set (mz_set w 72 r72_1) 73 r73_1) 72 Ve1 (nI Ve2)) 73 Ve2 (nI Ve1)) 72)) 73 ((mz_up (mz_up (mz_set (mz_set w 72 r72_1) 73 r73_1) 72 Ve1 (nI Ve2)) 73 Ve2 (nI Ve1)) 73) := sm_of2 (fun i h1 h2 => by simp only [mz_set_ne h1, mz_set_ne h2, mz_up_ne h1, mz_up_ne h2])
                rw [← hm] at hr
                refine ⟨vr, mr, ?_, hsc⟩
                refine mz_go 3 (c' := (142, [some (.ref 65), some (.int xa), some (.int x2), some (.int (nI A)), some (.int (nI k)), some (.int x5_1), some (.int x6_1), some (.int x7_1), x8_1], [.int (nI k), .int (nI A), .ref 65], mz_set (mz_set w 72 r72_1) 73 r73_1)) rfl ?_
                refine mz_doQ (R := mz_r186) (as := [.ref 65, .int (nI A), .int (nI k)]) (rest := []) (r1 := some (.int (nI Ve1))) (m1 := mz_set (mz_set w 72 r72_1) 73 r73_1) mz_t186 mz_v186_65 rfl rfl rfl rfl rfl (Ee1.deep (by decide)) ?_
                refine mz_go 4 (c' := (152, [some (.ref 65), some (.int xa), some (.int x2), some (.int (nI A)), some (.int (nI k)), some (.int x5_1), some (.int x6_1), some (.int (nI Ve1)), x8_1], [.int x6_1, .int x5_1, .ref 65], mz_set (mz_set w 72 r72_1) 73 r73_1)) rfl ?_
                refine mz_doQ (R := mz_r186) (as := [.ref 65, .int x5_1, .int x6_1]) (rest := []) (r1 := some (.int (nI Ve2))) (m1 := mz_set (mz_set w 72 r72_1) 73 r73_1) mz_t186 mz_v186_65 rfl rfl rfl rfl rfl (Ee2.deep (by decide)) ?_
                refine mz_go 3 (c' := (if x2 = 0 then 209 else 161, [some (.ref 65), some (.int xa), some (.int x2), some (.int (nI A)), some (.int (nI k)), some (.int x5_1), some (.int x6_1), some (.int (nI Ve1)), some (.int (nI Ve2))], [], mz_set (mz_set w 72 r72_1) 73 r73_1)) rfl ?_
                refine mz_ifF q1 ?_
                refine mz_go 3 (c' := (167, [some (.ref 65), some (.int xa), some (.int x2), some (.int (nI A)), some (.int (nI k)), some (.int x5_1), some (.int x6_1), some (.int (nI Ve1)), some (.int (nI Ve2))], [.int (nI Ve1), .ref 72], mz_set (mz_set w 72 r72_1) 73 r73_1)) rfl ?_
                refine mz_arr (c' := (168, [some (.ref 65), some (.int xa), some (.int x2), some (.int (nI A)), some (.int (nI k)), some (.int x5_1), some (.int x6_1), some (.int (nI Ve1)), some (.int (nI Ve2))], [.int (r72_1 ((nI Ve1).toNatClampNeg))], mz_set (mz_set w 72 r72_1) 73 r73_1)) rfl (show mz_in (nI Ve1) 10 = true from sm_inN rfl (show Ve1 < 10 by omega) (by decide)) ?_
                rw [show (nI Ve1 : Int32).toNatClampNeg = Ve1 from sm_clN rfl (show Ve1 < 2 ^ 31 by omega)]
                refine mz_go 1 (c' := (if (r72_1 Ve1) < 0 then 183 else 171, [some (.ref 65), some (.int xa), some (.int x2), some (.int (nI A)), some (.int (nI k)), some (.int x5_1), some (.int x6_1), some (.int (nI Ve1)), some (.int (nI Ve2))], [], mz_set (mz_set w 72 r72_1) 73 r73_1)) rfl ?_
                refine mz_ifF q2 ?_
                refine mz_go 3 (c' := (177, [some (.ref 65), some (.int xa), some (.int x2), some (.int (nI A)), some (.int (nI k)), some (.int x5_1), some (.int x6_1), some (.int (nI Ve1)), some (.int (nI Ve2))], [.int (nI Ve1), .ref 72], mz_set (mz_set w 72 r72_1) 73 r73_1)) rfl ?_
                refine mz_arr (c' := (178, [some (.ref 65), some (.int xa), some (.int x2), some (.int (nI A)), some (.int (nI k)), some (.int x5_1), some (.int x6_1), some (.int (nI Ve1)), some (.int (nI Ve2))], [.int (r72_1 ((nI Ve1).toNatClampNeg))], mz_set (mz_set w 72 r72_1) 73 r73_1)) rfl (show mz_in (nI Ve1) 10 = true from sm_inN rfl (show Ve1 < 10 by omega) (by decide)) ?_
                rw [show (nI Ve1 : Int32).toNatClampNeg = Ve1 from sm_clN rfl (show Ve1 < 2 ^ 31 by omega)]
                refine mz_go 2 (c' := (if (r72_1 Ve1) = (nI Ve2) then 183 else 209, [some (.ref 65), some (.int xa), some (.int x2), some (.int (nI A)), some (.int (nI k)), some (.int x5_1), some (.int x6_1), some (.int (nI Ve1)), some (.int (nI Ve2))], [], mz_set (mz_set w 72 r72_1) 73 r73_1)) rfl ?_
                refine mz_ifT q5 ?_
                refine mz_go 3 (c' := (189, [some (.ref 65), some (.int xa), some (.int x2), some (.int (nI A)), some (.int (nI k)), some (.int x5_1), some (.int x6_1), some (.int (nI Ve1)), some (.int (nI Ve2))], [.int (nI Ve2), .ref 73], mz_set (mz_set w 72 r72_1) 73 r73_1)) rfl ?_
                refine mz_arr (c' := (190, [some (.ref 65), some (.int xa), some (.int x2), some (.int (nI A)), some (.int (nI k)), some (.int x5_1), some (.int x6_1), some (.int (nI Ve1)), some (.int (nI Ve2))], [.int (r73_1 ((nI Ve2).toNatClampNeg))], mz_set (mz_set w 72 r72_1) 73 r73_1)) rfl (show mz_in (nI Ve2) 10 = true from sm_inN rfl (show Ve2 < 10 by omega) (by decide)) ?_
                rw [show (nI Ve2 : Int32).toNatClampNeg = Ve2 from sm_clN rfl (show Ve2 < 2 ^ 31 by omega)]
                refine mz_go 1 (c' := (if (r73_1 Ve2) < 0 then 205 else 193, [some (.ref 65), some (.int xa), some (.int x2), some (.int (nI A)), some (.int (nI k)), some (.int x5_1), some (.int x6_1), some (.int (nI Ve1)), some (.int (nI Ve2))], [], mz_set (mz_set w 72 r72_1) 73 r73_1)) rfl ?_
                refine mz_ifF q6 ?_
                refine mz_go 3 (c' := (199, [some (.ref 65), some (.int xa), some (.int x2), some (.int (nI A)), some (.int (nI k)), some (.int x5_1), some (.int x6_1), some (.int (nI Ve1)), some (.int (nI Ve2))], [.int (nI Ve2), .ref 73], mz_set (mz_set w 72 r72_1) 73 r73_1)) rfl ?_
                refine mz_arr (c' := (200, [some (.ref 65), some (.int xa), some (.int x2), some (.int (nI A)), some (.int (nI k)), some (.int x5_1), some (.int x6_1), some (.int (nI Ve1)), some (.int (nI Ve2))], [.int (r73_1 ((nI Ve2).toNatClampNeg))], mz_set (mz_set w 72 r72_1) 73 r73_1)) rfl (show mz_in (nI Ve2) 10 = true from sm_inN rfl (show Ve2 < 10 by omega) (by decide)) ?_
                rw [show (nI Ve2 : Int32).toNatClampNeg = Ve2 from sm_clN rfl (show Ve2 < 2 ^ 31 by omega)]
                refine mz_go 2 (c' := (if (r73_1 Ve2) = (nI Ve1) then 205 else 209, [some (.ref 65), some (.int xa), some (.int x2), some (.int (nI A)), some (.int (nI k)), some (.int x5_1), some (.int x6_1), some (.int (nI Ve1)), some (.int (nI Ve2))], [], mz_set (mz_set w 72 r72_1) 73 r73_1)) rfl ?_
                refine mz_ifT q7 ?_
                refine mz_go 7 (c' := (219, [some (.ref 65), some (.int xa), some (.int 1), some (.int (nI A)), some (.int (nI k)), some (.int x5_1), some (.int x6_1), some (.int (nI Ve1)), some (.int (nI Ve2))], [.int (nI Ve2), .int (nI Ve1), .ref 72], mz_set (mz_set w 72 r72_1) 73 r73_1)) rfl ?_
                refine mz_arr (c' := (220, [some (.ref 65), some (.int xa), some (.int 1), some (.int (nI A)), some (.int (nI k)), some (.int x5_1), some (.int x6_1), some (.int (nI Ve1)), some (.int (nI Ve2))], [], mz_up (mz_set (mz_set w 72 r72_1) 73 r73_1) 72 ((nI Ve1).toNatClampNeg) (nI Ve2))) rfl (show mz_in (nI Ve1) 10 = true from sm_inN rfl (show Ve1 < 10 by omega) (by decide)) ?_
                rw [show (nI Ve1 : Int32).toNatClampNeg = Ve1 from sm_clN rfl (show Ve1 < 2 ^ 31 by omega)]
                refine mz_go 4 (c' := (228, [some (.ref 65), some (.int xa), some (.int 1), some (.int (nI A)), some (.int (nI k)), some (.int x5_1), some (.int x6_1), some (.int (nI Ve1)), some (.int (nI Ve2))], [.int (nI Ve1), .int (nI Ve2), .ref 73], mz_up (mz_set (mz_set w 72 r72_1) 73 r73_1) 72 Ve1 (nI Ve2))) rfl ?_
                refine mz_arr (c' := (229, [some (.ref 65), some (.int xa), some (.int 1), some (.int (nI A)), some (.int (nI k)), some (.int x5_1), some (.int x6_1), some (.int (nI Ve1)), some (.int (nI Ve2))], [], mz_up (mz_up (mz_set (mz_set w 72 r72_1) 73 r73_1) 72 Ve1 (nI Ve2)) 73 ((nI Ve2).toNatClampNeg) (nI Ve1))) rfl (show mz_in (nI Ve2) 10 = true from sm_inN rfl (show Ve2 < 10 by omega) (by decide)) ?_
                rw [show (nI Ve2 : Int32).toNatClampNeg = Ve2 from sm_clN rfl (show Ve2 < 2 ^ 31 by omega)]
                refine mz_go 2 (c' := (88, [some (.ref 65), some (.int xa), some (.int 1), some (.int (nI A)), some (.int ((nI k) + 1)), some (.int x5_1), some (.int x6_1), some (.int (nI Ve1)), some (.int (nI Ve2))], [], mz_up (mz_up (mz_set (mz_set w 72 r72_1) 73 r73_1) 72 Ve1 (nI Ve2)) 73 Ve2 (nI Ve1))) rfl ?_
                exact hr
              · obtain ⟨vr, mr, hr, hsc⟩ := ih (k + 1) (by omega) 0 (some (.int x5_1)) (some (.int x6_1)) (some (.int (nI Ve1))) (some (.int (nI Ve2))) ((mz_up (mz_up (mz_set (mz_set w 72 r72_1) 73 r73_1) 72 Ve1 (nI Ve2)) 73 Ve2 (nI Ve1)) 72) ((mz_up (mz_up (mz_set (mz_set w 72 r72_1) 73 r73_1) 72 Ve1 (nI Ve2)) 73 Ve2 (nI Ve1)) 73)
                rw [nI_succ k] at hr
                have hm : mz_up (mz_up (mz_set (mz_set w 72 r72_1) 73 r73_1) 72 Ve1 (nI Ve2)) 73 Ve2 (nI Ve1) = mz_set (mz_set w 72 ((mz_up (mz_up (mz_set (mz_set w 72 r72_1) 73 r73_1) 72 Ve1 (nI Ve2)) 73 Ve2 (nI Ve1)) 72)) 73 ((mz_up (mz_up (mz_set (mz_set w 72 r72_1) 73 r73_1) 72 Ve1 (nI Ve2)) 73 Ve2 (nI Ve1)) 73) := sm_of2 (fun i h1 h2 => by simp only [mz_set_ne h1, mz_set_ne h2, mz_up_ne h1, mz_up_ne h2])
                rw [← hm] at hr
                refine ⟨vr, mr, ?_, hsc⟩
                refine mz_go 3 (c' := (142, [some (.ref 65), some (.int xa), some (.int x2), some (.int (nI A)), some (.int (nI k)), some (.int x5_1), some (.int x6_1), some (.int x7_1), x8_1], [.int (nI k), .int (nI A), .ref 65], mz_set (mz_set w 72 r72_1) 73 r73_1)) rfl ?_
                refine mz_doQ (R := mz_r186) (as := [.ref 65, .int (nI A), .int (nI k)]) (rest := []) (r1 := some (.int (nI Ve1))) (m1 := mz_set (mz_set w 72 r72_1) 73 r73_1) mz_t186 mz_v186_65 rfl rfl rfl rfl rfl (Ee1.deep (by decide)) ?_
                refine mz_go 4 (c' := (152, [some (.ref 65), some (.int xa), some (.int x2), some (.int (nI A)), some (.int (nI k)), some (.int x5_1), some (.int x6_1), some (.int (nI Ve1)), x8_1], [.int x6_1, .int x5_1, .ref 65], mz_set (mz_set w 72 r72_1) 73 r73_1)) rfl ?_
                refine mz_doQ (R := mz_r186) (as := [.ref 65, .int x5_1, .int x6_1]) (rest := []) (r1 := some (.int (nI Ve2))) (m1 := mz_set (mz_set w 72 r72_1) 73 r73_1) mz_t186 mz_v186_65 rfl rfl rfl rfl rfl (Ee2.deep (by decide)) ?_
                refine mz_go 3 (c' := (if x2 = 0 then 209 else 161, [some (.ref 65), some (.int xa), some (.int x2), some (.int (nI A)), some (.int (nI k)), some (.int x5_1), some (.int x6_1), some (.int (nI Ve1)), some (.int (nI Ve2))], [], mz_set (mz_set w 72 r72_1) 73 r73_1)) rfl ?_
                refine mz_ifF q1 ?_
                refine mz_go 3 (c' := (167, [some (.ref 65), some (.int xa), some (.int x2), some (.int (nI A)), some (.int (nI k)), some (.int x5_1), some (.int x6_1), some (.int (nI Ve1)), some (.int (nI Ve2))], [.int (nI Ve1), .ref 72], mz_set (mz_set w 72 r72_1) 73 r73_1)) rfl ?_
                refine mz_arr (c' := (168, [some (.ref 65), some (.int xa), some (.int x2), some (.int (nI A)), some (.int (nI k)), some (.int x5_1), some (.int x6_1), some (.int (nI Ve1)), some (.int (nI Ve2))], [.int (r72_1 ((nI Ve1).toNatClampNeg))], mz_set (mz_set w 72 r72_1) 73 r73_1)) rfl (show mz_in (nI Ve1) 10 = true from sm_inN rfl (show Ve1 < 10 by omega) (by decide)) ?_
                rw [show (nI Ve1 : Int32).toNatClampNeg = Ve1 from sm_clN rfl (show Ve1 < 2 ^ 31 by omega)]
                refine mz_go 1 (c' := (if (r72_1 Ve1) < 0 then 183 else 171, [some (.ref 65), some (.int xa), some (.int x2), some (.int (nI A)), some (.int (nI k)), some (.int x5_1), some (.int x6_1), some (.int (nI Ve1)), some (.int (nI Ve2))], [], mz_set (mz_set w 72 r72_1) 73 r73_1)) rfl ?_
                refine mz_ifF q2 ?_
                refine mz_go 3 (c' := (177, [some (.ref 65), some (.int xa), some (.int x2), some (.int (nI A)), some (.int (nI k)), some (.int x5_1), some (.int x6_1), some (.int (nI Ve1)), some (.int (nI Ve2))], [.int (nI Ve1), .ref 72], mz_set (mz_set w 72 r72_1) 73 r73_1)) rfl ?_
                refine mz_arr (c' := (178, [some (.ref 65), some (.int xa), some (.int x2), some (.int (nI A)), some (.int (nI k)), some (.int x5_1), some (.int x6_1), some (.int (nI Ve1)), some (.int (nI Ve2))], [.int (r72_1 ((nI Ve1).toNatClampNeg))], mz_set (mz_set w 72 r72_1) 73 r73_1)) rfl (show mz_in (nI Ve1) 10 = true from sm_inN rfl (show Ve1 < 10 by omega) (by decide)) ?_
                rw [show (nI Ve1 : Int32).toNatClampNeg = Ve1 from sm_clN rfl (show Ve1 < 2 ^ 31 by omega)]
                refine mz_go 2 (c' := (if (r72_1 Ve1) = (nI Ve2) then 183 else 209, [some (.ref 65), some (.int xa), some (.int x2), some (.int (nI A)), some (.int (nI k)), some (.int x5_1), some (.int x6_1), some (.int (nI Ve1)), some (.int (nI Ve2))], [], mz_set (mz_set w 72 r72_1) 73 r73_1)) rfl ?_
                refine mz_ifT q5 ?_
                refine mz_go 3 (c' := (189, [some (.ref 65), some (.int xa), some (.int x2), some (.int (nI A)), some (.int (nI k)), some (.int x5_1), some (.int x6_1), some (.int (nI Ve1)), some (.int (nI Ve2))], [.int (nI Ve2), .ref 73], mz_set (mz_set w 72 r72_1) 73 r73_1)) rfl ?_
                refine mz_arr (c' := (190, [some (.ref 65), some (.int xa), some (.int x2), some (.int (nI A)), some (.int (nI k)), some (.int x5_1), some (.int x6_1), some (.int (nI Ve1)), some (.int (nI Ve2))], [.int (r73_1 ((nI Ve2).toNatClampNeg))], mz_set (mz_set w 72 r72_1) 73 r73_1)) rfl (show mz_in (nI Ve2) 10 = true from sm_inN rfl (show Ve2 < 10 by omega) (by decide)) ?_
                rw [show (nI Ve2 : Int32).toNatClampNeg = Ve2 from sm_clN rfl (show Ve2 < 2 ^ 31 by omega)]
                refine mz_go 1 (c' := (if (r73_1 Ve2) < 0 then 205 else 193, [some (.ref 65), some (.int xa), some (.int x2), some (.int (nI A)), some (.int (nI k)), some (.int x5_1), some (.int x6_1), some (.int (nI Ve1)), some (.int (nI Ve2))], [], mz_set (mz_set w 72 r72_1) 73 r73_1)) rfl ?_
                refine mz_ifF q6 ?_
                refine mz_go 3 (c' := (199, [some (.ref 65), some (.int xa), some (.int x2), some (.int (nI A)), some (.int (nI k)), some (.int x5_1), some (.int x6_1), some (.int (nI Ve1)), some (.int (nI Ve2))], [.int (nI Ve2), .ref 73], mz_set (mz_set w 72 r72_1) 73 r73_1)) rfl ?_
                refine mz_arr (c' := (200, [some (.ref 65), some (.int xa), some (.int x2), some (.int (nI A)), some (.int (nI k)), some (.int x5_1), some (.int x6_1), some (.int (nI Ve1)), some (.int (nI Ve2))], [.int (r73_1 ((nI Ve2).toNatClampNeg))], mz_set (mz_set w 72 r72_1) 73 r73_1)) rfl (show mz_in (nI Ve2) 10 = true from sm_inN rfl (show Ve2 < 10 by omega) (by decide)) ?_
                rw [show (nI Ve2 : Int32).toNatClampNeg = Ve2 from sm_clN rfl (show Ve2 < 2 ^ 31 by omega)]
                refine mz_go 2 (c' := (if (r73_1 Ve2) = (nI Ve1) then 205 else 209, [some (.ref 65), some (.int xa), some (.int x2), some (.int (nI A)), some (.int (nI k)), some (.int x5_1), some (.int x6_1), some (.int (nI Ve1)), some (.int (nI Ve2))], [], mz_set (mz_set w 72 r72_1) 73 r73_1)) rfl ?_
                refine mz_ifF q7 ?_
                refine mz_go 6 (c' := (219, [some (.ref 65), some (.int xa), some (.int 0), some (.int (nI A)), some (.int (nI k)), some (.int x5_1), some (.int x6_1), some (.int (nI Ve1)), some (.int (nI Ve2))], [.int (nI Ve2), .int (nI Ve1), .ref 72], mz_set (mz_set w 72 r72_1) 73 r73_1)) rfl ?_
                refine mz_arr (c' := (220, [some (.ref 65), some (.int xa), some (.int 0), some (.int (nI A)), some (.int (nI k)), some (.int x5_1), some (.int x6_1), some (.int (nI Ve1)), some (.int (nI Ve2))], [], mz_up (mz_set (mz_set w 72 r72_1) 73 r73_1) 72 ((nI Ve1).toNatClampNeg) (nI Ve2))) rfl (show mz_in (nI Ve1) 10 = true from sm_inN rfl (show Ve1 < 10 by omega) (by decide)) ?_
                rw [show (nI Ve1 : Int32).toNatClampNeg = Ve1 from sm_clN rfl (show Ve1 < 2 ^ 31 by omega)]
                refine mz_go 4 (c' := (228, [some (.ref 65), some (.int xa), some (.int 0), some (.int (nI A)), some (.int (nI k)), some (.int x5_1), some (.int x6_1), some (.int (nI Ve1)), some (.int (nI Ve2))], [.int (nI Ve1), .int (nI Ve2), .ref 73], mz_up (mz_set (mz_set w 72 r72_1) 73 r73_1) 72 Ve1 (nI Ve2))) rfl ?_
                refine mz_arr (c' := (229, [some (.ref 65), some (.int xa), some (.int 0), some (.int (nI A)), some (.int (nI k)), some (.int x5_1), some (.int x6_1), some (.int (nI Ve1)), some (.int (nI Ve2))], [], mz_up (mz_up (mz_set (mz_set w 72 r72_1) 73 r73_1) 72 Ve1 (nI Ve2)) 73 ((nI Ve2).toNatClampNeg) (nI Ve1))) rfl (show mz_in (nI Ve2) 10 = true from sm_inN rfl (show Ve2 < 10 by omega) (by decide)) ?_
                rw [show (nI Ve2 : Int32).toNatClampNeg = Ve2 from sm_clN rfl (show Ve2 < 2 ^ 31 by omega)]
                refine mz_go 2 (c' := (88, [some (.ref 65), some (.int xa), some (.int 0), some (.int (nI A)), some (.int ((nI k) + 1)), some (.int x5_1), some (.int x6_1), some (.int (nI Ve1)), some (.int (nI Ve2))], [], mz_up (mz_up (mz_set (mz_set w 72 r72_1) 73 r73_1) 72 Ve1 (nI Ve2)) 73 Ve2 (nI Ve1))) rfl ?_
                exact hr
          · obtain ⟨vr, mr, hr, hsc⟩ := ih (k + 1) (by omega) 0 (some (.int x5_1)) (some (.int x6_1)) (some (.int (nI Ve1))) (some (.int (nI Ve2))) ((mz_up (mz_up (mz_set (mz_set w 72 r72_1) 73 r73_1) 72 Ve1 (nI Ve2)) 73 Ve2 (nI Ve1)) 72) ((mz_up (mz_up (mz_set (mz_set w 72 r72_1) 73 r73_1) 72 Ve1 (nI Ve2)) 73 Ve2 (nI Ve1)) 73)
            rw [nI_succ k] at hr
            have hm : mz_up (mz_up (mz_set (mz_set w 72 r72_1) 73 r73_1) 72 Ve1 (nI Ve2)) 73 Ve2 (nI Ve1) = mz_set (mz_set w 72 ((mz_up (mz_up (mz_set (mz_set w 72 r72_1) 73 r73_1) 72 Ve1 (nI Ve2)) 73 Ve2 (nI Ve1)) 72)) 73 ((mz_up (mz_up (mz_set (mz_set w 72 r72_1) 73 r73_1) 72 Ve1 (nI Ve2)) 73 Ve2 (nI Ve1)) 73) := sm_of2 (fun i h1 h2 => by simp only [mz_set_ne h1, mz_set_ne h2, mz_up_ne h1, mz_up_ne h2])
            rw [← hm] at hr
            refine ⟨vr, mr, ?_, hsc⟩
            refine mz_go 3 (c' := (142, [some (.ref 65), some (.int xa), some (.int x2), some (.int (nI A)), some (.int (nI k)), some (.int x5_1), some (.int x6_1), some (.int x7_1), x8_1], [.int (nI k), .int (nI A), .ref 65], mz_set (mz_set w 72 r72_1) 73 r73_1)) rfl ?_
            refine mz_doQ (R := mz_r186) (as := [.ref 65, .int (nI A), .int (nI k)]) (rest := []) (r1 := some (.int (nI Ve1))) (m1 := mz_set (mz_set w 72 r72_1) 73 r73_1) mz_t186 mz_v186_65 rfl rfl rfl rfl rfl (Ee1.deep (by decide)) ?_
            refine mz_go 4 (c' := (152, [some (.ref 65), some (.int xa), some (.int x2), some (.int (nI A)), some (.int (nI k)), some (.int x5_1), some (.int x6_1), some (.int (nI Ve1)), x8_1], [.int x6_1, .int x5_1, .ref 65], mz_set (mz_set w 72 r72_1) 73 r73_1)) rfl ?_
            refine mz_doQ (R := mz_r186) (as := [.ref 65, .int x5_1, .int x6_1]) (rest := []) (r1 := some (.int (nI Ve2))) (m1 := mz_set (mz_set w 72 r72_1) 73 r73_1) mz_t186 mz_v186_65 rfl rfl rfl rfl rfl (Ee2.deep (by decide)) ?_
            refine mz_go 3 (c' := (if x2 = 0 then 209 else 161, [some (.ref 65), some (.int xa), some (.int x2), some (.int (nI A)), some (.int (nI k)), some (.int x5_1), some (.int x6_1), some (.int (nI Ve1)), some (.int (nI Ve2))], [], mz_set (mz_set w 72 r72_1) 73 r73_1)) rfl ?_
            refine mz_ifF q1 ?_
            refine mz_go 3 (c' := (167, [some (.ref 65), some (.int xa), some (.int x2), some (.int (nI A)), some (.int (nI k)), some (.int x5_1), some (.int x6_1), some (.int (nI Ve1)), some (.int (nI Ve2))], [.int (nI Ve1), .ref 72], mz_set (mz_set w 72 r72_1) 73 r73_1)) rfl ?_
            refine mz_arr (c' := (168, [some (.ref 65), some (.int xa), some (.int x2), some (.int (nI A)), some (.int (nI k)), some (.int x5_1), some (.int x6_1), some (.int (nI Ve1)), some (.int (nI Ve2))], [.int (r72_1 ((nI Ve1).toNatClampNeg))], mz_set (mz_set w 72 r72_1) 73 r73_1)) rfl (show mz_in (nI Ve1) 10 = true from sm_inN rfl (show Ve1 < 10 by omega) (by decide)) ?_
            rw [show (nI Ve1 : Int32).toNatClampNeg = Ve1 from sm_clN rfl (show Ve1 < 2 ^ 31 by omega)]
            refine mz_go 1 (c' := (if (r72_1 Ve1) < 0 then 183 else 171, [some (.ref 65), some (.int xa), some (.int x2), some (.int (nI A)), some (.int (nI k)), some (.int x5_1), some (.int x6_1), some (.int (nI Ve1)), some (.int (nI Ve2))], [], mz_set (mz_set w 72 r72_1) 73 r73_1)) rfl ?_
            refine mz_ifF q2 ?_
            refine mz_go 3 (c' := (177, [some (.ref 65), some (.int xa), some (.int x2), some (.int (nI A)), some (.int (nI k)), some (.int x5_1), some (.int x6_1), some (.int (nI Ve1)), some (.int (nI Ve2))], [.int (nI Ve1), .ref 72], mz_set (mz_set w 72 r72_1) 73 r73_1)) rfl ?_
            refine mz_arr (c' := (178, [some (.ref 65), some (.int xa), some (.int x2), some (.int (nI A)), some (.int (nI k)), some (.int x5_1), some (.int x6_1), some (.int (nI Ve1)), some (.int (nI Ve2))], [.int (r72_1 ((nI Ve1).toNatClampNeg))], mz_set (mz_set w 72 r72_1) 73 r73_1)) rfl (show mz_in (nI Ve1) 10 = true from sm_inN rfl (show Ve1 < 10 by omega) (by decide)) ?_
            rw [show (nI Ve1 : Int32).toNatClampNeg = Ve1 from sm_clN rfl (show Ve1 < 2 ^ 31 by omega)]
            refine mz_go 2 (c' := (if (r72_1 Ve1) = (nI Ve2) then 183 else 209, [some (.ref 65), some (.int xa), some (.int x2), some (.int (nI A)), some (.int (nI k)), some (.int x5_1), some (.int x6_1), some (.int (nI Ve1)), some (.int (nI Ve2))], [], mz_set (mz_set w 72 r72_1) 73 r73_1)) rfl ?_
            refine mz_ifF q5 ?_
            refine mz_go 6 (c' := (219, [some (.ref 65), some (.int xa), some (.int 0), some (.int (nI A)), some (.int (nI k)), some (.int x5_1), some (.int x6_1), some (.int (nI Ve1)), some (.int (nI Ve2))], [.int (nI Ve2), .int (nI Ve1), .ref 72], mz_set (mz_set w 72 r72_1) 73 r73_1)) rfl ?_
            refine mz_arr (c' := (220, [some (.ref 65), some (.int xa), some (.int 0), some (.int (nI A)), some (.int (nI k)), some (.int x5_1), some (.int x6_1), some (.int (nI Ve1)), some (.int (nI Ve2))], [], mz_up (mz_set (mz_set w 72 r72_1) 73 r73_1) 72 ((nI Ve1).toNatClampNeg) (nI Ve2))) rfl (show mz_in (nI Ve1) 10 = true from sm_inN rfl (show Ve1 < 10 by omega) (by decide)) ?_
            rw [show (nI Ve1 : Int32).toNatClampNeg = Ve1 from sm_clN rfl (show Ve1 < 2 ^ 31 by omega)]
            refine mz_go 4 (c' := (228, [some (.ref 65), some (.int xa), some (.int 0), some (.int (nI A)), some (.int (nI k)), some (.int x5_1), some (.int x6_1), some (.int (nI Ve1)), some (.int (nI Ve2))], [.int (nI Ve1), .int (nI Ve2), .ref 73], mz_up (mz_set (mz_set w 72 r72_1) 73 r73_1) 72 Ve1 (nI Ve2))) rfl ?_
            refine mz_arr (c' := (229, [some (.ref 65), some (.int xa), some (.int 0), some (.int (nI A)), some (.int (nI k)), some (.int x5_1), some (.int x6_1), some (.int (nI Ve1)), some (.int (nI Ve2))], [], mz_up (mz_up (mz_set (mz_set w 72 r72_1) 73 r73_1) 72 Ve1 (nI Ve2)) 73 ((nI Ve2).toNatClampNeg) (nI Ve1))) rfl (show mz_in (nI Ve2) 10 = true from sm_inN rfl (show Ve2 < 10 by omega) (by decide)) ?_
            rw [show (nI Ve2 : Int32).toNatClampNeg = Ve2 from sm_clN rfl (show Ve2 < 2 ^ 31 by omega)]
            refine mz_go 2 (c' := (88, [some (.ref 65), some (.int xa), some (.int 0), some (.int (nI A)), some (.int ((nI k) + 1)), some (.int x5_1), some (.int x6_1), some (.int (nI Ve1)), some (.int (nI Ve2))], [], mz_up (mz_up (mz_set (mz_set w 72 r72_1) 73 r73_1) 72 Ve1 (nI Ve2)) 73 Ve2 (nI Ve1))) rfl ?_
            exact hr
    obtain ⟨vr, mr, hr, hsc⟩ := xr_turq hw hN hr5 hr80 hr2 h660 h6615 hWW hHH hWH h6660 h6661 hT2 hU2 hV2 hcol hq x2 (A := A) (B := k) (by omega) (by omega) HX1 ((xa : Int32).toInt - (0 : Int32).toInt + 1).toNat 0 (by omega) (nI A) A rfl (by omega) (nI k) k rfl (by omega) x8 ((mz_set (mz_set w 72 r72) 73 r73) 72) ((mz_set (mz_set w 72 r72) 73 r73) 73)
    have hm : mz_set (mz_set w 72 r72) 73 r73 = mz_set (mz_set w 72 ((mz_set (mz_set w 72 r72) 73 r73) 72)) 73 ((mz_set (mz_set w 72 r72) 73 r73) 73) := sm_of2 (fun i h1 h2 => by simp only [mz_set_ne h1, mz_set_ne h2])
    rw [← hm] at hr
    refine ⟨vr, mr, ?_, hsc⟩
    refine mz_go 2 (c' := (91, [some (.ref 65), some (.int xa), some (.int x2), some (.int (nI A)), some (.int (nI k)), x5, x6, x7, x8], [.ref 65, .int (nI k)], mz_set (mz_set w 72 r72) 73 r73)) rfl ?_
    refine mz_doQ (R := mz_r183) (as := [.ref 65]) (rest := [.int (nI k)]) (r1 := some (.int (nI WW))) (m1 := mz_set (mz_set w 72 r72) 73 r73) mz_t183 mz_v183_65 rfl rfl rfl rfl rfl ⟨?_, rfl⟩ ?_
    · refine mz_go 4 (c' := (7, [some (.ref 65)], [.int (w 66 60)], mz_set (mz_set w 72 r72) 73 r73)) rfl ?_
      rw [h6660]
      exact mz_ret rfl
    refine mz_go 1 (c' := (if (nI WW) ≤ (nI k) then 235 else 97, [some (.ref 65), some (.int xa), some (.int x2), some (.int (nI A)), some (.int (nI k)), x5, x6, x7, x8], [], mz_set (mz_set w 72 r72) 73 r73)) rfl ?_
    refine mz_ifF (show ¬ ((nI WW) ≤ (nI k)) from (sm_nleN rfl rfl (show k < WW by omega) (show WW < 2 ^ 31 by omega))) ?_
    refine mz_go 6 (c' := (107, [some (.ref 65), some (.int xa), some (.int x2), some (.int (nI A)), some (.int (nI k)), some (.int (nI A)), some (.int (nI k)), some (.int 0), x8], [], mz_set (mz_set w 72 r72) 73 r73)) rfl ?_
    exact hr
set_option maxHeartbeats 4000000 in
set_option maxRecDepth 100000 in
theorem xr_turi {w : mz_M} {N : Nat} (hw : sm_W w N) (hN : N ≤ 6) (hr5 : w 7 5 = 1 ∨ w 7 5 = 2) (hr80 : sm_N 80 (w 7 2)) (hr2 : sm_HR w (w 66)) (h660 : w 66 0 = nI N) (h6615 : w 66 15 = w 7 5) {WW HH : Nat} (hWW : WW ≤ 6) (hHH : HH ≤ 6) (hWH : WW = 0 ↔ HH = 0) (h6660 : w 66 60 = nI WW) (h6661 : w 66 61 = nI HH) {T2 : Nat} (hT2 : w 16 2 = nI T2) (hU2 : w 66 420 = nI T2) (hV2 : T2 = 0 ∨ sm_wf T2 5 (w 17) (w 18)) (hcol : ∀ i, i < 36 → sm_colB (w 66 (70 + i))) {xa : Int32} (hq : xa.toInt < 1000000) (HX : ∀ (x2 : Int32) (x4 : Option Value) (x5 : Option Value) (x6 : Option Value) (x7 : Option Value) (x8 : Option Value) (r72 : Nat → Int32) (r73 : Nat → Int32), ∃ v m', mz_Ex 100 mz_k201 (241, [some (.ref 65), some (.int xa), some (.int x2), some (.int (nI WW)), x4, x5, x6, x7, x8], [], mz_set (mz_set w 72 r72) 73 r73) (some (.int v), m') ∧ sm_Sc w m') : ∀ j k : Nat, k + j = WW → ∀ (x2 : Int32) (x4 : Option Value) (x5 : Option Value) (x6 : Option Value) (x7 : Option Value) (x8 : Option Value) (r72 : Nat → Int32) (r73 : Nat → Int32), ∃ v m', mz_Ex 100 mz_k201 (77, [some (.ref 65), some (.int xa), some (.int x2), some (.int (nI k)), x4, x5, x6, x7, x8], [], mz_set (mz_set w 72 r72) 73 r73) (some (.int v), m') ∧ sm_Sc w m' := by
  have hT60c := sm_T60 hV2
  intro j
  induction j with
  | zero =>
    intro k hk x2 x4 x5 x6 x7 x8 r72 r73
    rw [show k = WW by omega]
    obtain ⟨vr, mr, hr, hsc⟩ := HX x2 x4 x5 x6 x7 x8 ((mz_set (mz_set w 72 r72) 73 r73) 72) ((mz_set (mz_set w 72 r72) 73 r73) 73)
    have hm : mz_set (mz_set w 72 r72) 73 r73 = mz_set (mz_set w 72 ((mz_set (mz_set w 72 r72) 73 r73) 72)) 73 ((mz_set (mz_set w 72 r72) 73 r73) 73) := sm_of2 (fun i h1 h2 => by simp only [mz_set_ne h1, mz_set_ne h2])
    rw [← hm] at hr
    refine ⟨vr, mr, ?_, hsc⟩
    refine mz_go 2 (c' := (79, [some (.ref 65), some (.int xa), some (.int x2), some (.int (nI WW)), x4, x5, x6, x7, x8], [.ref 65, .int (nI WW)], mz_set (mz_set w 72 r72) 73 r73)) rfl ?_
    refine mz_doQ (R := mz_r183) (as := [.ref 65]) (rest := [.int (nI WW)]) (r1 := some (.int (nI WW))) (m1 := mz_set (mz_set w 72 r72) 73 r73) mz_t183 mz_v183_65 rfl rfl rfl rfl rfl ⟨?_, rfl⟩ ?_
    · refine mz_go 4 (c' := (7, [some (.ref 65)], [.int (w 66 60)], mz_set (mz_set w 72 r72) 73 r73)) rfl ?_
      rw [h6660]
      exact mz_ret rfl
    refine mz_go 1 (c' := (if (nI WW) ≤ (nI WW) then 241 else 85, [some (.ref 65), some (.int xa), some (.int x2), some (.int (nI WW)), x4, x5, x6, x7, x8], [], mz_set (mz_set w 72 r72) 73 r73)) rfl ?_
    refine mz_ifT (show ((nI WW) ≤ (nI WW)) from (sm_leN rfl rfl (show WW ≤ WW by omega) (show WW < 2 ^ 31 by omega))) ?_
    exact hr
  | succ j ih =>
    intro k hk x2 x4 x5 x6 x7 x8 r72 r73
    have HX2 : ∀ (x2_2 : Int32) (x5_2 : Option Value) (x6_2 : Option Value) (x7_2 : Option Value) (x8_2 : Option Value) (r72_2 : Nat → Int32) (r73_2 : Nat → Int32), ∃ v m', mz_Ex 100 mz_k201 (235, [some (.ref 65), some (.int xa), some (.int x2_2), some (.int (nI k)), some (.int (nI WW)), x5_2, x6_2, x7_2, x8_2], [], mz_set (mz_set w 72 r72_2) 73 r73_2) (some (.int v), m') ∧ sm_Sc w m' := by
      intro x2_2 x5_2 x6_2 x7_2 x8_2 r72_2 r73_2
      obtain ⟨vr, mr, hr, hsc⟩ := ih (k + 1) (by omega) x2_2 (some (.int (nI WW))) x5_2 x6_2 x7_2 x8_2 ((mz_set (mz_set w 72 r72_2) 73 r73_2) 72) ((mz_set (mz_set w 72 r72_2) 73 r73_2) 73)
      rw [nI_succ k] at hr
      have hm : mz_set (mz_set w 72 r72_2) 73 r73_2 = mz_set (mz_set w 72 ((mz_set (mz_set w 72 r72_2) 73 r73_2) 72)) 73 ((mz_set (mz_set w 72 r72_2) 73 r73_2) 73) := sm_of2 (fun i h1 h2 => by simp only [mz_set_ne h1, mz_set_ne h2])
      rw [← hm] at hr
      refine ⟨vr, mr, ?_, hsc⟩
      refine mz_go 2 (c' := (77, [some (.ref 65), some (.int xa), some (.int x2_2), some (.int ((nI k) + 1)), some (.int (nI WW)), x5_2, x6_2, x7_2, x8_2], [], mz_set (mz_set w 72 r72_2) 73 r73_2)) rfl ?_
      exact hr
    obtain ⟨vr, mr, hr, hsc⟩ := xr_turj hw hN hr5 hr80 hr2 h660 h6615 hWW hHH hWH h6660 h6661 hT2 hU2 hV2 hcol hq (A := k) (by omega) HX2 WW 0 (by omega) x2 x5 x6 x7 x8 ((mz_set (mz_set w 72 r72) 73 r73) 72) ((mz_set (mz_set w 72 r72) 73 r73) 73)
    have hm : mz_set (mz_set w 72 r72) 73 r73 = mz_set (mz_set w 72 ((mz_set (mz_set w 72 r72) 73 r73) 72)) 73 ((mz_set (mz_set w 72 r72) 73 r73) 73) := sm_of2 (fun i h1 h2 => by simp only [mz_set_ne h1, mz_set_ne h2])
    rw [← hm] at hr
    refine ⟨vr, mr, ?_, hsc⟩
    refine mz_go 2 (c' := (79, [some (.ref 65), some (.int xa), some (.int x2), some (.int (nI k)), x4, x5, x6, x7, x8], [.ref 65, .int (nI k)], mz_set (mz_set w 72 r72) 73 r73)) rfl ?_
    refine mz_doQ (R := mz_r183) (as := [.ref 65]) (rest := [.int (nI k)]) (r1 := some (.int (nI WW))) (m1 := mz_set (mz_set w 72 r72) 73 r73) mz_t183 mz_v183_65 rfl rfl rfl rfl rfl ⟨?_, rfl⟩ ?_
    · refine mz_go 4 (c' := (7, [some (.ref 65)], [.int (w 66 60)], mz_set (mz_set w 72 r72) 73 r73)) rfl ?_
      rw [h6660]
      exact mz_ret rfl
    refine mz_go 1 (c' := (if (nI WW) ≤ (nI k) then 241 else 85, [some (.ref 65), some (.int xa), some (.int x2), some (.int (nI k)), x4, x5, x6, x7, x8], [], mz_set (mz_set w 72 r72) 73 r73)) rfl ?_
    refine mz_ifF (show ¬ ((nI WW) ≤ (nI k)) from (sm_nleN rfl rfl (show k < WW by omega) (show WW < 2 ^ 31 by omega))) ?_
    refine mz_go 2 (c' := (88, [some (.ref 65), some (.int xa), some (.int x2), some (.int (nI k)), some (.int 0), x5, x6, x7, x8], [], mz_set (mz_set w 72 r72) 73 r73)) rfl ?_
    exact hr
set_option maxHeartbeats 4000000 in
set_option maxRecDepth 100000 in
theorem xr_turned {w : mz_M} {N : Nat} (hw : sm_W w N) (hN : N ≤ 6) (hr5 : w 7 5 = 1 ∨ w 7 5 = 2) (hr80 : sm_N 80 (w 7 2)) (hr2 : sm_HR w (w 66)) (h660 : w 66 0 = nI N) (h6615 : w 66 15 = w 7 5) {WW HH : Nat} (hWW : WW ≤ 6) (hHH : HH ≤ 6) (hWH : WW = 0 ↔ HH = 0) (h6660 : w 66 60 = nI WW) (h6661 : w 66 61 = nI HH) {T2 : Nat} (hT2 : w 16 2 = nI T2) (hU2 : w 66 420 = nI T2) (hV2 : T2 = 0 ∨ sm_wf T2 5 (w 17) (w 18)) (hcol : ∀ i, i < 36 → sm_colB (w 66 (70 + i))) (xa : Int32) : ∃ v m', mz_Me 100 mz_r201 [.ref 65, .int xa] w (some (.int v)) m' ∧ sm_Sc w m' := by
  have hT60c := sm_T60 hV2
  by_cases q1 : (sm_bI (sm_in xa 0 3)) = 0
  · refine ⟨(-1000001), mz_up w 68 1 ((w 68 1) + 1), ⟨?_, rfl⟩, ⟨fun i hi => (by simp only [mz_up_ne (sm_scne hi (r := 68) rfl)]), rfl, rfl⟩⟩
    refine mz_go 3 (c' := (3, [some (.ref 65), some (.int xa), none, none, none, none, none, none, none], [.int 3, .int 0, .int xa], w)) rfl ?_
    refine mz_doQ (R := mz_r128) (as := [.int xa, .int 0, .int 3]) (rest := []) (r1 := some (.int (sm_bI (sm_in xa 0 3)))) (m1 := w) mz_t128 mz_v128 rfl rfl rfl rfl rfl ((ct_in (m := w) xa 0 3).deep (by decide)) ?_
    refine mz_go 1 (c' := (if (sm_bI (sm_in xa 0 3)) = 0 then 9 else 15, [some (.ref 65), some (.int xa), none, none, none, none, none, none, none], [], w)) rfl ?_
    refine mz_ifT q1 ?_
    refine mz_go 2 (c' := (11, [some (.ref 65), some (.int xa), none, none, none, none, none, none, none], [.int 1, .ref 65], w)) rfl ?_
    refine mz_doQ (R := mz_r127) (as := [.ref 65, .int 1]) (rest := []) (r1 := some (.int (-1000001))) (m1 := mz_up w 68 1 ((w 68 1) + 1)) mz_t127 mz_v127_65 rfl rfl rfl rfl rfl ((ct_err1 (m := w)).deep (by decide)) ?_
    exact mz_ret rfl
  · by_cases q2 : WW ≤ 0
    · refine ⟨(-1000002), mz_up w 68 2 ((w 68 2) + 1), ⟨?_, rfl⟩, ⟨fun i hi => (by simp only [mz_up_ne (sm_scne hi (r := 68) rfl)]), rfl, rfl⟩⟩
      refine mz_go 3 (c' := (3, [some (.ref 65), some (.int xa), none, none, none, none, none, none, none], [.int 3, .int 0, .int xa], w)) rfl ?_
      refine mz_doQ (R := mz_r128) (as := [.int xa, .int 0, .int 3]) (rest := []) (r1 := some (.int 1)) (m1 := w) mz_t128 mz_v128 rfl rfl rfl rfl rfl ((ct_in1 (m := w) (v := xa) (a := 0) (b := 3) (show ¬ (xa < 0) from (sm_in_lo q1)) (show ¬ (3 < xa) from (sm_in_hi q1))).deep (by decide)) ?_
      refine mz_go 2 (c' := (16, [some (.ref 65), some (.int xa), none, none, none, none, none, none, none], [.ref 65], w)) rfl ?_
      refine mz_doQ (R := mz_r185) (as := [.ref 65]) (rest := []) (r1 := some (.int 0)) (m1 := w) mz_t185 mz_v185_65 rfl rfl rfl rfl rfl ⟨?_, rfl⟩ ?_
      · refine mz_go 1 (c' := (1, [some (.ref 65)], [.ref 65], w)) rfl ?_
        refine mz_doQ (R := mz_r183) (as := [.ref 65]) (rest := []) (r1 := some (.int (nI WW))) (m1 := w) mz_t183 mz_v183_65 rfl rfl rfl rfl rfl ⟨?_, rfl⟩ ?_
        · refine mz_go 4 (c' := (7, [some (.ref 65)], [.int (w 66 60)], w)) rfl ?_
          rw [h6660]
          exact mz_ret rfl
        refine mz_go 1 (c' := (if (nI WW) ≤ 0 then 11 else 7, [some (.ref 65)], [], w)) rfl ?_
        refine mz_ifT (show ((nI WW) ≤ 0) from (sm_leN rfl rfl (show WW ≤ 0 by omega) (show 0 < 2 ^ 31 by omega))) ?_
        refine mz_go 1 (c' := (12, [some (.ref 65)], [.int 0], w)) rfl ?_
        exact mz_ret rfl
      refine mz_go 3 (c' := (24, [some (.ref 65), some (.int xa), none, none, none, none, none, none, none], [.int 2, .ref 65], w)) rfl ?_
      refine mz_doQ (R := mz_r127) (as := [.ref 65, .int 2]) (rest := []) (r1 := some (.int (-1000002))) (m1 := mz_up w 68 2 ((w 68 2) + 1)) mz_t127 mz_v127_65 rfl rfl rfl rfl rfl ((ct_err2 (m := w)).deep (by decide)) ?_
      exact mz_ret rfl
    · by_cases q3 : WW = HH
      · have HX4 : ∀ (r72_3 : Nat → Int32) (r73_3 : Nat → Int32), ∃ v m', mz_Ex 100 mz_k201 (73, [some (.ref 65), some (.int xa), some (.int (nI 10)), none, none, none, none, none, none], [], mz_set (mz_set w 72 r72_3) 73 r73_3) (some (.int v), m') ∧ sm_Sc w m' := by
          intro r72_3 r73_3
          have HX4 : ∀ (x2_4 : Int32) (x4_4 : Option Value) (x5_4 : Option Value) (x6_4 : Option Value) (x7_4 : Option Value) (x8_4 : Option Value) (r72_4 : Nat → Int32) (r73_4 : Nat → Int32), ∃ v m', mz_Ex 100 mz_k201 (241, [some (.ref 65), some (.int xa), some (.int x2_4), some (.int (nI WW)), x4_4, x5_4, x6_4, x7_4, x8_4], [], mz_set (mz_set w 72 r72_4) 73 r73_4) (some (.int v), m') ∧ sm_Sc w m' := by
            intro x2_4 x4_4 x5_4 x6_4 x7_4 x8_4 r72_4 r73_4
            by_cases q4 : x2_4 = 0
            · refine ⟨0, mz_set (mz_set w 72 r72_4) 73 r73_4, ?_, ⟨fun i hi => (by simp only [mz_set_ne (sm_scne hi (r := 72) rfl), mz_set_ne (sm_scne hi (r := 73) rfl)]), rfl, rfl⟩⟩
              refine mz_go 2 (c' := (if x2_4 = 0 then 249 else 245, [some (.ref 65), some (.int xa), some (.int x2_4), some (.int (nI WW)), x4_4, x5_4, x6_4, x7_4, x8_4], [], mz_set (mz_set w 72 r72_4) 73 r73_4)) rfl ?_
              refine mz_ifT q4 ?_
              refine mz_go 1 (c' := (250, [some (.ref 65), some (.int xa), some (.int x2_4), some (.int (nI WW)), x4_4, x5_4, x6_4, x7_4, x8_4], [.int 0], mz_set (mz_set w 72 r72_4) 73 r73_4)) rfl ?_
              exact mz_ret rfl
            · refine ⟨1, mz_set (mz_set w 72 r72_4) 73 r73_4, ?_, ⟨fun i hi => (by simp only [mz_set_ne (sm_scne hi (r := 72) rfl), mz_set_ne (sm_scne hi (r := 73) rfl)]), rfl, rfl⟩⟩
              refine mz_go 2 (c' := (if x2_4 = 0 then 249 else 245, [some (.ref 65), some (.int xa), some (.int x2_4), some (.int (nI WW)), x4_4, x5_4, x6_4, x7_4, x8_4], [], mz_set (mz_set w 72 r72_4) 73 r73_4)) rfl ?_
              refine mz_ifF q4 ?_
              refine mz_go 2 (c' := (250, [some (.ref 65), some (.int xa), some (.int x2_4), some (.int (nI WW)), x4_4, x5_4, x6_4, x7_4, x8_4], [.int 1], mz_set (mz_set w 72 r72_4) 73 r73_4)) rfl ?_
              exact mz_ret rfl
          obtain ⟨vr, mr, hr, hsc⟩ := xr_turi hw hN hr5 hr80 hr2 h660 h6615 hWW hHH hWH h6660 h6661 hT2 hU2 hV2 hcol (sm_hq (sm_in_hi q1)) HX4 WW 0 (by omega) 1 none none none none none ((mz_set (mz_set w 72 r72_3) 73 r73_3) 72) ((mz_set (mz_set w 72 r72_3) 73 r73_3) 73)
          have hm : mz_set (mz_set w 72 r72_3) 73 r73_3 = mz_set (mz_set w 72 ((mz_set (mz_set w 72 r72_3) 73 r73_3) 72)) 73 ((mz_set (mz_set w 72 r72_3) 73 r73_3) 73) := sm_of2 (fun i h1 h2 => by simp only [mz_set_ne h1, mz_set_ne h2])
          rw [← hm] at hr
          refine ⟨vr, mr, ?_, hsc⟩
          refine mz_go 4 (c' := (77, [some (.ref 65), some (.int xa), some (.int 1), some (.int 0), none, none, none, none, none], [], mz_set (mz_set w 72 r72_3) 73 r73_3)) rfl ?_
          exact hr
        obtain ⟨vr, mr, hr, hsc⟩ := xr_tur0 hw hN hr5 hr80 hr2 h660 h6615 hWW hHH hWH h6660 h6661 hT2 hU2 hV2 hcol xa HX4 10 0 (by omega) ((w) 72) ((w) 73)
        have hm : w = mz_set (mz_set w 72 ((w) 72)) 73 ((w) 73) := sm_of2 (fun i h1 h2 => rfl)
        rw [← hm] at hr
        refine ⟨vr, mr, ⟨?_, rfl⟩, hsc⟩
        refine mz_go 3 (c' := (3, [some (.ref 65), some (.int xa), none, none, none, none, none, none, none], [.int 3, .int 0, .int xa], w)) rfl ?_
        refine mz_doQ (R := mz_r128) (as := [.int xa, .int 0, .int 3]) (rest := []) (r1 := some (.int 1)) (m1 := w) mz_t128 mz_v128 rfl rfl rfl rfl rfl ((ct_in1 (m := w) (v := xa) (a := 0) (b := 3) (show ¬ (xa < 0) from (sm_in_lo q1)) (show ¬ (3 < xa) from (sm_in_hi q1))).deep (by decide)) ?_
        refine mz_go 2 (c' := (16, [some (.ref 65), some (.int xa), none, none, none, none, none, none, none], [.ref 65], w)) rfl ?_
        refine mz_doQ (R := mz_r185) (as := [.ref 65]) (rest := []) (r1 := some (.int 1)) (m1 := w) mz_t185 mz_v185_65 rfl rfl rfl rfl rfl ⟨?_, rfl⟩ ?_
        · refine mz_go 1 (c' := (1, [some (.ref 65)], [.ref 65], w)) rfl ?_
          refine mz_doQ (R := mz_r183) (as := [.ref 65]) (rest := []) (r1 := some (.int (nI WW))) (m1 := w) mz_t183 mz_v183_65 rfl rfl rfl rfl rfl ⟨?_, rfl⟩ ?_
          · refine mz_go 4 (c' := (7, [some (.ref 65)], [.int (w 66 60)], w)) rfl ?_
            rw [h6660]
            exact mz_ret rfl
          refine mz_go 1 (c' := (if (nI WW) ≤ 0 then 11 else 7, [some (.ref 65)], [], w)) rfl ?_
          refine mz_ifF (show ¬ ((nI WW) ≤ 0) from (sm_nleN rfl rfl (show 0 < WW by omega) (show WW < 2 ^ 31 by omega))) ?_
          refine mz_go 2 (c' := (12, [some (.ref 65)], [.int 1], w)) rfl ?_
          exact mz_ret rfl
        refine mz_go 2 (c' := (29, [some (.ref 65), some (.int xa), none, none, none, none, none, none, none], [.ref 65], w)) rfl ?_
        refine mz_doQ (R := mz_r183) (as := [.ref 65]) (rest := []) (r1 := some (.int (nI WW))) (m1 := w) mz_t183 mz_v183_65 rfl rfl rfl rfl rfl ⟨?_, rfl⟩ ?_
        · refine mz_go 4 (c' := (7, [some (.ref 65)], [.int (w 66 60)], w)) rfl ?_
          rw [h6660]
          exact mz_ret rfl
        refine mz_go 1 (c' := (33, [some (.ref 65), some (.int xa), none, none, none, none, none, none, none], [.ref 65, .int (nI WW)], w)) rfl ?_
        refine mz_doQ (R := mz_r184) (as := [.ref 65]) (rest := [.int (nI WW)]) (r1 := some (.int (nI HH))) (m1 := w) mz_t184 mz_v184_65 rfl rfl rfl rfl rfl ⟨?_, rfl⟩ ?_
        · refine mz_go 4 (c' := (7, [some (.ref 65)], [.int (w 66 61)], w)) rfl ?_
          rw [h6661]
          exact mz_ret rfl
        refine mz_go 1 (c' := (if (nI WW) = (nI HH) then 45 else 39, [some (.ref 65), some (.int xa), none, none, none, none, none, none, none], [], w)) rfl ?_
        refine mz_ifT (show ((nI WW) = (nI HH)) from (sm_eqN rfl rfl (show WW = HH by omega))) ?_
        refine mz_go 2 (c' := (47, [some (.ref 65), some (.int xa), some (.int 0), none, none, none, none, none, none], [], w)) rfl ?_
        exact hr
      · refine ⟨(-1000003), mz_up w 68 3 ((w 68 3) + 1), ⟨?_, rfl⟩, ⟨fun i hi => (by simp only [mz_up_ne (sm_scne hi (r := 68) rfl)]), rfl, rfl⟩⟩
        refine mz_go 3 (c' := (3, [some (.ref 65), some (.int xa), none, none, none, none, none, none, none], [.int 3, .int 0, .int xa], w)) rfl ?_
        refine mz_doQ (R := mz_r128) (as := [.int xa, .int 0, .int 3]) (rest := []) (r1 := some (.int 1)) (m1 := w) mz_t128 mz_v128 rfl rfl rfl rfl rfl ((ct_in1 (m := w) (v := xa) (a := 0) (b := 3) (show ¬ (xa < 0) from (sm_in_lo q1)) (show ¬ (3 < xa) from (sm_in_hi q1))).deep (by decide)) ?_
        refine mz_go 2 (c' := (16, [some (.ref 65), some (.int xa), none, none, none, none, none, none, none], [.ref 65], w)) rfl ?_
        refine mz_doQ (R := mz_r185) (as := [.ref 65]) (rest := []) (r1 := some (.int 1)) (m1 := w) mz_t185 mz_v185_65 rfl rfl rfl rfl rfl ⟨?_, rfl⟩ ?_
        · refine mz_go 1 (c' := (1, [some (.ref 65)], [.ref 65], w)) rfl ?_
          refine mz_doQ (R := mz_r183) (as := [.ref 65]) (rest := []) (r1 := some (.int (nI WW))) (m1 := w) mz_t183 mz_v183_65 rfl rfl rfl rfl rfl ⟨?_, rfl⟩ ?_
          · refine mz_go 4 (c' := (7, [some (.ref 65)], [.int (w 66 60)], w)) rfl ?_
            rw [h6660]
            exact mz_ret rfl
          refine mz_go 1 (c' := (if (nI WW) ≤ 0 then 11 else 7, [some (.ref 65)], [], w)) rfl ?_
          refine mz_ifF (show ¬ ((nI WW) ≤ 0) from (sm_nleN rfl rfl (show 0 < WW by omega) (show WW < 2 ^ 31 by omega))) ?_
          refine mz_go 2 (c' := (12, [some (.ref 65)], [.int 1], w)) rfl ?_
          exact mz_ret rfl
        refine mz_go 2 (c' := (29, [some (.ref 65), some (.int xa), none, none, none, none, none, none, none], [.ref 65], w)) rfl ?_
        refine mz_doQ (R := mz_r183) (as := [.ref 65]) (rest := []) (r1 := some (.int (nI WW))) (m1 := w) mz_t183 mz_v183_65 rfl rfl rfl rfl rfl ⟨?_, rfl⟩ ?_
        · refine mz_go 4 (c' := (7, [some (.ref 65)], [.int (w 66 60)], w)) rfl ?_
          rw [h6660]
          exact mz_ret rfl
        refine mz_go 1 (c' := (33, [some (.ref 65), some (.int xa), none, none, none, none, none, none, none], [.ref 65, .int (nI WW)], w)) rfl ?_
        refine mz_doQ (R := mz_r184) (as := [.ref 65]) (rest := [.int (nI WW)]) (r1 := some (.int (nI HH))) (m1 := w) mz_t184 mz_v184_65 rfl rfl rfl rfl rfl ⟨?_, rfl⟩ ?_
        · refine mz_go 4 (c' := (7, [some (.ref 65)], [.int (w 66 61)], w)) rfl ?_
          rw [h6661]
          exact mz_ret rfl
        refine mz_go 1 (c' := (if (nI WW) = (nI HH) then 45 else 39, [some (.ref 65), some (.int xa), none, none, none, none, none, none, none], [], w)) rfl ?_
        refine mz_ifF (show ¬ ((nI WW) = (nI HH)) from (sm_neN rfl rfl (show WW ≠ HH by omega) (show WW < 2 ^ 31 by omega) (show HH < 2 ^ 31 by omega))) ?_
        refine mz_go 2 (c' := (41, [some (.ref 65), some (.int xa), none, none, none, none, none, none, none], [.int 3, .ref 65], w)) rfl ?_
        refine mz_doQ (R := mz_r127) (as := [.ref 65, .int 3]) (rest := []) (r1 := some (.int (-1000003))) (m1 := mz_up w 68 3 ((w 68 3) + 1)) mz_t127 mz_v127_65 rfl rfl rfl rfl rfl ((ct_err3 (m := w)).deep (by decide)) ?_
        exact mz_ret rfl
