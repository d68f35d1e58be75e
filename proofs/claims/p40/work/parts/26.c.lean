set_option maxHeartbeats 4000000 in
set_option maxRecDepth 100000 in
theorem xr_col {m : mz_M} {A B : Nat} (hA : A < 6) (hB : B < 6) {a b : Int32} (ea : a = nI A) (eb : b = nI B) : ∃ v, mz_Me 3 mz_r186 [.ref 65, .int a, .int b] m (some (.int v)) m := by
  subst ea
  subst eb
  refine ⟨m 66 ((70 + (6 * B)) + A), ⟨?_, rfl⟩⟩
  refine mz_go 9 (c' := (13, [some (.ref 65), some (.int (nI A)), some (.int (nI B))], [.int ((70 + (6 * (nI B))) + (nI A)), .ref 66], m)) rfl ?_
  refine mz_arr (c' := (14, [some (.ref 65), some (.int (nI A)), some (.int (nI B))], [.int (m 66 (((70 + (6 * (nI B))) + (nI A)).toNatClampNeg))], m)) rfl (show mz_in ((70 + (6 * (nI B))) + (nI A)) 650 = true from sm_inN (sm_addN (sm_addN rfl (sm_mulN rfl rfl)) rfl) (show ((70 + (6 * B)) + A) < 650 by omega) (by decide)) ?_
  rw [show ((70 + (6 * (nI B))) + (nI A) : Int32).toNatClampNeg = ((70 + (6 * B)) + A) from sm_clN (sm_addN (sm_addN rfl (sm_mulN rfl rfl)) rfl) (show ((70 + (6 * B)) + A) < 2 ^ 31 by omega)]
  exact mz_ret rfl
set_option maxHeartbeats 4000000 in
set_option maxRecDepth 100000 in
theorem ct_from {w m : mz_M} {N : Nat} (hw : sm_W w N) (hr2 : sm_HR w (m 66)) {f : Int32} (hfi : f = 1 ∨ f = 2 ∨ f = 4) (hr80 : sm_N 80 (w 7 2)) {x y : Int32} (hx : sm_B 100 x) (hy : sm_B 100 y) : ∃ r a b, sm_like (fun k => r (4 + k)) (sm_last w f x y 0 0) ∧ (∀ k, k < 4 ∨ 8 < k → r k = m 65 k) ∧ mz_Me 61 mz_r155 [.ref 65, .int x, .int y, .int f] m (some (.int (sm_end w f x y 0 0))) (mz_set (mz_set (mz_set m 65 r) 70 a) 71 b) := by
  obtain ⟨re1, fe1, ge1, le1, ke1, Ee1⟩ := ct_end (w := w) (m := mz_up (mz_up (mz_up (mz_up (mz_up m 65 4 (16 * x)) 65 5 (16 * y)) 65 6 0) 65 7 0) 65 8 0) hw hr2 hfi hr80 hx hy (show sm_like (fun k => (mz_up (mz_up (mz_up (mz_up (mz_up m 65 4 (16 * x)) 65 5 (16 * y)) 65 6 0) 65 7 0) 65 8 0) 65 (4 + k)) (sm_go x y 0 0) from ⟨rfl, rfl, rfl, rfl, rfl⟩)
  refine ⟨re1, fe1, ge1, le1, fun k hk => (ke1 k hk).trans ?_, ⟨?_, rfl⟩⟩
  · rw [mz_up_eq, if_neg (by omega), mz_up_eq, if_neg (by omega), mz_up_eq, if_neg (by omega), mz_up_eq, if_neg (by omega), mz_up_eq, if_neg (by omega)]
  · have hm : mz_set (mz_set (mz_set (mz_up (mz_up (mz_up (mz_up (mz_up m 65 4 (16 * x)) 65 5 (16 * y)) 65 6 0) 65 7 0) 65 8 0) 65 re1) 70 fe1) 71 ge1 = mz_set (mz_set (mz_set m 65 re1) 70 fe1) 71 ge1 := sm_of3 (fun i h1 h2 h3 => by simp only [mz_up_ne h1, mz_set_ne h1, mz_set_ne h2, mz_set_ne h3])
    rw [← hm]
    refine mz_go 5 (c' := (5, [some (.ref 65), some (.int x), some (.int y), some (.int f)], [.int 0, .int 0, .int y, .int x, .ref 65], m)) rfl ?_
    refine mz_doQ (R := mz_r144) (as := [.ref 65, .int x, .int y, .int 0, .int 0]) (rest := []) (r1 := none) (m1 := mz_up (mz_up (mz_up (mz_up (mz_up m 65 4 (16 * x)) 65 5 (16 * y)) 65 6 0) 65 7 0) 65 8 0) mz_t144 mz_v144_65 rfl rfl rfl rfl rfl ⟨?_, rfl⟩ ?_
    · refine mz_go 19 (c' := (32, [some (.ref 65), some (.int x), some (.int y), some (.int 0), some (.int 0)], [], mz_up (mz_up (mz_up (mz_up (mz_up m 65 4 (16 * x)) 65 5 (16 * y)) 65 6 0) 65 7 0) 65 8 0)) rfl ?_
      exact mz_ret rfl
    refine mz_go 2 (c' := (10, [some (.ref 65), some (.int x), some (.int y), some (.int f)], [.int f, .ref 65], mz_up (mz_up (mz_up (mz_up (mz_up m 65 4 (16 * x)) 65 5 (16 * y)) 65 6 0) 65 7 0) 65 8 0)) rfl ?_
    refine mz_doQ (R := mz_r154) (as := [.ref 65, .int f]) (rest := []) (r1 := some (.int (sm_end w f x y 0 0))) (m1 := mz_set (mz_set (mz_set (mz_up (mz_up (mz_up (mz_up (mz_up m 65 4 (16 * x)) 65 5 (16 * y)) 65 6 0) 65 7 0) 65 8 0) 65 re1) 70 fe1) 71 ge1) mz_t154 mz_v154_65 rfl rfl rfl rfl rfl (Ee1.deep (by decide)) ?_
    exact mz_ret rfl
set_option maxHeartbeats 4000000 in
set_option maxRecDepth 100000 in
theorem xr_oth {m : mz_M} {WW HH : Nat} (hWW : WW ≤ 6) (hHH : HH ≤ 6) (hWH : WW = 0 ↔ HH = 0) (h6660 : m 66 60 = nI WW) (h6661 : m 66 61 = nI HH) (a b c : Int32) : ∃ v, mz_Me 8 mz_r195 [.ref 65, .int a, .int b, .int c] m (some (.int v)) m := by
  by_cases q1 : WW = 0
  · by_cases q2 : a < 0
    · refine ⟨0, ⟨?_, rfl⟩⟩
      refine mz_go 3 (c' := (3, [some (.ref 65), some (.int a), some (.int b), some (.int c)], [.int b, .int a, .ref 65], m)) rfl ?_
      refine mz_doQ (R := mz_r187) (as := [.ref 65, .int a, .int b]) (rest := []) (r1 := some (.int 0)) (m1 := m) mz_t187 mz_v187_65 rfl rfl rfl rfl rfl ⟨?_, rfl⟩ ?_
      · refine mz_go 3 (c' := (3, [some (.ref 65), some (.int a), some (.int b)], [.ref 65, .int 0, .int a], m)) rfl ?_
        refine mz_doQ (R := mz_r183) (as := [.ref 65]) (rest := [.int 0, .int a]) (r1 := some (.int (nI WW))) (m1 := m) mz_t183 mz_v183_65 rfl rfl rfl rfl rfl ⟨?_, rfl⟩ ?_
        · refine mz_go 4 (c' := (7, [some (.ref 65)], [.int (m 66 60)], m)) rfl ?_
          rw [h6660]
          exact mz_ret rfl
        refine mz_go 2 (c' := (8, [some (.ref 65), some (.int a), some (.int b)], [.int ((nI WW) - 1), .int 0, .int a], m)) rfl ?_
        rw [show nI WW - 1 = -1 from by rw [show WW = 0 by omega]; decide]
        refine mz_doQ (R := mz_r128) (as := [.int a, .int 0, .int (-1)]) (rest := []) (r1 := some (.int 0)) (m1 := m) mz_t128 mz_v128 rfl rfl rfl rfl rfl ((ct_inL (m := m) (v := a) (a := 0) (b := (-1)) q2).deep (by decide)) ?_
        refine mz_go 2 (c' := (33, [some (.ref 65), some (.int a), some (.int b)], [.int 0], m)) rfl ?_
        exact mz_ret rfl
      refine mz_go 2 (c' := (24, [some (.ref 65), some (.int a), some (.int b), some (.int c)], [.int 0], m)) rfl ?_
      exact mz_ret rfl
    · refine ⟨0, ⟨?_, rfl⟩⟩
      refine mz_go 3 (c' := (3, [some (.ref 65), some (.int a), some (.int b), some (.int c)], [.int b, .int a, .ref 65], m)) rfl ?_
      refine mz_doQ (R := mz_r187) (as := [.ref 65, .int a, .int b]) (rest := []) (r1 := some (.int 0)) (m1 := m) mz_t187 mz_v187_65 rfl rfl rfl rfl rfl ⟨?_, rfl⟩ ?_
      · refine mz_go 3 (c' := (3, [some (.ref 65), some (.int a), some (.int b)], [.ref 65, .int 0, .int a], m)) rfl ?_
        refine mz_doQ (R := mz_r183) (as := [.ref 65]) (rest := [.int 0, .int a]) (r1 := some (.int (nI WW))) (m1 := m) mz_t183 mz_v183_65 rfl rfl rfl rfl rfl ⟨?_, rfl⟩ ?_
        · refine mz_go 4 (c' := (7, [some (.ref 65)], [.int (m 66 60)], m)) rfl ?_
          rw [h6660]
          exact mz_ret rfl
        refine mz_go 2 (c' := (8, [some (.ref 65), some (.int a), some (.int b)], [.int ((nI WW) - 1), .int 0, .int a], m)) rfl ?_
        rw [show nI WW - 1 = -1 from by rw [show WW = 0 by omega]; decide]
        refine mz_doQ (R := mz_r128) (as := [.int a, .int 0, .int (-1)]) (rest := []) (r1 := some (.int 0)) (m1 := m) mz_t128 mz_v128 rfl rfl rfl rfl rfl ((ct_inG (m := m) (v := a) (a := 0) (b := (-1)) q2 (by have hl : (0 : Int) ≤ (a).toInt := Int32.le_iff_toInt_le.mp (Int32.not_lt.mp q2); exact Int32.lt_iff_toInt_lt.mpr (show (-1 : Int) < (a).toInt by omega))).deep (by decide)) ?_
        refine mz_go 2 (c' := (33, [some (.ref 65), some (.int a), some (.int b)], [.int 0], m)) rfl ?_
        exact mz_ret rfl
      refine mz_go 2 (c' := (24, [some (.ref 65), some (.int a), some (.int b), some (.int c)], [.int 0], m)) rfl ?_
      exact mz_ret rfl
  · by_cases q3 : a < 0
    · refine ⟨0, ⟨?_, rfl⟩⟩
      refine mz_go 3 (c' := (3, [some (.ref 65), some (.int a), some (.int b), some (.int c)], [.int b, .int a, .ref 65], m)) rfl ?_
      refine mz_doQ (R := mz_r187) (as := [.ref 65, .int a, .int b]) (rest := []) (r1 := some (.int 0)) (m1 := m) mz_t187 mz_v187_65 rfl rfl rfl rfl rfl ⟨?_, rfl⟩ ?_
      · refine mz_go 3 (c' := (3, [some (.ref 65), some (.int a), some (.int b)], [.ref 65, .int 0, .int a], m)) rfl ?_
        refine mz_doQ (R := mz_r183) (as := [.ref 65]) (rest := [.int 0, .int a]) (r1 := some (.int (nI WW))) (m1 := m) mz_t183 mz_v183_65 rfl rfl rfl rfl rfl ⟨?_, rfl⟩ ?_
        · refine mz_go 4 (c' := (7, [some (.ref 65)], [.int (m 66 60)], m)) rfl ?_
          rw [h6660]
          exact mz_ret rfl
        refine mz_go 2 (c' := (8, [some (.ref 65), some (.int a), some (.int b)], [.int ((nI WW) - 1), .int 0, .int a], m)) rfl ?_
        refine mz_doQ (R := mz_r128) (as := [.int a, .int 0, .int ((nI WW) - 1)]) (rest := []) (r1 := some (.int 0)) (m1 := m) mz_t128 mz_v128 rfl rfl rfl rfl rfl ((ct_inL (m := m) (v := a) (a := 0) (b := (nI WW) - 1) q3).deep (by decide)) ?_
        refine mz_go 2 (c' := (33, [some (.ref 65), some (.int a), some (.int b)], [.int 0], m)) rfl ?_
        exact mz_ret rfl
      refine mz_go 2 (c' := (24, [some (.ref 65), some (.int a), some (.int b), some (.int c)], [.int 0], m)) rfl ?_
      exact mz_ret rfl
    · obtain ⟨ja, hja, rfl⟩ := nI_of q3
      by_cases q4 : (WW - 1) < ja
      · refine ⟨0, ⟨?_, rfl⟩⟩
        refine mz_go 3 (c' := (3, [some (.ref 65), some (.int (nI ja)), some (.int b), some (.int c)], [.int b, .int (nI ja), .ref 65], m)) rfl ?_
        refine mz_doQ (R := mz_r187) (as := [.ref 65, .int (nI ja), .int b]) (rest := []) (r1 := some (.int 0)) (m1 := m) mz_t187 mz_v187_65 rfl rfl rfl rfl rfl ⟨?_, rfl⟩ ?_
        · refine mz_go 3 (c' := (3, [some (.ref 65), some (.int (nI ja)), some (.int b)], [.ref 65, .int 0, .int (nI ja)], m)) rfl ?_
          refine mz_doQ (R := mz_r183) (as := [.ref 65]) (rest := [.int 0, .int (nI ja)]) (r1 := some (.int (nI WW))) (m1 := m) mz_t183 mz_v183_65 rfl rfl rfl rfl rfl ⟨?_, rfl⟩ ?_
          · refine mz_go 4 (c' := (7, [some (.ref 65)], [.int (m 66 60)], m)) rfl ?_
            rw [h6660]
            exact mz_ret rfl
          refine mz_go 2 (c' := (8, [some (.ref 65), some (.int (nI ja)), some (.int b)], [.int ((nI WW) - 1), .int 0, .int (nI ja)], m)) rfl ?_
          refine mz_doQ (R := mz_r128) (as := [.int (nI ja), .int 0, .int ((nI WW) - 1)]) (rest := []) (r1 := some (.int 0)) (m1 := m) mz_t128 mz_v128 rfl rfl rfl rfl rfl ((ct_inG (m := m) (v := nI ja) (a := 0) (b := (nI WW) - 1) q3 (show (((nI WW) - 1) < (nI ja)) from (sm_ltN (sm_subN (a := WW) (b := 1) rfl rfl (by omega)) rfl (show (WW - 1) < ja by omega) (show ja < 2 ^ 31 by omega)))).deep (by decide)) ?_
          refine mz_go 2 (c' := (33, [some (.ref 65), some (.int (nI ja)), some (.int b)], [.int 0], m)) rfl ?_
          exact mz_ret rfl
        refine mz_go 2 (c' := (24, [some (.ref 65), some (.int (nI ja)), some (.int b), some (.int c)], [.int 0], m)) rfl ?_
        exact mz_ret rfl
      · by_cases q5 : b < 0
        · refine ⟨0, ⟨?_, rfl⟩⟩
          refine mz_go 3 (c' := (3, [some (.ref 65), some (.int (nI ja)), some (.int b), some (.int c)], [.int b, .int (nI ja), .ref 65], m)) rfl ?_
          refine mz_doQ (R := mz_r187) (as := [.ref 65, .int (nI ja), .int b]) (rest := []) (r1 := some (.int 0)) (m1 := m) mz_t187 mz_v187_65 rfl rfl rfl rfl rfl ⟨?_, rfl⟩ ?_
          · refine mz_go 3 (c' := (3, [some (.ref 65), some (.int (nI ja)), some (.int b)], [.ref 65, .int 0, .int (nI ja)], m)) rfl ?_
            refine mz_doQ (R := mz_r183) (as := [.ref 65]) (rest := [.int 0, .int (nI ja)]) (r1 := some (.int (nI WW))) (m1 := m) mz_t183 mz_v183_65 rfl rfl rfl rfl rfl ⟨?_, rfl⟩ ?_
            · refine mz_go 4 (c' := (7, [some (.ref 65)], [.int (m 66 60)], m)) rfl ?_
              rw [h6660]
              exact mz_ret rfl
            refine mz_go 2 (c' := (8, [some (.ref 65), some (.int (nI ja)), some (.int b)], [.int ((nI WW) - 1), .int 0, .int (nI ja)], m)) rfl ?_
            refine mz_doQ (R := mz_r128) (as := [.int (nI ja), .int 0, .int ((nI WW) - 1)]) (rest := []) (r1 := some (.int 1)) (m1 := m) mz_t128 mz_v128 rfl rfl rfl rfl rfl ((ct_in1 (m := m) (v := nI ja) (a := 0) (b := (nI WW) - 1) q3 (show ¬ (((nI WW) - 1) < (nI ja)) from (sm_nltN (sm_subN (a := WW) (b := 1) rfl rfl (by omega)) rfl (show ja ≤ (WW - 1) by omega) (show (WW - 1) < 2 ^ 31 by omega)))).deep (by decide)) ?_
            refine mz_go 4 (c' := (17, [some (.ref 65), some (.int (nI ja)), some (.int b)], [.ref 65, .int 0, .int b], m)) rfl ?_
            refine mz_doQ (R := mz_r184) (as := [.ref 65]) (rest := [.int 0, .int b]) (r1 := some (.int (nI HH))) (m1 := m) mz_t184 mz_v184_65 rfl rfl rfl rfl rfl ⟨?_, rfl⟩ ?_
            · refine mz_go 4 (c' := (7, [some (.ref 65)], [.int (m 66 61)], m)) rfl ?_
              rw [h6661]
              exact mz_ret rfl
            refine mz_go 2 (c' := (22, [some (.ref 65), some (.int (nI ja)), some (.int b)], [.int ((nI HH) - 1), .int 0, .int b], m)) rfl ?_
            refine mz_doQ (R := mz_r128) (as := [.int b, .int 0, .int ((nI HH) - 1)]) (rest := []) (r1 := some (.int 0)) (m1 := m) mz_t128 mz_v128 rfl rfl rfl rfl rfl ((ct_inL (m := m) (v := b) (a := 0) (b := (nI HH) - 1) q5).deep (by decide)) ?_
            refine mz_go 2 (c' := (33, [some (.ref 65), some (.int (nI ja)), some (.int b)], [.int 0], m)) rfl ?_
            exact mz_ret rfl
          refine mz_go 2 (c' := (24, [some (.ref 65), some (.int (nI ja)), some (.int b), some (.int c)], [.int 0], m)) rfl ?_
          exact mz_ret rfl
        · obtain ⟨jb, hjb, rfl⟩ := nI_of q5
          by_cases q6 : (HH - 1) < jb
          · refine ⟨0, ⟨?_, rfl⟩⟩
            refine mz_go 3 (c' := (3, [some (.ref 65), some (.int (nI ja)), some (.int (nI jb)), some (.int c)], [.int (nI jb), .int (nI ja), .ref 65], m)) rfl ?_
            refine mz_doQ (R := mz_r187) (as := [.ref 65, .int (nI ja), .int (nI jb)]) (rest := []) (r1 := some (.int 0)) (m1 := m) mz_t187 mz_v187_65 rfl rfl rfl rfl rfl ⟨?_, rfl⟩ ?_
            · refine mz_go 3 (c' := (3, [some (.ref 65), some (.int (nI ja)), some (.int (nI jb))], [.ref 65, .int 0, .int (nI ja)], m)) rfl ?_
              refine mz_doQ (R := mz_r183) (as := [.ref 65]) (rest := [.int 0, .int (nI ja)]) (r1 := some (.int (nI WW))) (m1 := m) mz_t183 mz_v183_65 rfl rfl rfl rfl rfl ⟨?_, rfl⟩ ?_
              · refine mz_go 4 (c' := (7, [some (.ref 65)], [.int (m 66 60)], m)) rfl ?_
                rw [h6660]
                exact mz_ret rfl
              refine mz_go 2 (c' := (8, [some (.ref 65), some (.int (nI ja)), some (.int (nI jb))], [.int ((nI WW) - 1), .int 0, .int (nI ja)], m)) rfl ?_
              refine mz_doQ (R := mz_r128) (as := [.int (nI ja), .int 0, .int ((nI WW) - 1)]) (rest := []) (r1 := some (.int 1)) (m1 := m) mz_t128 mz_v128 rfl rfl rfl rfl rfl ((ct_in1 (m := m) (v := nI ja) (a := 0) (b := (nI WW) - 1) q3 (show ¬ (((nI WW) - 1) < (nI ja)) from (sm_nltN (sm_subN (a := WW) (b := 1) rfl rfl (by omega)) rfl (show ja ≤ (WW - 1) by omega) (show (WW - 1) < 2 ^ 31 by omega)))).deep (by decide)) ?_
              refine mz_go 4 (c' := (17, [some (.ref 65), some (.int (nI ja)), some (.int (nI jb))], [.ref 65, .int 0, .int (nI jb)], m)) rfl ?_
              refine mz_doQ (R := mz_r184) (as := [.ref 65]) (rest := [.int 0, .int (nI jb)]) (r1 := some (.int (nI HH))) (m1 := m) mz_t184 mz_v184_65 rfl rfl rfl rfl rfl ⟨?_, rfl⟩ ?_
              · refine mz_go 4 (c' := (7, [some (.ref 65)], [.int (m 66 61)], m)) rfl ?_
                rw [h6661]
                exact mz_ret rfl
              refine mz_go 2 (c' := (22, [some (.ref 65), some (.int (nI ja)), some (.int (nI jb))], [.int ((nI HH) - 1), .int 0, .int (nI jb)], m)) rfl ?_
              refine mz_doQ (R := mz_r128) (as := [.int (nI jb), .int 0, .int ((nI HH) - 1)]) (rest := []) (r1 := some (.int 0)) (m1 := m) mz_t128 mz_v128 rfl rfl rfl rfl rfl ((ct_inG (m := m) (v := nI jb) (a := 0) (b := (nI HH) - 1) q5 (show (((nI HH) - 1) < (nI jb)) from (sm_ltN (sm_subN (a := HH) (b := 1) rfl rfl (by omega)) rfl (show (HH - 1) < jb by omega) (show jb < 2 ^ 31 by omega)))).deep (by decide)) ?_
              refine mz_go 2 (c' := (33, [some (.ref 65), some (.int (nI ja)), some (.int (nI jb))], [.int 0], m)) rfl ?_
              exact mz_ret rfl
            refine mz_go 2 (c' := (24, [some (.ref 65), some (.int (nI ja)), some (.int (nI jb)), some (.int c)], [.int 0], m)) rfl ?_
            exact mz_ret rfl
          · obtain ⟨ve1, Ee1⟩ := xr_col (m := m) (A := ja) (B := jb) (by omega) (by omega) (a := nI ja) (b := nI jb) rfl rfl
            by_cases q7 : ve1 = c
            · refine ⟨0, ⟨?_, rfl⟩⟩
              refine mz_go 3 (c' := (3, [some (.ref 65), some (.int (nI ja)), some (.int (nI jb)), some (.int c)], [.int (nI jb), .int (nI ja), .ref 65], m)) rfl ?_
              refine mz_doQ (R := mz_r187) (as := [.ref 65, .int (nI ja), .int (nI jb)]) (rest := []) (r1 := some (.int 1)) (m1 := m) mz_t187 mz_v187_65 rfl rfl rfl rfl rfl ⟨?_, rfl⟩ ?_
              · refine mz_go 3 (c' := (3, [some (.ref 65), some (.int (nI ja)), some (.int (nI jb))], [.ref 65, .int 0, .int (nI ja)], m)) rfl ?_
                refine mz_doQ (R := mz_r183) (as := [.ref 65]) (rest := [.int 0, .int (nI ja)]) (r1 := some (.int (nI WW))) (m1 := m) mz_t183 mz_v183_65 rfl rfl rfl rfl rfl ⟨?_, rfl⟩ ?_
                · refine mz_go 4 (c' := (7, [some (.ref 65)], [.int (m 66 60)], m)) rfl ?_
                  rw [h6660]
                  exact mz_ret rfl
                refine mz_go 2 (c' := (8, [some (.ref 65), some (.int (nI ja)), some (.int (nI jb))], [.int ((nI WW) - 1), .int 0, .int (nI ja)], m)) rfl ?_
                refine mz_doQ (R := mz_r128) (as := [.int (nI ja), .int 0, .int ((nI WW) - 1)]) (rest := []) (r1 := some (.int 1)) (m1 := m) mz_t128 mz_v128 rfl rfl rfl rfl rfl ((ct_in1 (m := m) (v := nI ja) (a := 0) (b := (nI WW) - 1) q3 (show ¬ (((nI WW) - 1) < (nI ja)) from (sm_nltN (sm_subN (a := WW) (b := 1) rfl rfl (by omega)) rfl (show ja ≤ (WW - 1) by omega) (show (WW - 1) < 2 ^ 31 by omega)))).deep (by decide)) ?_
                refine mz_go 4 (c' := (17, [some (.ref 65), some (.int (nI ja)), some (.int (nI jb))], [.ref 65, .int 0, .int (nI jb)], m)) rfl ?_
                refine mz_doQ (R := mz_r184) (as := [.ref 65]) (rest := [.int 0, .int (nI jb)]) (r1 := some (.int (nI HH))) (m1 := m) mz_t184 mz_v184_65 rfl rfl rfl rfl rfl ⟨?_, rfl⟩ ?_
                · refine mz_go 4 (c' := (7, [some (.ref 65)], [.int (m 66 61)], m)) rfl ?_
                  rw [h6661]
                  exact mz_ret rfl
                refine mz_go 2 (c' := (22, [some (.ref 65), some (.int (nI ja)), some (.int (nI jb))], [.int ((nI HH) - 1), .int 0, .int (nI jb)], m)) rfl ?_
                refine mz_doQ (R := mz_r128) (as := [.int (nI jb), .int 0, .int ((nI HH) - 1)]) (rest := []) (r1 := some (.int 1)) (m1 := m) mz_t128 mz_v128 rfl rfl rfl rfl rfl ((ct_in1 (m := m) (v := nI jb) (a := 0) (b := (nI HH) - 1) q5 (show ¬ (((nI HH) - 1) < (nI jb)) from (sm_nltN (sm_subN (a := HH) (b := 1) rfl rfl (by omega)) rfl (show jb ≤ (HH - 1) by omega) (show (HH - 1) < 2 ^ 31 by omega)))).deep (by decide)) ?_
                refine mz_go 3 (c' := (33, [some (.ref 65), some (.int (nI ja)), some (.int (nI jb))], [.int 1], m)) rfl ?_
                exact mz_ret rfl
              refine mz_go 4 (c' := (12, [some (.ref 65), some (.int (nI ja)), some (.int (nI jb)), some (.int c)], [.int (nI jb), .int (nI ja), .ref 65], m)) rfl ?_
              refine mz_doQ (R := mz_r186) (as := [.ref 65, .int (nI ja), .int (nI jb)]) (rest := []) (r1 := some (.int ve1)) (m1 := m) mz_t186 mz_v186_65 rfl rfl rfl rfl rfl (Ee1.deep (by decide)) ?_
              refine mz_go 2 (c' := (if ve1 = c then 23 else 19, [some (.ref 65), some (.int (nI ja)), some (.int (nI jb)), some (.int c)], [], m)) rfl ?_
              refine mz_ifT q7 ?_
              refine mz_go 1 (c' := (24, [some (.ref 65), some (.int (nI ja)), some (.int (nI jb)), some (.int c)], [.int 0], m)) rfl ?_
              exact mz_ret rfl
            · refine ⟨1, ⟨?_, rfl⟩⟩
              refine mz_go 3 (c' := (3, [some (.ref 65), some (.int (nI ja)), some (.int (nI jb)), some (.int c)], [.int (nI jb), .int (nI ja), .ref 65], m)) rfl ?_
              refine mz_doQ (R := mz_r187) (as := [.ref 65, .int (nI ja), .int (nI jb)]) (rest := []) (r1 := some (.int 1)) (m1 := m) mz_t187 mz_v187_65 rfl rfl rfl rfl rfl ⟨?_, rfl⟩ ?_
              · refine mz_go 3 (c' := (3, [some (.ref 65), some (.int (nI ja)), some (.int (nI jb))], [.ref 65, .int 0, .int (nI ja)], m)) rfl ?_
                refine mz_doQ (R := mz_r183) (as := [.ref 65]) (rest := [.int 0, .int (nI ja)]) (r1 := some (.int (nI WW))) (m1 := m) mz_t183 mz_v183_65 rfl rfl rfl rfl rfl ⟨?_, rfl⟩ ?_
                · refine mz_go 4 (c' := (7, [some (.ref 65)], [.int (m 66 60)], m)) rfl ?_
                  rw [h6660]
                  exact mz_ret rfl
                refine mz_go 2 (c' := (8, [some (.ref 65), some (.int (nI ja)), some (.int (nI jb))], [.int ((nI WW) - 1), .int 0, .int (nI ja)], m)) rfl ?_
                refine mz_doQ (R := mz_r128) (as := [.int (nI ja), .int 0, .int ((nI WW) - 1)]) (rest := []) (r1 := some (.int 1)) (m1 := m) mz_t128 mz_v128 rfl rfl rfl rfl rfl ((ct_in1 (m := m) (v := nI ja) (a := 0) (b := (nI WW) - 1) q3 (show ¬ (((nI WW) - 1) < (nI ja)) from (sm_nltN (sm_subN (a := WW) (b := 1) rfl rfl (by omega)) rfl (show ja ≤ (WW - 1) by omega) (show (WW - 1) < 2 ^ 31 by omega)))).deep (by decide)) ?_
                refine mz_go 4 (c' := (17, [some (.ref 65), some (.int (nI ja)), some (.int (nI jb))], [.ref 65, .int 0, .int (nI jb)], m)) rfl ?_
                refine mz_doQ (R := mz_r184) (as := [.ref 65]) (rest := [.int 0, .int (nI jb)]) (r1 := some (.int (nI HH))) (m1 := m) mz_t184 mz_v184_65 rfl rfl rfl rfl rfl ⟨?_, rfl⟩ ?_
                · refine mz_go 4 (c' := (7, [some (.ref 65)], [.int (m 66 61)], m)) rfl ?_
                  rw [h6661]
                  exact mz_ret rfl
                refine mz_go 2 (c' := (22, [some (.ref 65), some (.int (nI ja)), some (.int (nI jb))], [.int ((nI HH) - 1), .int 0, .int (nI jb)], m)) rfl ?_
                refine mz_doQ (R := mz_r128) (as := [.int (nI jb), .int 0, .int ((nI HH) - 1)]) (rest := []) (r1 := some (.int 1)) (m1 := m) mz_t128 mz_v128 rfl rfl rfl rfl rfl ((ct_in1 (m := m) (v := nI jb) (a := 0) (b := (nI HH) - 1) q5 (show ¬ (((nI HH) - 1) < (nI jb)) from (sm_nltN (sm_subN (a := HH) (b := 1) rfl rfl (by omega)) rfl (show jb ≤ (HH - 1) by omega) (show (HH - 1) < 2 ^ 31 by omega)))).deep (by decide)) ?_
                refine mz_go 3 (c' := (33, [some (.ref 65), some (.int (nI ja)), some (.int (nI jb))], [.int 1], m)) rfl ?_
                exact mz_ret rfl
              refine mz_go 4 (c' := (12, [some (.ref 65), some (.int (nI ja)), some (.int (nI jb)), some (.int c)], [.int (nI jb), .int (nI ja), .ref 65], m)) rfl ?_
              refine mz_doQ (R := mz_r186) (as := [.ref 65, .int (nI ja), .int (nI jb)]) (rest := []) (r1 := some (.int ve1)) (m1 := m) mz_t186 mz_v186_65 rfl rfl rfl rfl rfl (Ee1.deep (by decide)) ?_
              refine mz_go 2 (c' := (if ve1 = c then 23 else 19, [some (.ref 65), some (.int (nI ja)), some (.int (nI jb)), some (.int c)], [], m)) rfl ?_
              refine mz_ifF q7 ?_
              refine mz_go 2 (c' := (24, [some (.ref 65), some (.int (nI ja)), some (.int (nI jb)), some (.int c)], [.int 1], m)) rfl ?_
              exact mz_ret rfl
set_option maxHeartbeats 4000000 in
set_option maxRecDepth 100000 in
theorem xr_edg {m : mz_M} {WW HH : Nat} (hWW : WW ≤ 6) (hHH : HH ≤ 6) (hWH : WW = 0 ↔ HH = 0) (h6660 : m 66 60 = nI WW) (h6661 : m 66 61 = nI HH) {I J : Nat} (hI6 : I < 6) (hJ6 : J < 6) {i j : Int32} (ei : i = nI I) (ej : j = nI J) : ∃ v, mz_Me 10 mz_r196 [.ref 65, .int i, .int j] m (some (.int v)) m := by
  subst ei
  subst ej
  obtain ⟨ve1, Ee1⟩ := xr_col (m := m) (A := I) (B := J) (by omega) (by omega) (a := nI I) (b := nI J) rfl rfl
  by_cases q1 : I = 0
  · obtain ⟨ve2, Ee2⟩ := xr_oth (m := m) hWW hHH hWH h6660 h6661 (-1) (nI J) ve1
    by_cases q2 : ve2 = 0
    · obtain ⟨ve3, Ee3⟩ := xr_oth (m := m) hWW hHH hWH h6660 h6661 ((nI I) + 1) (nI J) ve1
      by_cases q3 : ve3 = 0
      · by_cases q4 : J = 0
        · obtain ⟨ve4, Ee4⟩ := xr_oth (m := m) hWW hHH hWH h6660 h6661 (nI I) (-1) ve1
          by_cases q5 : ve4 = 0
          · obtain ⟨ve5, Ee5⟩ := xr_oth (m := m) hWW hHH hWH h6660 h6661 (nI I) ((nI J) + 1) ve1
            by_cases q6 : ve5 = 0
            · refine ⟨0, ⟨?_, rfl⟩⟩
              refine mz_go 3 (c' := (3, [some (.ref 65), some (.int (nI I)), some (.int (nI J)), none], [.int (nI J), .int (nI I), .ref 65], m)) rfl ?_
              refine mz_doQ (R := mz_r186) (as := [.ref 65, .int (nI I), .int (nI J)]) (rest := []) (r1 := some (.int ve1)) (m1 := m) mz_t186 mz_v186_65 rfl rfl rfl rfl rfl (Ee1.deep (by decide)) ?_
              refine mz_go 5 (c' := (11, [some (.ref 65), some (.int (nI I)), some (.int (nI J)), some (.int ve1)], [.int ((nI I) - 1), .ref 65], m)) rfl ?_
              rw [show nI I - 1 = -1 from by rw [show I = 0 by omega]; decide]
              refine mz_go 2 (c' := (13, [some (.ref 65), some (.int (nI I)), some (.int (nI J)), some (.int ve1)], [.int ve1, .int (nI J), .int (-1), .ref 65], m)) rfl ?_
              refine mz_doQ (R := mz_r195) (as := [.ref 65, .int (-1), .int (nI J), .int ve1]) (rest := []) (r1 := some (.int ve2)) (m1 := m) mz_t195 mz_v195_65 rfl rfl rfl rfl rfl (Ee2.deep (by decide)) ?_
              refine mz_go 1 (c' := (if ve2 = 0 then 19 else 55, [some (.ref 65), some (.int (nI I)), some (.int (nI J)), some (.int ve1)], [], m)) rfl ?_
              refine mz_ifT q2 ?_
              refine mz_go 6 (c' := (25, [some (.ref 65), some (.int (nI I)), some (.int (nI J)), some (.int ve1)], [.int ve1, .int (nI J), .int ((nI I) + 1), .ref 65], m)) rfl ?_
              refine mz_doQ (R := mz_r195) (as := [.ref 65, .int ((nI I) + 1), .int (nI J), .int ve1]) (rest := []) (r1 := some (.int ve3)) (m1 := m) mz_t195 mz_v195_65 rfl rfl rfl rfl rfl (Ee3.deep (by decide)) ?_
              refine mz_go 1 (c' := (if ve3 = 0 then 31 else 55, [some (.ref 65), some (.int (nI I)), some (.int (nI J)), some (.int ve1)], [], m)) rfl ?_
              refine mz_ifT q3 ?_
              refine mz_go 5 (c' := (36, [some (.ref 65), some (.int (nI I)), some (.int (nI J)), some (.int ve1)], [.int ((nI J) - 1), .int (nI I), .ref 65], m)) rfl ?_
              rw [show nI J - 1 = -1 from by rw [show J = 0 by omega]; decide]
              refine mz_go 1 (c' := (37, [some (.ref 65), some (.int (nI I)), some (.int (nI J)), some (.int ve1)], [.int ve1, .int (-1), .int (nI I), .ref 65], m)) rfl ?_
              refine mz_doQ (R := mz_r195) (as := [.ref 65, .int (nI I), .int (-1), .int ve1]) (rest := []) (r1 := some (.int ve4)) (m1 := m) mz_t195 mz_v195_65 rfl rfl rfl rfl rfl (Ee4.deep (by decide)) ?_
              refine mz_go 1 (c' := (if ve4 = 0 then 43 else 55, [some (.ref 65), some (.int (nI I)), some (.int (nI J)), some (.int ve1)], [], m)) rfl ?_
              refine mz_ifT q5 ?_
              refine mz_go 6 (c' := (49, [some (.ref 65), some (.int (nI I)), some (.int (nI J)), some (.int ve1)], [.int ve1, .int ((nI J) + 1), .int (nI I), .ref 65], m)) rfl ?_
              refine mz_doQ (R := mz_r195) (as := [.ref 65, .int (nI I), .int ((nI J) + 1), .int ve1]) (rest := []) (r1 := some (.int ve5)) (m1 := m) mz_t195 mz_v195_65 rfl rfl rfl rfl rfl (Ee5.deep (by decide)) ?_
              refine mz_go 1 (c' := (if ve5 = 0 then 59 else 55, [some (.ref 65), some (.int (nI I)), some (.int (nI J)), some (.int ve1)], [], m)) rfl ?_
              refine mz_ifT q6 ?_
              refine mz_go 1 (c' := (60, [some (.ref 65), some (.int (nI I)), some (.int (nI J)), some (.int ve1)], [.int 0], m)) rfl ?_
              exact mz_ret rfl
            · refine ⟨1, ⟨?_, rfl⟩⟩
              refine mz_go 3 (c' := (3, [some (.ref 65), some (.int (nI I)), some (.int (nI J)), none], [.int (nI J), .int (nI I), .ref 65], m)) rfl ?_
              refine mz_doQ (R := mz_r186) (as := [.ref 65, .int (nI I), .int (nI J)]) (rest := []) (r1 := some (.int ve1)) (m1 := m) mz_t186 mz_v186_65 rfl rfl rfl rfl rfl (Ee1.deep (by decide)) ?_
              refine mz_go 5 (c' := (11, [some (.ref 65), some (.int (nI I)), some (.int (nI J)), some (.int ve1)], [.int ((nI I) - 1), .ref 65], m)) rfl ?_
              rw [show nI I - 1 = -1 from by rw [show I = 0 by omega]; decide]
              refine mz_go 2 (c' := (13, [some (.ref 65), some (.int (nI I)), some (.int (nI J)), some (.int ve1)], [.int ve1, .int (nI J), .int (-1), .ref 65], m)) rfl ?_
              refine mz_doQ (R := mz_r195) (as := [.ref 65, .int (-1), .int (nI J), .int ve1]) (rest := []) (r1 := some (.int ve2)) (m1 := m) mz_t195 mz_v195_65 rfl rfl rfl rfl rfl (Ee2.deep (by decide)) ?_
              refine mz_go 1 (c' := (if ve2 = 0 then 19 else 55, [some (.ref 65), some (.int (nI I)), some (.int (nI J)), some (.int ve1)], [], m)) rfl ?_
              refine mz_ifT q2 ?_
              refine mz_go 6 (c' := (25, [some (.ref 65), some (.int (nI I)), some (.int (nI J)), some (.int ve1)], [.int ve1, .int (nI J), .int ((nI I) + 1), .ref 65], m)) rfl ?_
              refine mz_doQ (R := mz_r195) (as := [.ref 65, .int ((nI I) + 1), .int (nI J), .int ve1]) (rest := []) (r1 := some (.int ve3)) (m1 := m) mz_t195 mz_v195_65 rfl rfl rfl rfl rfl (Ee3.deep (by decide)) ?_
              refine mz_go 1 (c' := (if ve3 = 0 then 31 else 55, [some (.ref 65), some (.int (nI I)), some (.int (nI J)), some (.int ve1)], [], m)) rfl ?_
              refine mz_ifT q3 ?_
              refine mz_go 5 (c' := (36, [some (.ref 65), some (.int (nI I)), some (.int (nI J)), some (.int ve1)], [.int ((nI J) - 1), .int (nI I), .ref 65], m)) rfl ?_
              rw [show nI J - 1 = -1 from by rw [show J = 0 by omega]; decide]
              refine mz_go 1 (c' := (37, [some (.ref 65), some (.int (nI I)), some (.int (nI J)), some (.int ve1)], [.int ve1, .int (-1), .int (nI I), .ref 65], m)) rfl ?_
              refine mz_doQ (R := mz_r195) (as := [.ref 65, .int (nI I), .int (-1), .int ve1]) (rest := []) (r1 := some (.int ve4)) (m1 := m) mz_t195 mz_v195_65 rfl rfl rfl rfl rfl (Ee4.deep (by decide)) ?_
              refine mz_go 1 (c' := (if ve4 = 0 then 43 else 55, [some (.ref 65), some (.int (nI I)), some (.int (nI J)), some (.int ve1)], [], m)) rfl ?_
              refine mz_ifT q5 ?_
              refine mz_go 6 (c' := (49, [some (.ref 65), some (.int (nI I)), some (.int (nI J)), some (.int ve1)], [.int ve1, .int ((nI J) + 1), .int (nI I), .ref 65], m)) rfl ?_
              refine mz_doQ (R := mz_r195) (as := [.ref 65, .int (nI I), .int ((nI J) + 1), .int ve1]) (rest := []) (r1 := some (.int ve5)) (m1 := m) mz_t195 mz_v195_65 rfl rfl rfl rfl rfl (Ee5.deep (by decide)) ?_
              refine mz_go 1 (c' := (if ve5 = 0 then 59 else 55, [some (.ref 65), some (.int (nI I)), some (.int (nI J)), some (.int ve1)], [], m)) rfl ?_
              refine mz_ifF q6 ?_
              refine mz_go 2 (c' := (60, [some (.ref 65), some (.int (nI I)), some (.int (nI J)), some (.int ve1)], [.int 1], m)) rfl ?_
              exact mz_ret rfl
          · refine ⟨1, ⟨?_, rfl⟩⟩
            refine mz_go 3 (c' := (3, [some (.ref 65), some (.int (nI I)), some (.int (nI J)), none], [.int (nI J), .int (nI I), .ref 65], m)) rfl ?_
            refine mz_doQ (R := mz_r186) (as := [.ref 65, .int (nI I), .int (nI J)]) (rest := []) (r1 := some (.int ve1)) (m1 := m) mz_t186 mz_v186_65 rfl rfl rfl rfl rfl (Ee1.deep (by decide)) ?_
            refine mz_go 5 (c' := (11, [some (.ref 65), some (.int (nI I)), some (.int (nI J)), some (.int ve1)], [.int ((nI I) - 1), .ref 65], m)) rfl ?_
            rw [show nI I - 1 = -1 from by rw [show I = 0 by omega]; decide]
            refine mz_go 2 (c' := (13, [some (.ref 65), some (.int (nI I)), some (.int (nI J)), some (.int ve1)], [.int ve1, .int (nI J), .int (-1), .ref 65], m)) rfl ?_
            refine mz_doQ (R := mz_r195) (as := [.ref 65, .int (-1), .int (nI J), .int ve1]) (rest := []) (r1 := some (.int ve2)) (m1 := m) mz_t195 mz_v195_65 rfl rfl rfl rfl rfl (Ee2.deep (by decide)) ?_
            refine mz_go 1 (c' := (if ve2 = 0 then 19 else 55, [some (.ref 65), some (.int (nI I)), some (.int (nI J)), some (.int ve1)], [], m)) rfl ?_
            refine mz_ifT q2 ?_
            refine mz_go 6 (c' := (25, [some (.ref 65), some (.int (nI I)), some (.int (nI J)), some (.int ve1)], [.int ve1, .int (nI J), .int ((nI I) + 1), .ref 65], m)) rfl ?_
            refine mz_doQ (R := mz_r195) (as := [.ref 65, .int ((nI I) + 1), .int (nI J), .int ve1]) (rest := []) (r1 := some (.int ve3)) (m1 := m) mz_t195 mz_v195_65 rfl rfl rfl rfl rfl (Ee3.deep (by decide)) ?_
            refine mz_go 1 (c' := (if ve3 = 0 then 31 else 55, [some (.ref 65), some (.int (nI I)), some (.int (nI J)), some (.int ve1)], [], m)) rfl ?_
            refine mz_ifT q3 ?_
            refine mz_go 5 (c' := (36, [some (.ref 65), some (.int (nI I)), some (.int (nI J)), some (.int ve1)], [.int ((nI J) - 1), .int (nI I), .ref 65], m)) rfl ?_
            rw [show nI J - 1 = -1 from by rw [show J = 0 by omega]; decide]
            refine mz_go 1 (c' := (37, [some (.ref 65), some (.int (nI I)), some (.int (nI J)), some (.int ve1)], [.int ve1, .int (-1), .int (nI I), .ref 65], m)) rfl ?_
            refine mz_doQ (R := mz_r195) (as := [.ref 65, .int (nI I), .int (-1), .int ve1]) (rest := []) (r1 := some (.int ve4)) (m1 := m) mz_t195 mz_v195_65 rfl rfl rfl rfl rfl (Ee4.deep (by decide)) ?_
            refine mz_go 1 (c' := (if ve4 = 0 then 43 else 55, [some (.ref 65), some (.int (nI I)), some (.int (nI J)), some (.int ve1)], [], m)) rfl ?_
            refine mz_ifF q5 ?_
            refine mz_go 2 (c' := (60, [some (.ref 65), some (.int (nI I)), some (.int (nI J)), some (.int ve1)], [.int 1], m)) rfl ?_
            exact mz_ret rfl
        · obtain ⟨ve4, Ee4⟩ := xr_oth (m := m) hWW hHH hWH h6660 h6661 (nI I) ((nI J) - 1) ve1
          by_cases q7 : ve4 = 0
          · obtain ⟨ve5, Ee5⟩ := xr_oth (m := m) hWW hHH hWH h6660 h6661 (nI I) ((nI J) + 1) ve1
            by_cases q8 : ve5 = 0
            · refine ⟨0, ⟨?_, rfl⟩⟩
              refine mz_go 3 (c' := (3, [some (.ref 65), some (.int (nI I)), some (.int (nI J)), none], [.int (nI J), .int (nI I), .ref 65], m)) rfl ?_
              refine mz_doQ (R := mz_r186) (as := [.ref 65, .int (nI I), .int (nI J)]) (rest := []) (r1 := some (.int ve1)) (m1 := m) mz_t186 mz_v186_65 rfl rfl rfl rfl rfl (Ee1.deep (by decide)) ?_
              refine mz_go 5 (c' := (11, [some (.ref 65), some (.int (nI I)), some (.int (nI J)), some (.int ve1)], [.int ((nI I) - 1), .ref 65], m)) rfl ?_
              rw [show nI I - 1 = -1 from by rw [show I = 0 by omega]; decide]
              refine mz_go 2 (c' := (13, [some (.ref 65), some (.int (nI I)), some (.int (nI J)), some (.int ve1)], [.int ve1, .int (nI J), .int (-1), .ref 65], m)) rfl ?_
              refine mz_doQ (R := mz_r195) (as := [.ref 65, .int (-1), .int (nI J), .int ve1]) (rest := []) (r1 := some (.int ve2)) (m1 := m) mz_t195 mz_v195_65 rfl rfl rfl rfl rfl (Ee2.deep (by decide)) ?_
              refine mz_go 1 (c' := (if ve2 = 0 then 19 else 55, [some (.ref 65), some (.int (nI I)), some (.int (nI J)), some (.int ve1)], [], m)) rfl ?_
              refine mz_ifT q2 ?_
              refine mz_go 6 (c' := (25, [some (.ref 65), some (.int (nI I)), some (.int (nI J)), some (.int ve1)], [.int ve1, .int (nI J), .int ((nI I) + 1), .ref 65], m)) rfl ?_
              refine mz_doQ (R := mz_r195) (as := [.ref 65, .int ((nI I) + 1), .int (nI J), .int ve1]) (rest := []) (r1 := some (.int ve3)) (m1 := m) mz_t195 mz_v195_65 rfl rfl rfl rfl rfl (Ee3.deep (by decide)) ?_
              refine mz_go 1 (c' := (if ve3 = 0 then 31 else 55, [some (.ref 65), some (.int (nI I)), some (.int (nI J)), some (.int ve1)], [], m)) rfl ?_
              refine mz_ifT q3 ?_
              refine mz_go 6 (c' := (37, [some (.ref 65), some (.int (nI I)), some (.int (nI J)), some (.int ve1)], [.int ve1, .int ((nI J) - 1), .int (nI I), .ref 65], m)) rfl ?_
              refine mz_doQ (R := mz_r195) (as := [.ref 65, .int (nI I), .int ((nI J) - 1), .int ve1]) (rest := []) (r1 := some (.int ve4)) (m1 := m) mz_t195 mz_v195_65 rfl rfl rfl rfl rfl (Ee4.deep (by decide)) ?_
              refine mz_go 1 (c' := (if ve4 = 0 then 43 else 55, [some (.ref 65), some (.int (nI I)), some (.int (nI J)), some (.int ve1)], [], m)) rfl ?_
              refine mz_ifT q7 ?_
              refine mz_go 6 (c' := (49, [some (.ref 65), some (.int (nI I)), some (.int (nI J)), some (.int ve1)], [.int ve1, .int ((nI J) + 1), .int (nI I), .ref 65], m)) rfl ?_
              refine mz_doQ (R := mz_r195) (as := [.ref 65, .int (nI I), .int ((nI J) + 1), .int ve1]) (rest := []) (r1 := some (.int ve5)) (m1 := m) mz_t195 mz_v195_65 rfl rfl rfl rfl rfl (Ee5.deep (by decide)) ?_
              refine mz_go 1 (c' := (if ve5 = 0 then 59 else 55, [some (.ref 65), some (.int (nI I)), some (.int (nI J)), some (.int ve1)], [], m)) rfl ?_
              refine mz_ifT q8 ?_
              refine mz_go 1 (c' := (60, [some (.ref 65), some (.int (nI I)), some (.int (nI J)), some (.int ve1)], [.int 0], m)) rfl ?_
              exact mz_ret rfl
            · refine ⟨1, ⟨?_, rfl⟩⟩
              refine mz_go 3 (c' := (3, [some (.ref 65), some (.int (nI I)), some (.int (nI J)), none], [.int (nI J), .int (nI I), .ref 65], m)) rfl ?_
              refine mz_doQ (R := mz_r186) (as := [.ref 65, .int (nI I), .int (nI J)]) (rest := []) (r1 := some (.int ve1)) (m1 := m) mz_t186 mz_v186_65 rfl rfl rfl rfl rfl (Ee1.deep (by decide)) ?_
              refine mz_go 5 (c' := (11, [some (.ref 65), some (.int (nI I)), some (.int (nI J)), some (.int ve1)], [.int ((nI I) - 1), .ref 65], m)) rfl ?_
              rw [show nI I - 1 = -1 from by rw [show I = 0 by omega]; decide]
              refine mz_go 2 (c' := (13, [some (.ref 65), some (.int (nI I)), some (.int (nI J)), some (.int ve1)], [.int ve1, .int (nI J), .int (-1), .ref 65], m)) rfl ?_
              refine mz_doQ (R := mz_r195) (as := [.ref 65, .int (-1), .int (nI J), .int ve1]) (rest := []) (r1 := some (.int ve2)) (m1 := m) mz_t195 mz_v195_65 rfl rfl rfl rfl rfl (Ee2.deep (by decide)) ?_
              refine mz_go 1 (c' := (if ve2 = 0 then 19 else 55, [some (.ref 65), some (.int (nI I)), some (.int (nI J)), some (.int ve1)], [], m)) rfl ?_
              refine mz_ifT q2 ?_
              refine mz_go 6 (c' := (25, [some (.ref 65), some (.int (nI I)), some (.int (nI J)), some (.int ve1)], [.int ve1, .int (nI J), .int ((nI I) + 1), .ref 65], m)) rfl ?_
              refine mz_doQ (R := mz_r195) (as := [.ref 65, .int ((nI I) + 1), .int (nI J), .int ve1]) (rest := []) (r1 := some (.int ve3)) (m1 := m) mz_t195 mz_v195_65 rfl rfl rfl rfl rfl (Ee3.deep (by decide)) ?_
              refine mz_go 1 (c' := (if ve3 = 0 then 31 else 55, [some (.ref 65), some (.int (nI I)), some (.int (nI J)), some (.int ve1)], [], m)) rfl ?_
              refine mz_ifT q3 ?_
              refine mz_go 6 (c' := (37, [some (.ref 65), some (.int (nI I)), some (.int (nI J)), some (.int ve1)], [.int ve1, .int ((nI J) - 1), .int (nI I), .ref 65], m)) rfl ?_
              refine mz_doQ (R := mz_r195) (as := [.ref 65, .int (nI I), .int ((nI J) - 1), .int ve1]) (rest := []) (r1 := some (.int ve4)) (m1 := m) mz_t195 mz_v195_65 rfl rfl rfl rfl rfl (Ee4.deep (by decide)) ?_
              refine mz_go 1 (c' := (if ve4 = 0 then 43 else 55, [some (.ref 65), some (.int (nI I)), some (.int (nI J)), some (.int ve1)], [], m)) rfl ?_
              refine mz_ifT q7 ?_
              refine mz_go 6 (c' := (49, [some (.ref 65), some (.int (nI I)), some (.int (nI J)), some (.int ve1)], [.int ve1, .int ((nI J) + 1), .int (nI I), .ref 65], m)) rfl ?_
              refine mz_doQ (R := mz_r195) (as := [.ref 65, .int (nI I), .int ((nI J) + 1), .int ve1]) (rest := []) (r1 := some (.int ve5)) (m1 := m) mz_t195 mz_v195_65 rfl rfl rfl rfl rfl (Ee5.deep (by decide)) ?_
              refine mz_go 1 (c' := (if ve5 = 0 then 59 else 55, [some (.ref 65), some (.int (nI I)), some (.int (nI J)), some (.int ve1)], [], m)) rfl ?_
              refine mz_ifF q8 ?_
              refine mz_go 2 (c' := (60, [some (.ref 65), some (.int (nI I)), some (.int (nI J)), some (.int ve1)], [.int 1], m)) rfl ?_
              exact mz_ret rfl
          · refine ⟨1, ⟨?_, rfl⟩⟩
            refine mz_go 3 (c' := (3, [some (.ref 65), some (.int (nI I)), some (.int (nI J)), none], [.int (nI J), .int (nI I), .ref 65], m)) rfl ?_
            refine mz_doQ (R := mz_r186) (as := [.ref 65, .int (nI I), .int (nI J)]) (rest := []) (r1 := some (.int ve1)) (m1 := m) mz_t186 mz_v186_65 rfl rfl rfl rfl rfl (Ee1.deep (by decide)) ?_
            refine mz_go 5 (c' := (11, [some (.ref 65), some (.int (nI I)), some (.int (nI J)), some (.int ve1)], [.int ((nI I) - 1), .ref 65], m)) rfl ?_
            rw [show nI I - 1 = -1 from by rw [show I = 0 by omega]; decide]
            refine mz_go 2 (c' := (13, [some (.ref 65), some (.int (nI I)), some (.int (nI J)), some (.int ve1)], [.int ve1, .int (nI J), .int (-1), .ref 65], m)) rfl ?_
            refine mz_doQ (R := mz_r195) (as := [.ref 65, .int (-1), .int (nI J), .int ve1]) (rest := []) (r1 := some (.int ve2)) (m1 := m) mz_t195 mz_v195_65 rfl rfl rfl rfl rfl (Ee2.deep (by decide)) ?_
            refine mz_go 1 (c' := (if ve2 = 0 then 19 else 55, [some (.ref 65), some (.int (nI I)), some (.int (nI J)), some (.int ve1)], [], m)) rfl ?_
            refine mz_ifT q2 ?_
            refine mz_go 6 (c' := (25, [some (.ref 65), some (.int (nI I)), some (.int (nI J)), some (.int ve1)], [.int ve1, .int (nI J), .int ((nI I) + 1), .ref 65], m)) rfl ?_
            refine mz_doQ (R := mz_r195) (as := [.ref 65, .int ((nI I) + 1), .int (nI J), .int ve1]) (rest := []) (r1 := some (.int ve3)) (m1 := m) mz_t195 mz_v195_65 rfl rfl rfl rfl rfl (Ee3.deep (by decide)) ?_
            refine mz_go 1 (c' := (if ve3 = 0 then 31 else 55, [some (.ref 65), some (.int (nI I)), some (.int (nI J)), some (.int ve1)], [], m)) rfl ?_
            refine mz_ifT q3 ?_
            refine mz_go 6 (c' := (37, [some (.ref 65), some (.int (nI I)), some (.int (nI J)), some (.int ve1)], [.int ve1, .int ((nI J) - 1), .int (nI I), .ref 65], m)) rfl ?_
            refine mz_doQ (R := mz_r195) (as := [.ref 65, .int (nI I), .int ((nI J) - 1), .int ve1]) (rest := []) (r1 := some (.int ve4)) (m1 := m) mz_t195 mz_v195_65 rfl rfl rfl rfl rfl (Ee4.deep (by decide)) ?_
            refine mz_go 1 (c' := (if ve4 = 0 then 43 else 55, [some (.ref 65), some (.int (nI I)), some (.int (nI J)), some (.int ve1)], [], m)) rfl ?_
            refine mz_ifF q7 ?_
            refine mz_go 2 (c' := (60, [some (.ref 65), some (.int (nI I)), some (.int (nI J)), some (.int ve1)], [.int 1], m)) rfl ?_
            exact mz_ret rfl
      · refine ⟨1, ⟨?_, rfl⟩⟩
        refine mz_go 3 (c' := (3, [some (.ref 65), some (.int (nI I)), some (.int (nI J)), none], [.int (nI J), .int (nI I), .ref 65], m)) rfl ?_
        refine mz_doQ (R := mz_r186) (as := [.ref 65, .int (nI I), .int (nI J)]) (rest := []) (r1 := some (.int ve1)) (m1 := m) mz_t186 mz_v186_65 rfl rfl rfl rfl rfl (Ee1.deep (by decide)) ?_
        refine mz_go 5 (c' := (11, [some (.ref 65), some (.int (nI I)), some (.int (nI J)), some (.int ve1)], [.int ((nI I) - 1), .ref 65], m)) rfl ?_
        rw [show nI I - 1 = -1 from by rw [show I = 0 by omega]; decide]
        refine mz_go 2 (c' := (13, [some (.ref 65), some (.int (nI I)), some (.int (nI J)), some (.int ve1)], [.int ve1, .int (nI J), .int (-1), .ref 65], m)) rfl ?_
        refine mz_doQ (R := mz_r195) (as := [.ref 65, .int (-1), .int (nI J), .int ve1]) (rest := []) (r1 := some (.int ve2)) (m1 := m) mz_t195 mz_v195_65 rfl rfl rfl rfl rfl (Ee2.deep (by decide)) ?_
        refine mz_go 1 (c' := (if ve2 = 0 then 19 else 55, [some (.ref 65), some (.int (nI I)), some (.int (nI J)), some (.int ve1)], [], m)) rfl ?_
        refine mz_ifT q2 ?_
        refine mz_go 6 (c' := (25, [some (.ref 65), some (.int (nI I)), some (.int (nI J)), some (.int ve1)], [.int ve1, .int (nI J), .int ((nI I) + 1), .ref 65], m)) rfl ?_
        refine mz_doQ (R := mz_r195) (as := [.ref 65, .int ((nI I) + 1), .int (nI J), .int ve1]) (rest := []) (r1 := some (.int ve3)) (m1 := m) mz_t195 mz_v195_65 rfl rfl rfl rfl rfl (Ee3.deep (by decide)) ?_
        refine mz_go 1 (c' := (if ve3 = 0 then 31 else 55, [some (.ref 65), some (.int (nI I)), some (.int (nI J)), some (.int ve1)], [], m)) rfl ?_
        refine mz_ifF q3 ?_
        refine mz_go 2 (c' := (60, [some (.ref 65), some (.int (nI I)), some (.int (nI J)), some (.int ve1)], [.int 1], m)) rfl ?_
        exact mz_ret rfl
    · refine ⟨1, ⟨?_, rfl⟩⟩
      refine mz_go 3 (c' := (3, [some (.ref 65), some (.int (nI I)), some (.int (nI J)), none], [.int (nI J), .int (nI I), .ref 65], m)) rfl ?_
      refine mz_doQ (R := mz_r186) (as := [.ref 65, .int (nI I), .int (nI J)]) (rest := []) (r1 := some (.int ve1)) (m1 := m) mz_t186 mz_v186_65 rfl rfl rfl rfl rfl (Ee1.deep (by decide)) ?_
      refine mz_go 5 (c' := (11, [some (.ref 65), some (.int (nI I)), some (.int (nI J)), some (.int ve1)], [.int ((nI I) - 1), .ref 65], m)) rfl ?_
      rw [show nI I - 1 = -1 from by rw [show I = 0 by omega]; decide]
      refine mz_go 2 (c' := (13, [some (.ref 65), some (.int (nI I)), some (.int (nI J)), some (.int ve1)], [.int ve1, .int (nI J), .int (-1), .ref 65], m)) rfl ?_
      refine mz_doQ (R := mz_r195) (as := [.ref 65, .int (-1), .int (nI J), .int ve1]) (rest := []) (r1 := some (.int ve2)) (m1 := m) mz_t195 mz_v195_65 rfl rfl rfl rfl rfl (Ee2.deep (by decide)) ?_
      refine mz_go 1 (c' := (if ve2 = 0 then 19 else 55, [some (.ref 65), some (.int (nI I)), some (.int (nI J)), some (.int ve1)], [], m)) rfl ?_
      refine mz_ifF q2 ?_
      refine mz_go 2 (c' := (60, [some (.ref 65), some (.int (nI I)), some (.int (nI J)), some (.int ve1)], [.int 1], m)) rfl ?_
      exact mz_ret rfl
  · obtain ⟨ve2, Ee2⟩ := xr_oth (m := m) hWW hHH hWH h6660 h6661 ((nI I) - 1) (nI J) ve1
    by_cases q9 : ve2 = 0
    · obtain ⟨ve3, Ee3⟩ := xr_oth (m := m) hWW hHH hWH h6660 h6661 ((nI I) + 1) (nI J) ve1
      by_cases q10 : ve3 = 0
      · by_cases q11 : J = 0
        · obtain ⟨ve4, Ee4⟩ := xr_oth (m := m) hWW hHH hWH h6660 h6661 (nI I) (-1) ve1
          by_cases q12 : ve4 = 0
          · obtain ⟨ve5, Ee5⟩ := xr_oth (m := m) hWW hHH hWH h6660 h6661 (nI I) ((nI J) + 1) ve1
            by_cases q13 : ve5 = 0
            · refine ⟨0, ⟨?_, rfl⟩⟩
              refine mz_go 3 (c' := (3, [some (.ref 65), some (.int (nI I)), some (.int (nI J)), none], [.int (nI J), .int (nI I), .ref 65], m)) rfl ?_
              refine mz_doQ (R := mz_r186) (as := [.ref 65, .int (nI I), .int (nI J)]) (rest := []) (r1 := some (.int ve1)) (m1 := m) mz_t186 mz_v186_65 rfl rfl rfl rfl rfl (Ee1.deep (by decide)) ?_
              refine mz_go 7 (c' := (13, [some (.ref 65), some (.int (nI I)), some (.int (nI J)), some (.int ve1)], [.int ve1, .int (nI J), .int ((nI I) - 1), .ref 65], m)) rfl ?_
              refine mz_doQ (R := mz_r195) (as := [.ref 65, .int ((nI I) - 1), .int (nI J), .int ve1]) (rest := []) (r1 := some (.int ve2)) (m1 := m) mz_t195 mz_v195_65 rfl rfl rfl rfl rfl (Ee2.deep (by decide)) ?_
              refine mz_go 1 (c' := (if ve2 = 0 then 19 else 55, [some (.ref 65), some (.int (nI I)), some (.int (nI J)), some (.int ve1)], [], m)) rfl ?_
              refine mz_ifT q9 ?_
              refine mz_go 6 (c' := (25, [some (.ref 65), some (.int (nI I)), some (.int (nI J)), some (.int ve1)], [.int ve1, .int (nI J), .int ((nI I) + 1), .ref 65], m)) rfl ?_
              refine mz_doQ (R := mz_r195) (as := [.ref 65, .int ((nI I) + 1), .int (nI J), .int ve1]) (rest := []) (r1 := some (.int ve3)) (m1 := m) mz_t195 mz_v195_65 rfl rfl rfl rfl rfl (Ee3.deep (by decide)) ?_
              refine mz_go 1 (c' := (if ve3 = 0 then 31 else 55, [some (.ref 65), some (.int (nI I)), some (.int (nI J)), some (.int ve1)], [], m)) rfl ?_
              refine mz_ifT q10 ?_
              refine mz_go 5 (c' := (36, [some (.ref 65), some (.int (nI I)), some (.int (nI J)), some (.int ve1)], [.int ((nI J) - 1), .int (nI I), .ref 65], m)) rfl ?_
              rw [show nI J - 1 = -1 from by rw [show J = 0 by omega]; decide]
              refine mz_go 1 (c' := (37, [some (.ref 65), some (.int (nI I)), some (.int (nI J)), some (.int ve1)], [.int ve1, .int (-1), .int (nI I), .ref 65], m)) rfl ?_
              refine mz_doQ (R := mz_r195) (as := [.ref 65, .int (nI I), .int (-1), .int ve1]) (rest := []) (r1 := some (.int ve4)) (m1 := m) mz_t195 mz_v195_65 rfl rfl rfl rfl rfl (Ee4.deep (by decide)) ?_
              refine mz_go 1 (c' := (if ve4 = 0 then 43 else 55, [some (.ref 65), some (.int (nI I)), some (.int (nI J)), some (.int ve1)], [], m)) rfl ?_
              refine mz_ifT q12 ?_
              refine mz_go 6 (c' := (49, [some (.ref 65), some (.int (nI I)), some (.int (nI J)), some (.int ve1)], [.int ve1, .int ((nI J) + 1), .int (nI I), .ref 65], m)) rfl ?_
              refine mz_doQ (R := mz_r195) (as := [.ref 65, .int (nI I), .int ((nI J) + 1), .int ve1]) (rest := []) (r1 := some (.int ve5)) (m1 := m) mz_t195 mz_v195_65 rfl rfl rfl rfl rfl (Ee5.deep (by decide)) ?_
              refine mz_go 1 (c' := (if ve5 = 0 then 59 else 55, [some (.ref 65), some (.int (nI I)), some (.int (nI J)), some (.int ve1)], [], m)) rfl ?_
              refine mz_ifT q13 ?_
              refine mz_go 1 (c' := (60, [some (.ref 65), some (.int (nI I)), some (.int (nI J)), some (.int ve1)], [.int 0], m)) rfl ?_
              exact mz_ret rfl
            · refine ⟨1, ⟨?_, rfl⟩⟩
              refine mz_go 3 (c' := (3, [some (.ref 65), some (.int (nI I)), some (.int (nI J)), none], [.int (nI J), .int (nI I), .ref 65], m)) rfl ?_
              refine mz_doQ (R := mz_r186) (as := [.ref 65, .int (nI I), .int (nI J)]) (rest := []) (r1 := some (.int ve1)) (m1 := m) mz_t186 mz_v186_65 rfl rfl rfl rfl rfl (Ee1.deep (by decide)) ?_
              refine mz_go 7 (c' := (13, [some (.ref 65), some (.int (nI I)), some (.int (nI J)), some (.int ve1)], [.int ve1, .int (nI J), .int ((nI I) - 1), .ref 65], m)) rfl ?_
              refine mz_doQ (R := mz_r195) (as := [.ref 65, .int ((nI I) - 1), .int (nI J), .int ve1]) (rest := []) (r1 := some (.int ve2)) (m1 := m) mz_t195 mz_v195_65 rfl rfl rfl rfl rfl (Ee2.deep (by decide)) ?_
              refine mz_go 1 (c' := (if ve2 = 0 then 19 else 55, [some (.ref 65), some (.int (nI I)), some (.int (nI J)), some (.int ve1)], [], m)) rfl ?_
              refine mz_ifT q9 ?_
              refine mz_go 6 (c' := (25, [some (.ref 65), some (.int (nI I)), some (.int (nI J)), some (.int ve1)], [.int ve1, .int (nI J), .int ((nI I) + 1), .ref 65], m)) rfl ?_
              refine mz_doQ (R := mz_r195) (as := [.ref 65, .int ((nI I) + 1), .int (nI J), .int ve1]) (rest := []) (r1 := some (.int ve3)) (m1 := m) mz_t195 mz_v195_65 rfl rfl rfl rfl rfl (Ee3.deep (by decide)) ?_
              refine mz_go 1 (c' := (if ve3 = 0 then 31 else 55, [some (.ref 65), some (.int (nI I)), some (.int (nI J)), some (.int ve1)], [], m)) rfl ?_
              refine mz_ifT q10 ?_
              refine mz_go 5 (c' := (36, [some (.ref 65), some (.int (nI I)), some (.int (nI J)), some (.int ve1)], [.int ((nI J) - 1), .int (nI I), .ref 65], m)) rfl ?_
              rw [show nI J - 1 = -1 from by rw [show J = 0 by omega]; decide]
              refine mz_go 1 (c' := (37, [some (.ref 65), some (.int (nI I)), some (.int (nI J)), some (.int ve1)], [.int ve1, .int (-1), .int (nI I), .ref 65], m)) rfl ?_
              refine mz_doQ (R := mz_r195) (as := [.ref 65, .int (nI I), .int (-1), .int ve1]) (rest := []) (r1 := some (.int ve4)) (m1 := m) mz_t195 mz_v195_65 rfl rfl rfl rfl rfl (Ee4.deep (by decide)) ?_
              refine mz_go 1 (c' := (if ve4 = 0 then 43 else 55, [some (.ref 65), some (.int (nI I)), some (.int (nI J)), some (.int ve1)], [], m)) rfl ?_
              refine mz_ifT q12 ?_
              refine mz_go 6 (c' := (49, [some (.ref 65), some (.int (nI I)), some (.int (nI J)), some (.int ve1)], [.int ve1, .int ((nI J) + 1), .int (nI I), .ref 65], m)) rfl ?_
              refine mz_doQ (R := mz_r195) (as := [.ref 65, .int (nI I), .int ((nI J) + 1), .int ve1]) (rest := []) (r1 := some (.int ve5)) (m1 := m) mz_t195 mz_v195_65 rfl rfl rfl rfl rfl (Ee5.deep (by decide)) ?_
              refine mz_go 1 (c' := (if ve5 = 0 then 59 else 55, [some (.ref 65), some (.int (nI I)), some (.int (nI J)), some (.int ve1)], [], m)) rfl ?_
              refine mz_ifF q13 ?_
              refine mz_go 2 (c' := (60, [some (.ref 65), some (.int (nI I)), some (.int (nI J)), some (.int ve1)], [.int 1], m)) rfl ?_
              exact mz_ret rfl
          · refine ⟨1, ⟨?_, rfl⟩⟩
            refine mz_go 3 (c' := (3, [some (.ref 65), some (.int (nI I)), some (.int (nI J)), none], [.int (nI J), .int (nI I), .ref 65], m)) rfl ?_
            refine mz_doQ (R := mz_r186) (as := [.ref 65, .int (nI I), .int (nI J)]) (rest := []) (r1 := some (.int ve1)) (m1 := m) mz_t186 mz_v186_65 rfl rfl rfl rfl rfl (Ee1.deep (by decide)) ?_
            refine mz_go 7 (c' := (13, [some (.ref 65), some (.int (nI I)), some (.int (nI J)), some (.int ve1)], [.int ve1, .int (nI J), .int ((nI I) - 1), .ref 65], m)) rfl ?_
            refine mz_doQ (R := mz_r195) (as := [.ref 65, .int ((nI I) - 1), .int (nI J), .int ve1]) (rest := []) (r1 := some (.int ve2)) (m1 := m) mz_t195 mz_v195_65 rfl rfl rfl rfl rfl (Ee2.deep (by decide)) ?_
            refine mz_go 1 (c' := (if ve2 = 0 then 19 else 55, [some (.ref 65), some (.int (nI I)), some (.int (nI J)), some (.int ve1)], [], m)) rfl ?_
            refine mz_ifT q9 ?_
            refine mz_go 6 (c' := (25, [some (.ref 65), some (.int (nI I)), some (.int (nI J)), some (.int ve1)], [.int ve1, .int (nI J), .int ((nI I) + 1), .ref 65], m)) rfl ?_
            refine mz_doQ (R := mz_r195) (as := [.ref 65, .int ((nI I) + 1), .int (nI J), .int ve1]) (rest := []) (r1 := some (.int ve3)) (m1 := m) mz_t195 mz_v195_65 rfl rfl rfl rfl rfl (Ee3.deep (by decide)) ?_
            refine mz_go 1 (c' := (if ve3 = 0 then 31 else 55, [some (.ref 65), some (.int (nI I)), some (.int (nI J)), some (.int ve1)], [], m)) rfl ?_
            refine mz_ifT q10 ?_
            refine mz_go 5 (c' := (36, [some (.ref 65), some (.int (nI I)), some (.int (nI J)), some (.int ve1)], [.int ((nI J) - 1), .int (nI I), .ref 65], m)) rfl ?_
            rw [show nI J - 1 = -1 from by rw [show J = 0 by omega]; decide]
            refine mz_go 1 (c' := (37, [some (.ref 65), some (.int (nI I)), some (.int (nI J)), some (.int ve1)], [.int ve1, .int (-1), .int (nI I), .ref 65], m)) rfl ?_
            refine mz_doQ (R := mz_r195) (as := [.ref 65, .int (nI I), .int (-1), .int ve1]) (rest := []) (r1 := some (.int ve4)) (m1 := m) mz_t195 mz_v195_65 rfl rfl rfl rfl rfl (Ee4.deep (by decide)) ?_
            refine mz_go 1 (c' := (if ve4 = 0 then 43 else 55, [some (.ref 65), some (.int (nI I)), some (.int (nI J)), some (.int ve1)], [], m)) rfl ?_
            refine mz_ifF q12 ?_
            refine mz_go 2 (c' := (60, [some (.ref 65), some (.int (nI I)), some (.int (nI J)), some (.int ve1)], [.int 1], m)) rfl ?_
            exact mz_ret rfl
        · obtain ⟨ve4, Ee4⟩ := xr_oth (m := m) hWW hHH hWH h6660 h6661 (nI I) ((nI J) - 1) ve1
          by_cases q14 : ve4 = 0
          · obtain ⟨ve5, Ee5⟩ := xr_oth (m := m) hWW hHH hWH h6660 h6661 (nI I) ((nI J) + 1) ve1
            by_cases q15 : ve5 = 0
            · refine ⟨0, ⟨?_, rfl⟩⟩
              refine mz_go 3 (c' := (3, [some (.ref 65), some (.int (nI I)), some (.int (nI J)), none], [.int (nI J), .int (nI I), .ref 65], m)) rfl ?_
              refine mz_doQ (R := mz_r186) (as := [.ref 65, .int (nI I), .int (nI J)]) (rest := []) (r1 := some (.int ve1)) (m1 := m) mz_t186 mz_v186_65 rfl rfl rfl rfl rfl (Ee1.deep (by decide)) ?_
              refine mz_go 7 (c' := (13, [some (.ref 65), some (.int (nI I)), some (.int (nI J)), some (.int ve1)], [.int ve1, .int (nI J), .int ((nI I) - 1), .ref 65], m)) rfl ?_
              refine mz_doQ (R := mz_r195) (as := [.ref 65, .int ((nI I) - 1), .int (nI J), .int ve1]) (rest := []) (r1 := some (.int ve2)) (m1 := m) mz_t195 mz_v195_65 rfl rfl rfl rfl rfl (Ee2.deep (by decide)) ?_
              refine mz_go 1 (c' := (if ve2 = 0 then 19 else 55, [some (.ref 65), some (.int (nI I)), some (.int (nI J)), some (.int ve1)], [], m)) rfl ?_
              refine mz_ifT q9 ?_
              refine mz_go 6 (c' := (25, [some (.ref 65), some (.int (nI I)), some (.int (nI J)), some (.int ve1)], [.int ve1, .int (nI J), .int ((nI I) + 1), .ref 65], m)) rfl ?_
              refine mz_doQ (R := mz_r195) (as := [.ref 65, .int ((nI I) + 1), .int (nI J), .int ve1]) (rest := []) (r1 := some (.int ve3)) (m1 := m) mz_t195 mz_v195_65 rfl rfl rfl rfl rfl (Ee3.deep (by decide)) ?_
              refine mz_go 1 (c' := (if ve3 = 0 then 31 else 55, [some (.ref 65), some (.int (nI I)), some (.int (nI J)), some (.int ve1)], [], m)) rfl ?_
              refine mz_ifT q10 ?_
              refine mz_go 6 (c' := (37, [some (.ref 65), some (.int (nI I)), some (.int (nI J)), some (.int ve1)], [.int ve1, .int ((nI J) - 1), .int (nI I), .ref 65], m)) rfl ?_
              refine mz_doQ (R := mz_r195) (as := [.ref 65, .int (nI I), .int ((nI J) - 1), .int ve1]) (rest := []) (r1 := some (.int ve4)) (m1 := m) mz_t195 mz_v195_65 rfl rfl rfl rfl rfl (Ee4.deep (by decide)) ?_
              refine mz_go 1 (c' := (if ve4 = 0 then 43 else 55, [some (.ref 65), some (.int (nI I)), some (.int (nI J)), some (.int ve1)], [], m)) rfl ?_
              refine mz_ifT q14 ?_
              refine mz_go 6 (c' := (49, [some (.ref 65), some (.int (nI I)), some (.int (nI J)), some (.int ve1)], [.int ve1, .int ((nI J) + 1), .int (nI I), .ref 65], m)) rfl ?_
              refine mz_doQ (R := mz_r195) (as := [.ref 65, .int (nI I), .int ((nI J) + 1), .int ve1]) (rest := []) (r1 := some (.int ve5)) (m1 := m) mz_t195 mz_v195_65 rfl rfl rfl rfl rfl (Ee5.deep (by decide)) ?_
              refine mz_go 1 (c' := (if ve5 = 0 then 59 else 55, [some (.ref 65), some (.int (nI I)), some (.int (nI J)), some (.int ve1)], [], m)) rfl ?_
              refine mz_ifT q15 ?_
              refine mz_go 1 (c' := (60, [some (.ref 65), some (.int (nI I)), some (.int (nI J)), some (.int ve1)], [.int 0], m)) rfl ?_
              exact mz_ret rfl
            · refine ⟨1, ⟨?_, rfl⟩⟩
              refine mz_go 3 (c' := (3, [some (.ref 65), some (.int (nI I)), some (.int (nI J)), none], [.int (nI J), .int (nI I), .ref 65], m)) rfl ?_
              refine mz_doQ (R := mz_r186) (as := [.ref 65, .int (nI I), .int (nI J)]) (rest := []) (r1 := some (.int ve1)) (m1 := m) mz_t186 mz_v186_65 rfl rfl rfl rfl rfl (Ee1.deep (by decide)) ?_
              refine mz_go 7 (c' := (13, [some (.ref 65), some (.int (nI I)), some (.int (nI J)), some (.int ve1)], [.int ve1, .int (nI J), .int ((nI I) - 1), .ref 65], m)) rfl ?_
              refine mz_doQ (R := mz_r195) (as := [.ref 65, .int ((nI I) - 1), .int (nI J), .int ve1]) (rest := []) (r1 := some (.int ve2)) (m1 := m) mz_t195 mz_v195_65 rfl rfl rfl rfl rfl (Ee2.deep (by decide)) ?_
              refine mz_go 1 (c' := (if ve2 = 0 then 19 else 55, [some (.ref 65), some (.int (nI I)), some (.int (nI J)), some (.int ve1)], [], m)) rfl ?_
              refine mz_ifT q9 ?_
              refine mz_go 6 (c' := (25, [some (.ref 65), some (.int (nI I)), some (.int (nI J)), some (.int ve1)], [.int ve1, .int (nI J), .int ((nI I) + 1), .ref 65], m)) rfl ?_
              refine mz_doQ (R := mz_r195) (as := [.ref 65, .int ((nI I) + 1), .int (nI J), .int ve1]) (rest := []) (r1 := some (.int ve3)) (m1 := m) mz_t195 mz_v195_65 rfl rfl rfl rfl rfl (Ee3.deep (by decide)) ?_
              refine mz_go 1 (c' := (if ve3 = 0 then 31 else 55, [some (.ref 65), some (.int (nI I)), some (.int (nI J)), some (.int ve1)], [], m)) rfl ?_
              refine mz_ifT q10 ?_
              refine mz_go 6 (c' := (37, [some (.ref 65), some (.int (nI I)), some (.int (nI J)), some (.int ve1)], [.int ve1, .int ((nI J) - 1), .int (nI I), .ref 65], m)) rfl ?_
              refine mz_doQ (R := mz_r195) (as := [.ref 65, .int (nI I), .int ((nI J) - 1), .int ve1]) (rest := []) (r1 := some (.int ve4)) (m1 := m) mz_t195 mz_v195_65 rfl rfl rfl rfl rfl (Ee4.deep (by decide)) ?_
              refine mz_go 1 (c' := (if ve4 = 0 then 43 else 55, [some (.ref 65), some (.int (nI I)), some (.int (nI J)), some (.int ve1)], [], m)) rfl ?_
              refine mz_ifT q14 ?_
              refine mz_go 6 (c' := (49, [some (.ref 65), some (.int (nI I)), some (.int (nI J)), some (.int ve1)], [.int ve1, .int ((nI J) + 1), .int (nI I), .ref 65], m)) rfl ?_
              refine mz_doQ (R := mz_r195) (as := [.ref 65, .int (nI I), .int ((nI J) + 1), .int ve1]) (rest := []) (r1 := some (.int ve5)) (m1 := m) mz_t195 mz_v195_65 rfl rfl rfl rfl rfl (Ee5.deep (by decide)) ?_
              refine mz_go 1 (c' := (if ve5 = 0 then 59 else 55, [some (.ref 65), some (.int (nI I)), some (.int (nI J)), some (.int ve1)], [], m)) rfl ?_
              refine mz_ifF q15 ?_
              refine mz_go 2 (c' := (60, [some (.ref 65), some (.int (nI I)), some (.int (nI J)), some (.int ve1)], [.int 1], m)) rfl ?_
              exact mz_ret rfl
          · refine ⟨1, ⟨?_, rfl⟩⟩
            refine mz_go 3 (c' := (3, [some (.ref 65), some (.int (nI I)), some (.int (nI J)), none], [.int (nI J), .int (nI I), .ref 65], m)) rfl ?_
            refine mz_doQ (R := mz_r186) (as := [.ref 65, .int (nI I), .int (nI J)]) (rest := []) (r1 := some (.int ve1)) (m1 := m) mz_t186 mz_v186_65 rfl rfl rfl rfl rfl (Ee1.deep (by decide)) ?_
            refine mz_go 7 (c' := (13, [some (.ref 65), some (.int (nI I)), some (.int (nI J)), some (.int ve1)], [.int ve1, .int (nI J), .int ((nI I) - 1), .ref 65], m)) rfl ?_
            refine mz_doQ (R := mz_r195) (as := [.ref 65, .int ((nI I) - 1), .int (nI J), .int ve1]) (rest := []) (r1 := some (.int ve2)) (m1 := m) mz_t195 mz_v195_65 rfl rfl rfl rfl rfl (Ee2.deep (by decide)) ?_
            refine mz_go 1 (c' := (if ve2 = 0 then 19 else 55, [some (.ref 65), some (.int (nI I)), some (.int (nI J)), some (.int ve1)], [], m)) rfl ?_
            refine mz_ifT q9 ?_
            refine mz_go 6 (c' := (25, [some (.ref 65), some (.int (nI I)), some (.int (nI J)), some (.int ve1)], [.int ve1, .int (nI J), .int ((nI I) + 1), .ref 65], m)) rfl ?_
            refine mz_doQ (R := mz_r195) (as := [.ref 65, .int ((nI I) + 1), .int (nI J), .int ve1]) (rest := []) (r1 := some (.int ve3)) (m1 := m) mz_t195 mz_v195_65 rfl rfl rfl rfl rfl (Ee3.deep (by decide)) ?_
            refine mz_go 1 (c' := (if ve3 = 0 then 31 else 55, [some (.ref 65), some (.int (nI I)), some (.int (nI J)), some (.int ve1)], [], m)) rfl ?_
            refine mz_ifT q10 ?_
            refine mz_go 6 (c' := (37, [some (.ref 65), some (.int (nI I)), some (.int (nI J)), some (.int ve1)], [.int ve1, .int ((nI J) - 1), .int (nI I), .ref 65], m)) rfl ?_
            refine mz_doQ (R := mz_r195) (as := [.ref 65, .int (nI I), .int ((nI J) - 1), .int ve1]) (rest := []) (r1 := some (.int ve4)) (m1 := m) mz_t195 mz_v195_65 rfl rfl rfl rfl rfl (Ee4.deep (by decide)) ?_
            refine mz_go 1 (c' := (if ve4 = 0 then 43 else 55, [some (.ref 65), some (.int (nI I)), some (.int (nI J)), some (.int ve1)], [], m)) rfl ?_
            refine mz_ifF q14 ?_
            refine mz_go 2 (c' := (60, [some (.ref 65), some (.int (nI I)), some (.int (nI J)), some (.int ve1)], [.int 1], m)) rfl ?_
            exact mz_ret rfl
      · refine ⟨1, ⟨?_, rfl⟩⟩
        refine mz_go 3 (c' := (3, [some (.ref 65), some (.int (nI I)), some (.int (nI J)), none], [.int (nI J), .int (nI I), .ref 65], m)) rfl ?_
        refine mz_doQ (R := mz_r186) (as := [.ref 65, .int (nI I), .int (nI J)]) (rest := []) (r1 := some (.int ve1)) (m1 := m) mz_t186 mz_v186_65 rfl rfl rfl rfl rfl (Ee1.deep (by decide)) ?_
        refine mz_go 7 (c' := (13, [some (.ref 65), some (.int (nI I)), some (.int (nI J)), some (.int ve1)], [.int ve1, .int (nI J), .int ((nI I) - 1), .ref 65], m)) rfl ?_
        refine mz_doQ (R := mz_r195) (as := [.ref 65, .int ((nI I) - 1), .int (nI J), .int ve1]) (rest := []) (r1 := some (.int ve2)) (m1 := m) mz_t195 mz_v195_65 rfl rfl rfl rfl rfl (Ee2.deep (by decide)) ?_
        refine mz_go 1 (c' := (if ve2 = 0 then 19 else 55, [some (.ref 65), some (.int (nI I)), some (.int (nI J)), some (.int ve1)], [], m)) rfl ?_
        refine mz_ifT q9 ?_
        refine mz_go 6 (c' := (25, [some (.ref 65), some (.int (nI I)), some (.int (nI J)), some (.int ve1)], [.int ve1, .int (nI J), .int ((nI I) + 1), .ref 65], m)) rfl ?_
        refine mz_doQ (R := mz_r195) (as := [.ref 65, .int ((nI I) + 1), .int (nI J), .int ve1]) (rest := []) (r1 := some (.int ve3)) (m1 := m) mz_t195 mz_v195_65 rfl rfl rfl rfl rfl (Ee3.deep (by decide)) ?_
        refine mz_go 1 (c' := (if ve3 = 0 then 31 else 55, [some (.ref 65), some (.int (nI I)), some (.int (nI J)), some (.int ve1)], [], m)) rfl ?_
        refine mz_ifF q10 ?_
        refine mz_go 2 (c' := (60, [some (.ref 65), some (.int (nI I)), some (.int (nI J)), some (.int ve1)], [.int 1], m)) rfl ?_
        exact mz_ret rfl
    · refine ⟨1, ⟨?_, rfl⟩⟩
      refine mz_go 3 (c' := (3, [some (.ref 65), some (.int (nI I)), some (.int (nI J)), none], [.int (nI J), .int (nI I), .ref 65], m)) rfl ?_
      refine mz_doQ (R := mz_r186) (as := [.ref 65, .int (nI I), .int (nI J)]) (rest := []) (r1 := some (.int ve1)) (m1 := m) mz_t186 mz_v186_65 rfl rfl rfl rfl rfl (Ee1.deep (by decide)) ?_
      refine mz_go 7 (c' := (13, [some (.ref 65), some (.int (nI I)), some (.int (nI J)), some (.int ve1)], [.int ve1, .int (nI J), .int ((nI I) - 1), .ref 65], m)) rfl ?_
      refine mz_doQ (R := mz_r195) (as := [.ref 65, .int ((nI I) - 1), .int (nI J), .int ve1]) (rest := []) (r1 := some (.int ve2)) (m1 := m) mz_t195 mz_v195_65 rfl rfl rfl rfl rfl (Ee2.deep (by decide)) ?_
      refine mz_go 1 (c' := (if ve2 = 0 then 19 else 55, [some (.ref 65), some (.int (nI I)), some (.int (nI J)), some (.int ve1)], [], m)) rfl ?_
      refine mz_ifF q9 ?_
      refine mz_go 2 (c' := (60, [some (.ref 65), some (.int (nI I)), some (.int (nI J)), some (.int ve1)], [.int 1], m)) rfl ?_
      exact mz_ret rfl
set_option maxHeartbeats 4000000 in
set_option maxRecDepth 100000 in
theorem xr_aroi {m : mz_M} {WW HH : Nat} (hWW : WW ≤ 6) (hHH : HH ≤ 6) (hWH : WW = 0 ↔ HH = 0) (h6660 : m 66 60 = nI WW) (h6661 : m 66 61 = nI HH) (c : Int32) {i j d : Int32} (hBi : sm_B 1000 i) (hBj : sm_B 1000 j) (hBd : sm_B 1000 d) (x6 : Int32) (HX : ∀ (x7 : Int32) (x5 : Int32), ∃ v, mz_Ex 14 mz_k192 (72, [some (.ref 65), some (.int c), some (.int i), some (.int j), some (.int d), some (.int x5), some (.int x6), some (.int x7)], [], m) (some (.int v), m)) : ∀ fu : Nat, ∀ x7 : Int32, (j + d).toInt - x7.toInt < (fu : Int) → ∀ (x5 : Int32), ∃ v, mz_Ex 14 mz_k192 (24, [some (.ref 65), some (.int c), some (.int i), some (.int j), some (.int d), some (.int x5), some (.int x6), some (.int x7)], [], m) (some (.int v), m) := by
  intro fu
  induction fu with
  | zero =>
    intro x7 hms x5
    have hmz : (j + d) < x7 := sm_mz1 hms
    obtain ⟨vr, hr⟩ := HX x7 x5
    refine ⟨vr, ?_⟩
    refine mz_go 5 (c' := (if (j + d) < x7 then 72 else 33, [some (.ref 65), some (.int c), some (.int i), some (.int j), some (.int d), some (.int x5), some (.int x6), some (.int x7)], [], m)) rfl ?_
    refine mz_ifT hmz ?_
    exact hr
  | succ fu ih =>
    intro x7 hms x5
    by_cases q1 : (j + d) < x7
    · obtain ⟨vr, hr⟩ := HX x7 x5
      refine ⟨vr, ?_⟩
      refine mz_go 5 (c' := (if (j + d) < x7 then 72 else 33, [some (.ref 65), some (.int c), some (.int i), some (.int j), some (.int d), some (.int x5), some (.int x6), some (.int x7)], [], m)) rfl ?_
      refine mz_ifT q1 ?_
      exact hr
    · by_cases q2 : WW = 0
      · by_cases q3 : x6 < 0
        · obtain ⟨vr, hr⟩ := ih (x7 + 1) (sm_me1 (sm_hA hBj hBd) q1 hms) (x5 + 0)
          refine ⟨vr, ?_⟩
          refine mz_go 5 (c' := (if (j + d) < x7 then 72 else 33, [some (.ref 65), some (.int c), some (.int i), some (.int j), some (.int d), some (.int x5), some (.int x6), some (.int x7)], [], m)) rfl ?_
          refine mz_ifF q1 ?_
          refine mz_go 4 (c' := (40, [some (.ref 65), some (.int c), some (.int i), some (.int j), some (.int d), some (.int x5), some (.int x6), some (.int x7)], [.int x7, .int x6, .ref 65, .int x5], m)) rfl ?_
          refine mz_doQ (R := mz_r187) (as := [.ref 65, .int x6, .int x7]) (rest := [.int x5]) (r1 := some (.int 0)) (m1 := m) mz_t187 mz_v187_65 rfl rfl rfl rfl rfl ⟨?_, rfl⟩ ?_
          · refine mz_go 3 (c' := (3, [some (.ref 65), some (.int x6), some (.int x7)], [.ref 65, .int 0, .int x6], m)) rfl ?_
            refine mz_doQ (R := mz_r183) (as := [.ref 65]) (rest := [.int 0, .int x6]) (r1 := some (.int (nI WW))) (m1 := m) mz_t183 mz_v183_65 rfl rfl rfl rfl rfl ⟨?_, rfl⟩ ?_
            · refine mz_go 4 (c' := (7, [some (.ref 65)], [.int (m 66 60)], m)) rfl ?_
              rw [h6660]
              exact mz_ret rfl
            refine mz_go 2 (c' := (8, [some (.ref 65), some (.int x6), some (.int x7)], [.int ((nI WW) - 1), .int 0, .int x6], m)) rfl ?_
            rw [show nI WW - 1 = -1 from by rw [show WW = 0 by omega]; decide]
            refine mz_doQ (R := mz_r128) (as := [.int x6, .int 0, .int (-1)]) (rest := []) (r1 := some (.int 0)) (m1 := m) mz_t128 mz_v128 rfl rfl rfl rfl rfl ((ct_inL (m := m) (v := x6) (a := 0) (b := (-1)) q3).deep (by decide)) ?_
            refine mz_go 2 (c' := (33, [some (.ref 65), some (.int x6), some (.int x7)], [.int 0], m)) rfl ?_
            exact mz_ret rfl
          refine mz_go 6 (c' := (24, [some (.ref 65), some (.int c), some (.int i), some (.int j), some (.int d), some (.int (x5 + 0)), some (.int x6), some (.int (x7 + 1))], [], m)) rfl ?_
          exact hr
        · obtain ⟨vr, hr⟩ := ih (x7 + 1) (sm_me1 (sm_hA hBj hBd) q1 hms) (x5 + 0)
          refine ⟨vr, ?_⟩
          refine mz_go 5 (c' := (if (j + d) < x7 then 72 else 33, [some (.ref 65), some (.int c), some (.int i), some (.int j), some (.int d), some (.int x5), some (.int x6), some (.int x7)], [], m)) rfl ?_
          refine mz_ifF q1 ?_
          refine mz_go 4 (c' := (40, [some (.ref 65), some (.int c), some (.int i), some (.int j), some (.int d), some (.int x5), some (.int x6), some (.int x7)], [.int x7, .int x6, .ref 65, .int x5], m)) rfl ?_
          refine mz_doQ (R := mz_r187) (as := [.ref 65, .int x6, .int x7]) (rest := [.int x5]) (r1 := some (.int 0)) (m1 := m) mz_t187 mz_v187_65 rfl rfl rfl rfl rfl ⟨?_, rfl⟩ ?_
          · refine mz_go 3 (c' := (3, [some (.ref 65), some (.int x6), some (.int x7)], [.ref 65, .int 0, .int x6], m)) rfl ?_
            refine mz_doQ (R := mz_r183) (as := [.ref 65]) (rest := [.int 0, .int x6]) (r1 := some (.int (nI WW))) (m1 := m) mz_t183 mz_v183_65 rfl rfl rfl rfl rfl ⟨?_, rfl⟩ ?_
            · refine mz_go 4 (c' := (7, [some (.ref 65)], [.int (m 66 60)], m)) rfl ?_
              rw [h6660]
              exact mz_ret rfl
            refine mz_go 2 (c' := (8, [some (.ref 65), some (.int x6), some (.int x7)], [.int ((nI WW) - 1), .int 0, .int x6], m)) rfl ?_
            rw [show nI WW - 1 = -1 from by rw [show WW = 0 by omega]; decide]
            refine mz_doQ (R := mz_r128) (as := [.int x6, .int 0, .int (-1)]) (rest := []) (r1 := some (.int 0)) (m1 := m) mz_t128 mz_v128 rfl rfl rfl rfl rfl ((ct_inG (m := m) (v := x6) (a := 0) (b := (-1)) q3 (by have hl : (0 : Int) ≤ (x6).toInt := Int32.le_iff_toInt_le.mp (Int32.not_lt.mp q3); exact Int32.lt_iff_toInt_lt.mpr (show (-1 : Int) < (x6).toInt by omega))).deep (by decide)) ?_
            refine mz_go 2 (c' := (33, [some (.ref 65), some (.int x6), some (.int x7)], [.int 0], m)) rfl ?_
            exact mz_ret rfl
          refine mz_go 6 (c' := (24, [some (.ref 65), some (.int c), some (.int i), some (.int j), some (.int d), some (.int (x5 + 0)), some (.int x6), some (.int (x7 + 1))], [], m)) rfl ?_
          exact hr
      · by_cases q4 : x6 < 0
        · obtain ⟨vr, hr⟩ := ih (x7 + 1) (sm_me1 (sm_hA hBj hBd) q1 hms) (x5 + 0)
          refine ⟨vr, ?_⟩
          refine mz_go 5 (c' := (if (j + d) < x7 then 72 else 33, [some (.ref 65), some (.int c), some (.int i), some (.int j), some (.int d), some (.int x5), some (.int x6), some (.int x7)], [], m)) rfl ?_
          refine mz_ifF q1 ?_
          refine mz_go 4 (c' := (40, [some (.ref 65), some (.int c), some (.int i), some (.int j), some (.int d), some (.int x5), some (.int x6), some (.int x7)], [.int x7, .int x6, .ref 65, .int x5], m)) rfl ?_
          refine mz_doQ (R := mz_r187) (as := [.ref 65, .int x6, .int x7]) (rest := [.int x5]) (r1 := some (.int 0)) (m1 := m) mz_t187 mz_v187_65 rfl rfl rfl rfl rfl ⟨?_, rfl⟩ ?_
          · refine mz_go 3 (c' := (3, [some (.ref 65), some (.int x6), some (.int x7)], [.ref 65, .int 0, .int x6], m)) rfl ?_
            refine mz_doQ (R := mz_r183) (as := [.ref 65]) (rest := [.int 0, .int x6]) (r1 := some (.int (nI WW))) (m1 := m) mz_t183 mz_v183_65 rfl rfl rfl rfl rfl ⟨?_, rfl⟩ ?_
            · refine mz_go 4 (c' := (7, [some (.ref 65)], [.int (m 66 60)], m)) rfl ?_
              rw [h6660]
              exact mz_ret rfl
            refine mz_go 2 (c' := (8, [some (.ref 65), some (.int x6), some (.int x7)], [.int ((nI WW) - 1), .int 0, .int x6], m)) rfl ?_
            refine mz_doQ (R := mz_r128) (as := [.int x6, .int 0, .int ((nI WW) - 1)]) (rest := []) (r1 := some (.int 0)) (m1 := m) mz_t128 mz_v128 rfl rfl rfl rfl rfl ((ct_inL (m := m) (v := x6) (a := 0) (b := (nI WW) - 1) q4).deep (by decide)) ?_
            refine mz_go 2 (c' := (33, [some (.ref 65), some (.int x6), some (.int x7)], [.int 0], m)) rfl ?_
            exact mz_ret rfl
          refine mz_go 6 (c' := (24, [some (.ref 65), some (.int c), some (.int i), some (.int j), some (.int d), some (.int (x5 + 0)), some (.int x6), some (.int (x7 + 1))], [], m)) rfl ?_
          exact hr
        · obtain ⟨jx6, hjx6, rfl⟩ := nI_of q4
          by_cases q5 : (WW - 1) < jx6
          · obtain ⟨vr, hr⟩ := ih (x7 + 1) (sm_me1 (sm_hA hBj hBd) q1 hms) (x5 + 0)
            refine ⟨vr, ?_⟩
            refine mz_go 5 (c' := (if (j + d) < x7 then 72 else 33, [some (.ref 65), some (.int c), some (.int i), some (.int j), some (.int d), some (.int x5), some (.int (nI jx6)), some (.int x7)], [], m)) rfl ?_
            refine mz_ifF q1 ?_
            refine mz_go 4 (c' := (40, [some (.ref 65), some (.int c), some (.int i), some (.int j), some (.int d), some (.int x5), some (.int (nI jx6)), some (.int x7)], [.int x7, .int (nI jx6), .ref 65, .int x5], m)) rfl ?_
            refine mz_doQ (R := mz_r187) (as := [.ref 65, .int (nI jx6), .int x7]) (rest := [.int x5]) (r1 := some (.int 0)) (m1 := m) mz_t187 mz_v187_65 rfl rfl rfl rfl rfl ⟨?_, rfl⟩ ?_
            · refine mz_go 3 (c' := (3, [some (.ref 65), some (.int (nI jx6)), some (.int x7)], [.ref 65, .int 0, .int (nI jx6)], m)) rfl ?_
              refine mz_doQ (R := mz_r183) (as := [.ref 65]) (rest := [.int 0, .int (nI jx6)]) (r1 := some (.int (nI WW))) (m1 := m) mz_t183 mz_v183_65 rfl rfl rfl rfl rfl ⟨?_, rfl⟩ ?_
              · refine mz_go 4 (c' := (7, [some (.ref 65)], [.int (m 66 60)], m)) rfl ?_
                rw [h6660]
                exact mz_ret rfl
              refine mz_go 2 (c' := (8, [some (.ref 65), some (.int (nI jx6)), some (.int x7)], [.int ((nI WW) - 1), .int 0, .int (nI jx6)], m)) rfl ?_
              refine mz_doQ (R := mz_r128) (as := [.int (nI jx6), .int 0, .int ((nI WW) - 1)]) (rest := []) (r1 := some (.int 0)) (m1 := m) mz_t128 mz_v128 rfl rfl rfl rfl rfl ((ct_inG (m := m) (v := nI jx6) (a := 0) (b := (nI WW) - 1) q4 (show (((nI WW) - 1) < (nI jx6)) from (sm_ltN (sm_subN (a := WW) (b := 1) rfl rfl (by omega)) rfl (show (WW - 1) < jx6 by omega) (show jx6 < 2 ^ 31 by omega)))).deep (by decide)) ?_
              refine mz_go 2 (c' := (33, [some (.ref 65), some (.int (nI jx6)), some (.int x7)], [.int 0], m)) rfl ?_
              exact mz_ret rfl
            refine mz_go 6 (c' := (24, [some (.ref 65), some (.int c), some (.int i), some (.int j), some (.int d), some (.int (x5 + 0)), some (.int (nI jx6)), some (.int (x7 + 1))], [], m)) rfl ?_
            exact hr
          · by_cases q6 : x7 < 0
            · obtain ⟨vr, hr⟩ := ih (x7 + 1) (sm_me1 (sm_hA hBj hBd) q1 hms) (x5 + 0)
              refine ⟨vr, ?_⟩
              refine mz_go 5 (c' := (if (j + d) < x7 then 72 else 33, [some (.ref 65), some (.int c), some (.int i), some (.int j), some (.int d), some (.int x5), some (.int (nI jx6)), some (.int x7)], [], m)) rfl ?_
              refine mz_ifF q1 ?_
              refine mz_go 4 (c' := (40, [some (.ref 65), some (.int c), some (.int i), some (.int j), some (.int d), some (.int x5), some (.int (nI jx6)), some (.int x7)], [.int x7, .int (nI jx6), .ref 65, .int x5], m)) rfl ?_
              refine mz_doQ (R := mz_r187) (as := [.ref 65, .int (nI jx6), .int x7]) (rest := [.int x5]) (r1 := some (.int 0)) (m1 := m) mz_t187 mz_v187_65 rfl rfl rfl rfl rfl ⟨?_, rfl⟩ ?_
              · refine mz_go 3 (c' := (3, [some (.ref 65), some (.int (nI jx6)), some (.int x7)], [.ref 65, .int 0, .int (nI jx6)], m)) rfl ?_
                refine mz_doQ (R := mz_r183) (as := [.ref 65]) (rest := [.int 0, .int (nI jx6)]) (r1 := some (.int (nI WW))) (m1 := m) mz_t183 mz_v183_65 rfl rfl rfl rfl rfl ⟨?_, rfl⟩ ?_
                · refine mz_go 4 (c' := (7, [some (.ref 65)], [.int (m 66 60)], m)) rfl ?_
                  rw [h6660]
                  exact mz_ret rfl
                refine mz_go 2 (c' := (8, [some (.ref 65), some (.int (nI jx6)), some (.int x7)], [.int ((nI WW) - 1), .int 0, .int (nI jx6)], m)) rfl ?_
                refine mz_doQ (R := mz_r128) (as := [.int (nI jx6), .int 0, .int ((nI WW) - 1)]) (rest := []) (r1 := some (.int 1)) (m1 := m) mz_t128 mz_v128 rfl rfl rfl rfl rfl ((ct_in1 (m := m) (v := nI jx6) (a := 0) (b := (nI WW) - 1) q4 (show ¬ (((nI WW) - 1) < (nI jx6)) from (sm_nltN (sm_subN (a := WW) (b := 1) rfl rfl (by omega)) rfl (show jx6 ≤ (WW - 1) by omega) (show (WW - 1) < 2 ^ 31 by omega)))).deep (by decide)) ?_
                refine mz_go 4 (c' := (17, [some (.ref 65), some (.int (nI jx6)), some (.int x7)], [.ref 65, .int 0, .int x7], m)) rfl ?_
                refine mz_doQ (R := mz_r184) (as := [.ref 65]) (rest := [.int 0, .int x7]) (r1 := some (.int (nI HH))) (m1 := m) mz_t184 mz_v184_65 rfl rfl rfl rfl rfl ⟨?_, rfl⟩ ?_
                · refine mz_go 4 (c' := (7, [some (.ref 65)], [.int (m 66 61)], m)) rfl ?_
                  rw [h6661]
                  exact mz_ret rfl
                refine mz_go 2 (c' := (22, [some (.ref 65), some (.int (nI jx6)), some (.int x7)], [.int ((nI HH) - 1), .int 0, .int x7], m)) rfl ?_
                refine mz_doQ (R := mz_r128) (as := [.int x7, .int 0, .int ((nI HH) - 1)]) (rest := []) (r1 := some (.int 0)) (m1 := m) mz_t128 mz_v128 rfl rfl rfl rfl rfl ((ct_inL (m := m) (v := x7) (a := 0) (b := (nI HH) - 1) q6).deep (by decide)) ?_
                refine mz_go 2 (c' := (33, [some (.ref 65), some (.int (nI jx6)), some (.int x7)], [.int 0], m)) rfl ?_
                exact mz_ret rfl
              refine mz_go 6 (c' := (24, [some (.ref 65), some (.int c), some (.int i), some (.int j), some (.int d), some (.int (x5 + 0)), some (.int (nI jx6)), some (.int (x7 + 1))], [], m)) rfl ?_
              exact hr
            · obtain ⟨jx7, hjx7, rfl⟩ := nI_of q6
              by_cases q7 : (HH - 1) < jx7
              · obtain ⟨vr, hr⟩ := ih ((nI jx7) + 1) (sm_me1 (sm_hA hBj hBd) q1 hms) (x5 + 0)
                refine ⟨vr, ?_⟩
                refine mz_go 5 (c' := (if (j + d) < (nI jx7) then 72 else 33, [some (.ref 65), some (.int c), some (.int i), some (.int j), some (.int d), some (.int x5), some (.int (nI jx6)), some (.int (nI jx7))], [], m)) rfl ?_
                refine mz_ifF q1 ?_
                refine mz_go 4 (c' := (40, [some (.ref 65), some (.int c), some (.int i), some (.int j), some (.int d), some (.int x5), some (.int (nI jx6)), some (.int (nI jx7))], [.int (nI jx7), .int (nI jx6), .ref 65, .int x5], m)) rfl ?_
                refine mz_doQ (R := mz_r187) (as := [.ref 65, .int (nI jx6), .int (nI jx7)]) (rest := [.int x5]) (r1 := some (.int 0)) (m1 := m) mz_t187 mz_v187_65 rfl rfl rfl rfl rfl ⟨?_, rfl⟩ ?_
                · refine mz_go 3 (c' := (3, [some (.ref 65), some (.int (nI jx6)), some (.int (nI jx7))], [.ref 65, .int 0, .int (nI jx6)], m)) rfl ?_
                  refine mz_doQ (R := mz_r183) (as := [.ref 65]) (rest := [.int 0, .int (nI jx6)]) (r1 := some (.int (nI WW))) (m1 := m) mz_t183 mz_v183_65 rfl rfl rfl rfl rfl ⟨?_, rfl⟩ ?_
                  · refine mz_go 4 (c' := (7, [some (.ref 65)], [.int (m 66 60)], m)) rfl ?_
                    rw [h6660]
                    exact mz_ret rfl
                  refine mz_go 2 (c' := (8, [some (.ref 65), some (.int (nI jx6)), some (.int (nI jx7))], [.int ((nI WW) - 1), .int 0, .int (nI jx6)], m)) rfl ?_
                  refine mz_doQ (R := mz_r128) (as := [.int (nI jx6), .int 0, .int ((nI WW) - 1)]) (rest := []) (r1 := some (.int 1)) (m1 := m) mz_t128 mz_v128 rfl rfl rfl rfl rfl ((ct_in1 (m := m) (v := nI jx6) (a := 0) (b := (nI WW) - 1) q4 (show ¬ (((nI WW) - 1) < (nI jx6)) from (sm_nltN (sm_subN (a := WW) (b := 1) rfl rfl (by omega)) rfl (show jx6 ≤ (WW - 1) by omega) (show (WW - 1) < 2 ^ 31 by omega)))).deep (by decide)) ?_
                  refine mz_go 4 (c' := (17, [some (.ref 65), some (.int (nI jx6)), some (.int (nI jx7))], [.ref 65, .int 0, .int (nI jx7)], m)) rfl ?_
                  refine mz_doQ (R := mz_r184) (as := [.ref 65]) (rest := [.int 0, .int (nI jx7)]) (r1 := some (.int (nI HH))) (m1 := m) mz_t184 mz_v184_65 rfl rfl rfl rfl rfl ⟨?_, rfl⟩ ?_
                  · refine mz_go 4 (c' := (7, [some (.ref 65)], [.int (m 66 61)], m)) rfl ?_
                    rw [h6661]
                    exact mz_ret rfl
                  refine mz_go 2 (c' := (22, [some (.ref 65), some (.int (nI jx6)), some (.int (nI jx7))], [.int ((nI HH) - 1), .int 0, .int (nI jx7)], m)) rfl ?_
                  refine mz_doQ (R := mz_r128) (as := [.int (nI jx7), .int 0, .int ((nI HH) - 1)]) (rest := []) (r1 := some (.int 0)) (m1 := m) mz_t128 mz_v128 rfl rfl rfl rfl rfl ((ct_inG (m := m) (v := nI jx7) (a := 0) (b := (nI HH) - 1) q6 (show (((nI HH) - 1) < (nI jx7)) from (sm_ltN (sm_subN (a := HH) (b := 1) rfl rfl (by omega)) rfl (show (HH - 1) < jx7 by omega) (show jx7 < 2 ^ 31 by omega)))).deep (by decide)) ?_
                  refine mz_go 2 (c' := (33, [some (.ref 65), some (.int (nI jx6)), some (.int (nI jx7))], [.int 0], m)) rfl ?_
                  exact mz_ret rfl
                refine mz_go 6 (c' := (24, [some (.ref 65), some (.int c), some (.int i), some (.int j), some (.int d), some (.int (x5 + 0)), some (.int (nI jx6)), some (.int ((nI jx7) + 1))], [], m)) rfl ?_
                exact hr
              · obtain ⟨ve1, Ee1⟩ := xr_col (m := m) (A := jx6) (B := jx7) (by omega) (by omega) (a := nI jx6) (b := nI jx7) rfl rfl
                by_cases q8 : ve1 = c
                · obtain ⟨vr, hr⟩ := ih ((nI jx7) + 1) (sm_me1 (sm_hA hBj hBd) q1 hms) (x5 + 1)
                  refine ⟨vr, ?_⟩
                  refine mz_go 5 (c' := (if (j + d) < (nI jx7) then 72 else 33, [some (.ref 65), some (.int c), some (.int i), some (.int j), some (.int d), some (.int x5), some (.int (nI jx6)), some (.int (nI jx7))], [], m)) rfl ?_
                  refine mz_ifF q1 ?_
                  refine mz_go 4 (c' := (40, [some (.ref 65), some (.int c), some (.int i), some (.int j), some (.int d), some (.int x5), some (.int (nI jx6)), some (.int (nI jx7))], [.int (nI jx7), .int (nI jx6), .ref 65, .int x5], m)) rfl ?_
                  refine mz_doQ (R := mz_r187) (as := [.ref 65, .int (nI jx6), .int (nI jx7)]) (rest := [.int x5]) (r1 := some (.int 1)) (m1 := m) mz_t187 mz_v187_65 rfl rfl rfl rfl rfl ⟨?_, rfl⟩ ?_
                  · refine mz_go 3 (c' := (3, [some (.ref 65), some (.int (nI jx6)), some (.int (nI jx7))], [.ref 65, .int 0, .int (nI jx6)], m)) rfl ?_
                    refine mz_doQ (R := mz_r183) (as := [.ref 65]) (rest := [.int 0, .int (nI jx6)]) (r1 := some (.int (nI WW))) (m1 := m) mz_t183 mz_v183_65 rfl rfl rfl rfl rfl ⟨?_, rfl⟩ ?_
                    · refine mz_go 4 (c' := (7, [some (.ref 65)], [.int (m 66 60)], m)) rfl ?_
                      rw [h6660]
                      exact mz_ret rfl
                    refine mz_go 2 (c' := (8, [some (.ref 65), some (.int (nI jx6)), some (.int (nI jx7))], [.int ((nI WW) - 1), .int 0, .int (nI jx6)], m)) rfl ?_
                    refine mz_doQ (R := mz_r128) (as := [.int (nI jx6), .int 0, .int ((nI WW) - 1)]) (rest := []) (r1 := some (.int 1)) (m1 := m) mz_t128 mz_v128 rfl rfl rfl rfl rfl ((ct_in1 (m := m) (v := nI jx6) (a := 0) (b := (nI WW) - 1) q4 (show ¬ (((nI WW) - 1) < (nI jx6)) from (sm_nltN (sm_subN (a := WW) (b := 1) rfl rfl (by omega)) rfl (show jx6 ≤ (WW - 1) by omega) (show (WW - 1) < 2 ^ 31 by omega)))).deep (by decide)) ?_
                    refine mz_go 4 (c' := (17, [some (.ref 65), some (.int (nI jx6)), some (.int (nI jx7))], [.ref 65, .int 0, .int (nI jx7)], m)) rfl ?_
                    refine mz_doQ (R := mz_r184) (as := [.ref 65]) (rest := [.int 0, .int (nI jx7)]) (r1 := some (.int (nI HH))) (m1 := m) mz_t184 mz_v184_65 rfl rfl rfl rfl rfl ⟨?_, rfl⟩ ?_
                    · refine mz_go 4 (c' := (7, [some (.ref 65)], [.int (m 66 61)], m)) rfl ?_
                      rw [h6661]
                      exact mz_ret rfl
                    refine mz_go 2 (c' := (22, [some (.ref 65), some (.int (nI jx6)), some (.int (nI jx7))], [.int ((nI HH) - 1), .int 0, .int (nI jx7)], m)) rfl ?_
                    refine mz_doQ (R := mz_r128) (as := [.int (nI jx7), .int 0, .int ((nI HH) - 1)]) (rest := []) (r1 := some (.int 1)) (m1 := m) mz_t128 mz_v128 rfl rfl rfl rfl rfl ((ct_in1 (m := m) (v := nI jx7) (a := 0) (b := (nI HH) - 1) q6 (show ¬ (((nI HH) - 1) < (nI jx7)) from (sm_nltN (sm_subN (a := HH) (b := 1) rfl rfl (by omega)) rfl (show jx7 ≤ (HH - 1) by omega) (show (HH - 1) < 2 ^ 31 by omega)))).deep (by decide)) ?_
                    refine mz_go 3 (c' := (33, [some (.ref 65), some (.int (nI jx6)), some (.int (nI jx7))], [.int 1], m)) rfl ?_
                    exact mz_ret rfl
                  refine mz_go 4 (c' := (51, [some (.ref 65), some (.int c), some (.int i), some (.int j), some (.int d), some (.int x5), some (.int (nI jx6)), some (.int (nI jx7))], [.int (nI jx7), .int (nI jx6), .ref 65, .int x5], m)) rfl ?_
                  refine mz_doQ (R := mz_r186) (as := [.ref 65, .int (nI jx6), .int (nI jx7)]) (rest := [.int x5]) (r1 := some (.int ve1)) (m1 := m) mz_t186 mz_v186_65 rfl rfl rfl rfl rfl (Ee1.deep (by decide)) ?_
                  refine mz_go 2 (c' := (if ve1 = c then 58 else 62, [some (.ref 65), some (.int c), some (.int i), some (.int j), some (.int d), some (.int x5), some (.int (nI jx6)), some (.int (nI jx7))], [.int x5], m)) rfl ?_
                  refine mz_ifT q8 ?_
                  refine mz_go 6 (c' := (24, [some (.ref 65), some (.int c), some (.int i), some (.int j), some (.int d), some (.int (x5 + 1)), some (.int (nI jx6)), some (.int ((nI jx7) + 1))], [], m)) rfl ?_
                  exact hr
                · obtain ⟨vr, hr⟩ := ih ((nI jx7) + 1) (sm_me1 (sm_hA hBj hBd) q1 hms) (x5 + 0)
                  refine ⟨vr, ?_⟩
                  refine mz_go 5 (c' := (if (j + d) < (nI jx7) then 72 else 33, [some (.ref 65), some (.int c), some (.int i), some (.int j), some (.int d), some (.int x5), some (.int (nI jx6)), some (.int (nI jx7))], [], m)) rfl ?_
                  refine mz_ifF q1 ?_
                  refine mz_go 4 (c' := (40, [some (.ref 65), some (.int c), some (.int i), some (.int j), some (.int d), some (.int x5), some (.int (nI jx6)), some (.int (nI jx7))], [.int (nI jx7), .int (nI jx6), .ref 65, .int x5], m)) rfl ?_
                  refine mz_doQ (R := mz_r187) (as := [.ref 65, .int (nI jx6), .int (nI jx7)]) (rest := [.int x5]) (r1 := some (.int 1)) (m1 := m) mz_t187 mz_v187_65 rfl rfl rfl rfl rfl ⟨?_, rfl⟩ ?_
                  · refine mz_go 3 (c' := (3, [some (.ref 65), some (.int (nI jx6)), some (.int (nI jx7))], [.ref 65, .int 0, .int (nI jx6)], m)) rfl ?_
                    refine mz_doQ (R := mz_r183) (as := [.ref 65]) (rest := [.int 0, .int (nI jx6)]) (r1 := some (.int (nI WW))) (m1 := m) mz_t183 mz_v183_65 rfl rfl rfl rfl rfl ⟨?_, rfl⟩ ?_
                    · refine mz_go 4 (c' := (7, [some (.ref 65)], [.int (m 66 60)], m)) rfl ?_
                      rw [h6660]
                      exact mz_ret rfl
                    refine mz_go 2 (c' := (8, [some (.ref 65), some (.int (nI jx6)), some (.int (nI jx7))], [.int ((nI WW) - 1), .int 0, .int (nI jx6)], m)) rfl ?_
                    refine mz_doQ (R := mz_r128) (as := [.int (nI jx6), .int 0, .int ((nI WW) - 1)]) (rest := []) (r1 := some (.int 1)) (m1 := m) mz_t128 mz_v128 rfl rfl rfl rfl rfl ((ct_in1 (m := m) (v := nI jx6) (a := 0) (b := (nI WW) - 1) q4 (show ¬ (((nI WW) - 1) < (nI jx6)) from (sm_nltN (sm_subN (a := WW) (b := 1) rfl rfl (by omega)) rfl (show jx6 ≤ (WW - 1) by omega) (show (WW - 1) < 2 ^ 31 by omega)))).deep (by decide)) ?_
                    refine mz_go 4 (c' := (17, [some (.ref 65), some (.int (nI jx6)), some (.int (nI jx7))], [.ref 65, .int 0, .int (nI jx7)], m)) rfl ?_
                    refine mz_doQ (R := mz_r184) (as := [.ref 65]) (rest := [.int 0, .int (nI jx7)]) (r1 := some (.int (nI HH))) (m1 := m) mz_t184 mz_v184_65 rfl rfl rfl rfl rfl ⟨?_, rfl⟩ ?_
                    · refine mz_go 4 (c' := (7, [some (.ref 65)], [.int (m 66 61)], m)) rfl ?_
                      rw [h6661]
                      exact mz_ret rfl
                    refine mz_go 2 (c' := (22, [some (.ref 65), some (.int (nI jx6)), some (.int (nI jx7))], [.int ((nI HH) - 1), .int 0, .int (nI jx7)], m)) rfl ?_
                    refine mz_doQ (R := mz_r128) (as := [.int (nI jx7), .int 0, .int ((nI HH) - 1)]) (rest := []) (r1 := some (.int 1)) (m1 := m) mz_t128 mz_v128 rfl rfl rfl rfl rfl ((ct_in1 (m := m) (v := nI jx7) (a := 0) (b := (nI HH) - 1) q6 (show ¬ (((nI HH) - 1) < (nI jx7)) from (sm_nltN (sm_subN (a := HH) (b := 1) rfl rfl (by omega)) rfl (show jx7 ≤ (HH - 1) by omega) (show (HH - 1) < 2 ^ 31 by omega)))).deep (by decide)) ?_
                    refine mz_go 3 (c' := (33, [some (.ref 65), some (.int (nI jx6)), some (.int (nI jx7))], [.int 1], m)) rfl ?_
                    exact mz_ret rfl
                  refine mz_go 4 (c' := (51, [some (.ref 65), some (.int c), some (.int i), some (.int j), some (.int d), some (.int x5), some (.int (nI jx6)), some (.int (nI jx7))], [.int (nI jx7), .int (nI jx6), .ref 65, .int x5], m)) rfl ?_
                  refine mz_doQ (R := mz_r186) (as := [.ref 65, .int (nI jx6), .int (nI jx7)]) (rest := [.int x5]) (r1 := some (.int ve1)) (m1 := m) mz_t186 mz_v186_65 rfl rfl rfl rfl rfl (Ee1.deep (by decide)) ?_
                  refine mz_go 2 (c' := (if ve1 = c then 58 else 62, [some (.ref 65), some (.int c), some (.int i), some (.int j), some (.int d), some (.int x5), some (.int (nI jx6)), some (.int (nI jx7))], [.int x5], m)) rfl ?_
                  refine mz_ifF q8 ?_
                  refine mz_go 5 (c' := (24, [some (.ref 65), some (.int c), some (.int i), some (.int j), some (.int d), some (.int (x5 + 0)), some (.int (nI jx6)), some (.int ((nI jx7) + 1))], [], m)) rfl ?_
                  exact hr
set_option maxHeartbeats 4000000 in
set_option maxRecDepth 100000 in
theorem xr_aroj {m : mz_M} {WW HH : Nat} (hWW : WW ≤ 6) (hHH : HH ≤ 6) (hWH : WW = 0 ↔ HH = 0) (h6660 : m 66 60 = nI WW) (h6661 : m 66 61 = nI HH) (c : Int32) {i j d : Int32} (hBi : sm_B 1000 i) (hBj : sm_B 1000 j) (hBd : sm_B 1000 d)  (HX : ∀ (x6 : Int32) (x5 : Int32) (x7 : Option Value), ∃ v, mz_Ex 14 mz_k192 (78, [some (.ref 65), some (.int c), some (.int i), some (.int j), some (.int d), some (.int x5), some (.int x6), x7], [], m) (some (.int v), m)) : ∀ fu : Nat, ∀ x6 : Int32, (i + d).toInt - x6.toInt < (fu : Int) → ∀ (x5 : Int32) (x7 : Option Value), ∃ v, mz_Ex 14 mz_k192 (9, [some (.ref 65), some (.int c), some (.int i), some (.int j), some (.int d), some (.int x5), some (.int x6), x7], [], m) (some (.int v), m) := by
  intro fu
  induction fu with
  | zero =>
    intro x6 hms x5 x7
    have hmz : (i + d) < x6 := sm_mz1 hms
    obtain ⟨vr, hr⟩ := HX x6 x5 x7
    refine ⟨vr, ?_⟩
    refine mz_go 5 (c' := (if (i + d) < x6 then 78 else 18, [some (.ref 65), some (.int c), some (.int i), some (.int j), some (.int d), some (.int x5), some (.int x6), x7], [], m)) rfl ?_
    refine mz_ifT hmz ?_
    exact hr
  | succ fu ih =>
    intro x6 hms x5 x7
    by_cases q1 : (i + d) < x6
    · obtain ⟨vr, hr⟩ := HX x6 x5 x7
      refine ⟨vr, ?_⟩
      refine mz_go 5 (c' := (if (i + d) < x6 then 78 else 18, [some (.ref 65), some (.int c), some (.int i), some (.int j), some (.int d), some (.int x5), some (.int x6), x7], [], m)) rfl ?_
      refine mz_ifT q1 ?_
      exact hr
    · have HX1 : ∀ (x7_1 : Int32) (x5_1 : Int32), ∃ v, mz_Ex 14 mz_k192 (72, [some (.ref 65), some (.int c), some (.int i), some (.int j), some (.int d), some (.int x5_1), some (.int x6), some (.int x7_1)], [], m) (some (.int v), m) := by
        intro x7_1 x5_1
        obtain ⟨vr, hr⟩ := ih (x6 + 1) (sm_me1 (sm_hA hBi hBd) q1 hms) x5_1 (some (.int x7_1))
        refine ⟨vr, ?_⟩
        refine mz_go 2 (c' := (9, [some (.ref 65), some (.int c), some (.int i), some (.int j), some (.int d), some (.int x5_1), some (.int (x6 + 1)), some (.int x7_1)], [], m)) rfl ?_
        exact hr
      obtain ⟨vr, hr⟩ := xr_aroi hWW hHH hWH h6660 h6661 c hBi hBj hBd x6 HX1 ((j + d : Int32).toInt - (j - d : Int32).toInt + 1).toNat (j - d) (by omega) x5
      refine ⟨vr, ?_⟩
      refine mz_go 5 (c' := (if (i + d) < x6 then 78 else 18, [some (.ref 65), some (.int c), some (.int i), some (.int j), some (.int d), some (.int x5), some (.int x6), x7], [], m)) rfl ?_
      refine mz_ifF q1 ?_
      refine mz_go 4 (c' := (24, [some (.ref 65), some (.int c), some (.int i), some (.int j), some (.int d), some (.int x5), some (.int x6), some (.int (j - d))], [], m)) rfl ?_
      exact hr
set_option maxHeartbeats 4000000 in
set_option maxRecDepth 100000 in
theorem xr_aro {m : mz_M} {WW HH : Nat} (hWW : WW ≤ 6) (hHH : HH ≤ 6) (hWH : WW = 0 ↔ HH = 0) (h6660 : m 66 60 = nI WW) (h6661 : m 66 61 = nI HH) (c : Int32) {i j d : Int32} (hBi : sm_B 1000 i) (hBj : sm_B 1000 j) (hBd : sm_B 1000 d) : ∃ v, mz_Me 14 mz_r192 [.ref 65, .int c, .int i, .int j, .int d] m (some (.int v)) m := by
  have HX2 : ∀ (x6_2 : Int32) (x5_2 : Int32) (x7_2 : Option Value), ∃ v, mz_Ex 14 mz_k192 (78, [some (.ref 65), some (.int c), some (.int i), some (.int j), some (.int d), some (.int x5_2), some (.int x6_2), x7_2], [], m) (some (.int v), m) := by
    intro x6_2 x5_2 x7_2
    refine ⟨x5_2, ?_⟩
    refine mz_go 1 (c' := (80, [some (.ref 65), some (.int c), some (.int i), some (.int j), some (.int d), some (.int x5_2), some (.int x6_2), x7_2], [.int x5_2], m)) rfl ?_
    exact mz_ret rfl
  obtain ⟨vr, hr⟩ := xr_aroj hWW hHH hWH h6660 h6661 c hBi hBj hBd  HX2 ((i + d : Int32).toInt - (i - d : Int32).toInt + 1).toNat (i - d) (by omega) 0 none
  refine ⟨vr, ⟨?_, rfl⟩⟩
  refine mz_go 6 (c' := (9, [some (.ref 65), some (.int c), some (.int i), some (.int j), some (.int d), some (.int 0), some (.int (i - d)), none], [], m)) rfl ?_
  exact hr
set_option maxHeartbeats 4000000 in
set_option maxRecDepth 100000 in
theorem xr_sof {m : mz_M} {WW HH : Nat} (hWW : WW ≤ 6) (hHH : HH ≤ 6) (hWH : WW = 0 ↔ HH = 0) (h6660 : m 66 60 = nI WW) (h6661 : m 66 61 = nI HH) (c : Int32) : ∃ v, mz_Me 16 mz_r193 [.ref 65, .int c] m (some (.int v)) m := by
  obtain ⟨ve1, Ee1⟩ := xr_aro (m := m) hWW hHH hWH h6660 h6661 c (show sm_B 1000 0 by unfold sm_B; decide) (show sm_B 1000 0 by unfold sm_B; decide) (show sm_B 1000 6 by unfold sm_B; decide)
  refine ⟨ve1, ⟨?_, rfl⟩⟩
  refine mz_go 5 (c' := (6, [some (.ref 65), some (.int c)], [.int 6, .int 0, .int 0, .int c, .ref 65], m)) rfl ?_
  refine mz_doQ (R := mz_r192) (as := [.ref 65, .int c, .int 0, .int 0, .int 6]) (rest := []) (r1 := some (.int ve1)) (m1 := m) mz_t192 mz_v192_65 rfl rfl rfl rfl rfl (Ee1.deep (by decide)) ?_
  exact mz_ret rfl
set_option maxHeartbeats 4000000 in
set_option maxRecDepth 100000 in
theorem xr_cinb {m : mz_M} {WW HH : Nat} (hWW : WW ≤ 6) (hHH : HH ≤ 6) (hWH : WW = 0 ↔ HH = 0) (h6660 : m 66 60 = nI WW) (h6661 : m 66 61 = nI HH) {I J P Q : Nat} (h1 : I + P ≤ 6) (h2 : J + Q ≤ 6) {A : Nat} (hA : A < P) (HX : ∀ (x5 : Int32), ∃ v, mz_Ex 16 mz_k189 (47, [some (.ref 65), some (.int (nI I)), some (.int (nI J)), some (.int (nI P)), some (.int (nI Q)), some (.int x5), some (.int (nI A)), some (.int (nI Q))], [], m) (some (.int v), m)) : ∀ j k : Nat, k + j = Q → ∀ (x5 : Int32), ∃ v, mz_Ex 16 mz_k189 (15, [some (.ref 65), some (.int (nI I)), some (.int (nI J)), some (.int (nI P)), some (.int (nI Q)), some (.int x5), some (.int (nI A)), some (.int (nI k))], [], m) (some (.int v), m) := by
  intro j
  induction j with
  | zero =>
    intro k hk x5
    rw [show k = Q by omega]
    obtain ⟨vr, hr⟩ := HX x5
    refine ⟨vr, ?_⟩
    refine mz_go 3 (c' := (if (nI Q) ≤ (nI Q) then 47 else 22, [some (.ref 65), some (.int (nI I)), some (.int (nI J)), some (.int (nI P)), some (.int (nI Q)), some (.int x5), some (.int (nI A)), some (.int (nI Q))], [], m)) rfl ?_
    refine mz_ifT (show ((nI Q) ≤ (nI Q)) from (sm_leN rfl rfl (show Q ≤ Q by omega) (show Q < 2 ^ 31 by omega))) ?_
    exact hr
  | succ j ih =>
    intro k hk x5
    obtain ⟨ve1, Ee1⟩ := xr_col (m := m) (A := (I + A)) (B := (J + k)) (by omega) (by omega) (a := (nI I) + (nI A)) (b := (nI J) + (nI k)) (sm_addN rfl rfl) (sm_addN rfl rfl)
    obtain ⟨vr, hr⟩ := ih (k + 1) (by omega) (x5 ||| (1 <<< (ve1 &&& 31)))
    rw [nI_succ k] at hr
    refine ⟨vr, ?_⟩
    refine mz_go 3 (c' := (if (nI Q) ≤ (nI k) then 47 else 22, [some (.ref 65), some (.int (nI I)), some (.int (nI J)), some (.int (nI P)), some (.int (nI Q)), some (.int x5), some (.int (nI A)), some (.int (nI k))], [], m)) rfl ?_
    refine mz_ifF (show ¬ ((nI Q) ≤ (nI k)) from (sm_nleN rfl rfl (show k < Q by omega) (show Q < 2 ^ 31 by omega))) ?_
    refine mz_go 9 (c' := (34, [some (.ref 65), some (.int (nI I)), some (.int (nI J)), some (.int (nI P)), some (.int (nI Q)), some (.int x5), some (.int (nI A)), some (.int (nI k))], [.int ((nI J) + (nI k)), .int ((nI I) + (nI A)), .ref 65, .int 1, .int x5], m)) rfl ?_
    refine mz_doQ (R := mz_r186) (as := [.ref 65, .int ((nI I) + (nI A)), .int ((nI J) + (nI k))]) (rest := [.int 1, .int x5]) (r1 := some (.int ve1)) (m1 := m) mz_t186 mz_v186_65 rfl rfl rfl rfl rfl (Ee1.deep (by decide)) ?_
    refine mz_go 5 (c' := (15, [some (.ref 65), some (.int (nI I)), some (.int (nI J)), some (.int (nI P)), some (.int (nI Q)), some (.int (x5 ||| (1 <<< (ve1 &&& 31)))), some (.int (nI A)), some (.int ((nI k) + 1))], [], m)) rfl ?_
    exact hr
set_option maxHeartbeats 4000000 in
set_option maxRecDepth 100000 in
theorem xr_cina {m : mz_M} {WW HH : Nat} (hWW : WW ≤ 6) (hHH : HH ≤ 6) (hWH : WW = 0 ↔ HH = 0) (h6660 : m 66 60 = nI WW) (h6661 : m 66 61 = nI HH) {I J P Q : Nat} (h1 : I + P ≤ 6) (h2 : J + Q ≤ 6)  (HX : ∀ (x5 : Int32) (x7 : Option Value), ∃ v, mz_Ex 16 mz_k189 (53, [some (.ref 65), some (.int (nI I)), some (.int (nI J)), some (.int (nI P)), some (.int (nI Q)), some (.int x5), some (.int (nI P)), x7], [], m) (some (.int v), m)) : ∀ j k : Nat, k + j = P → ∀ (x5 : Int32) (x7 : Option Value), ∃ v, mz_Ex 16 mz_k189 (6, [some (.ref 65), some (.int (nI I)), some (.int (nI J)), some (.int (nI P)), some (.int (nI Q)), some (.int x5), some (.int (nI k)), x7], [], m) (some (.int v), m) := by
  intro j
  induction j with
  | zero =>
    intro k hk x5 x7
    rw [show k = P by omega]
    obtain ⟨vr, hr⟩ := HX x5 x7
    refine ⟨vr, ?_⟩
    refine mz_go 3 (c' := (if (nI P) ≤ (nI P) then 53 else 12, [some (.ref 65), some (.int (nI I)), some (.int (nI J)), some (.int (nI P)), some (.int (nI Q)), some (.int x5), some (.int (nI P)), x7], [], m)) rfl ?_
    refine mz_ifT (show ((nI P) ≤ (nI P)) from (sm_leN rfl rfl (show P ≤ P by omega) (show P < 2 ^ 31 by omega))) ?_
    exact hr
  | succ j ih =>
    intro k hk x5 x7
    have HX1 : ∀ (x5_1 : Int32), ∃ v, mz_Ex 16 mz_k189 (47, [some (.ref 65), some (.int (nI I)), some (.int (nI J)), some (.int (nI P)), some (.int (nI Q)), some (.int x5_1), some (.int (nI k)), some (.int (nI Q))], [], m) (some (.int v), m) := by
      intro x5_1
      obtain ⟨vr, hr⟩ := ih (k + 1) (by omega) x5_1 (some (.int (nI Q)))
      rw [nI_succ k] at hr
      refine ⟨vr, ?_⟩
      refine mz_go 2 (c' := (6, [some (.ref 65), some (.int (nI I)), some (.int (nI J)), some (.int (nI P)), some (.int (nI Q)), some (.int x5_1), some (.int ((nI k) + 1)), some (.int (nI Q))], [], m)) rfl ?_
      exact hr
    obtain ⟨vr, hr⟩ := xr_cinb hWW hHH hWH h6660 h6661 h1 h2 (A := k) (by omega) HX1 Q 0 (by omega) x5
    refine ⟨vr, ?_⟩
    refine mz_go 3 (c' := (if (nI P) ≤ (nI k) then 53 else 12, [some (.ref 65), some (.int (nI I)), some (.int (nI J)), some (.int (nI P)), some (.int (nI Q)), some (.int x5), some (.int (nI k)), x7], [], m)) rfl ?_
    refine mz_ifF (show ¬ ((nI P) ≤ (nI k)) from (sm_nleN rfl rfl (show k < P by omega) (show P < 2 ^ 31 by omega))) ?_
    refine mz_go 2 (c' := (15, [some (.ref 65), some (.int (nI I)), some (.int (nI J)), some (.int (nI P)), some (.int (nI Q)), some (.int x5), some (.int (nI k)), some (.int 0)], [], m)) rfl ?_
    exact hr
set_option maxHeartbeats 4000000 in
set_option maxRecDepth 100000 in
theorem xr_cinp {m : mz_M} {WW HH : Nat} (hWW : WW ≤ 6) (hHH : HH ≤ 6) (hWH : WW = 0 ↔ HH = 0) (h6660 : m 66 60 = nI WW) (h6661 : m 66 61 = nI HH) {I J P Q : Nat} (h1 : I + P ≤ 6) (h2 : J + Q ≤ 6)  (HX : ∀ (x5 : Int32) (x6 : Int32) (x7 : Option Value), ∃ v, mz_Ex 16 mz_k189 (76, [some (.ref 65), some (.int (nI I)), some (.int (nI J)), some (.int (nI P)), some (.int (nI Q)), some (.int x5), some (.int x6), x7], [], m) (some (.int v), m)) : ∀ fu : Nat, ∀ (x5 : Int32) (x6 : Int32) (x7 : Option Value), x5.toBitVec.toNat < fu → ∃ v, mz_Ex 16 mz_k189 (56, [some (.ref 65), some (.int (nI I)), some (.int (nI J)), some (.int (nI P)), some (.int (nI Q)), some (.int x5), some (.int x6), x7], [], m) (some (.int v), m) := by
  intro fu
  induction fu with
  | zero =>
    intro x5 x6 x7 hms
    exact absurd hms (Nat.not_lt_zero _)
  | succ fu ih =>
    intro x5 x6 x7 hms
    by_cases q1 : x5 = 0
    · obtain ⟨vr, hr⟩ := HX x5 x6 x7
      refine ⟨vr, ?_⟩
      refine mz_go 2 (c' := (if x5 = 0 then 76 else 61, [some (.ref 65), some (.int (nI I)), some (.int (nI J)), some (.int (nI P)), some (.int (nI Q)), some (.int x5), some (.int x6), x7], [], m)) rfl ?_
      refine mz_ifT q1 ?_
      exact hr
    · obtain ⟨vr, hr⟩ := ih (x5 &&& (x5 - 1)) (x6 + 1) x7 (Nat.lt_of_lt_of_le (sm_pop q1) (Nat.le_of_lt_succ hms))
      refine ⟨vr, ?_⟩
      refine mz_go 2 (c' := (if x5 = 0 then 76 else 61, [some (.ref 65), some (.int (nI I)), some (.int (nI J)), some (.int (nI P)), some (.int (nI Q)), some (.int x5), some (.int x6), x7], [], m)) rfl ?_
      refine mz_ifF q1 ?_
      refine mz_go 8 (c' := (56, [some (.ref 65), some (.int (nI I)), some (.int (nI J)), some (.int (nI P)), some (.int (nI Q)), some (.int (x5 &&& (x5 - 1))), some (.int (x6 + 1)), x7], [], m)) rfl ?_
      exact hr
set_option maxHeartbeats 4000000 in
set_option maxRecDepth 100000 in
theorem xr_cin {m : mz_M} {WW HH : Nat} (hWW : WW ≤ 6) (hHH : HH ≤ 6) (hWH : WW = 0 ↔ HH = 0) (h6660 : m 66 60 = nI WW) (h6661 : m 66 61 = nI HH) {I J P Q : Nat} (h1 : I + P ≤ 6) (h2 : J + Q ≤ 6) {i j p q : Int32} (ei : i = nI I) (ej : j = nI J) (ep : p = nI P) (eq : q = nI Q) : ∃ v, mz_Me 16 mz_r189 [.ref 65, .int i, .int j, .int p, .int q] m (some (.int v)) m := by
  subst ei
  subst ej
  subst ep
  subst eq
  have HX3 : ∀ (x5_2 : Int32) (x7_2 : Option Value), ∃ v, mz_Ex 16 mz_k189 (53, [some (.ref 65), some (.int (nI I)), some (.int (nI J)), some (.int (nI P)), some (.int (nI Q)), some (.int x5_2), some (.int (nI P)), x7_2], [], m) (some (.int v), m) := by
    intro x5_2 x7_2
    have HX3 : ∀ (x5_3 : Int32) (x6_3 : Int32) (x7_3 : Option Value), ∃ v, mz_Ex 16 mz_k189 (76, [some (.ref 65), some (.int (nI I)), some (.int (nI J)), some (.int (nI P)), some (.int (nI Q)), some (.int x5_3), some (.int x6_3), x7_3], [], m) (some (.int v), m) := by
      intro x5_3 x6_3 x7_3
      refine ⟨x6_3, ?_⟩
      refine mz_go 1 (c' := (78, [some (.ref 65), some (.int (nI I)), some (.int (nI J)), some (.int (nI P)), some (.int (nI Q)), some (.int x5_3), some (.int x6_3), x7_3], [.int x6_3], m)) rfl ?_
      exact mz_ret rfl
    obtain ⟨vr, hr⟩ := xr_cinp hWW hHH hWH h6660 h6661 h1 h2  HX3 _ x5_2 0 x7_2 (Nat.lt_succ_self _)
    refine ⟨vr, ?_⟩
    refine mz_go 2 (c' := (56, [some (.ref 65), some (.int (nI I)), some (.int (nI J)), some (.int (nI P)), some (.int (nI Q)), some (.int x5_2), some (.int 0), x7_2], [], m)) rfl ?_
    exact hr
  obtain ⟨vr, hr⟩ := xr_cina hWW hHH hWH h6660 h6661 h1 h2  HX3 P 0 (by omega) 0 none
  refine ⟨vr, ⟨?_, rfl⟩⟩
  refine mz_go 4 (c' := (6, [some (.ref 65), some (.int (nI I)), some (.int (nI J)), some (.int (nI P)), some (.int (nI Q)), some (.int 0), some (.int 0), none], [], m)) rfl ?_
  exact hr
