theorem sm_id {m : mz_M} {i : Nat} : mz_set m i (m i) = m := by
  funext a b
  by_cases h : a = i
  · subst h
    rw [mz_set_eq]
  · rw [mz_set_ne h]
theorem sm_id2 {m : mz_M} {i j : Nat} (h : j ≠ i) : mz_set (mz_set m i (m i)) j (m j) = m := by
  rw [sm_id]
  exact sm_id
theorem cs_kindN {m : mz_M} {k : Int32} (hk : sm_N 6 k) {v : Int32} (hv : sm_B 999 v) (r t : Int32) : mz_Me 2 mz_r41 [.int k, .int v, .int r, .int t] m (some (.int (sm_kind k v r t))) m := by
  obtain ⟨j, hj, rfl⟩ := sm_Nof (by decide) hk
  exact cs_kind hj hv r t
set_option maxHeartbeats 4000000 in
set_option maxRecDepth 100000 in
theorem cs_full {m : mz_M} (hx : sm_tx m 10 3) (st r t : Int32) (h3 : ¬ r + 3 = 0) : ∃ f g, mz_Me 20 mz_r42 [.ref 49, .int st, .int r, .int t] m (some (.int (sm_full m st r t))) (mz_set (mz_set m 51 f) 52 g) := by
  obtain ⟨T, hT, h0⟩ := hx
  by_cases hT0 : T = 0
  · subst hT0
    refine ⟨m 51, m 52, ?_⟩
    rw [sm_id2 (by decide)]
    have hv : sm_full m st r t = st * 9 / (r + 3) := by
      unfold sm_full
      rw [if_pos (by rw [hT]; decide)]
    rw [hv]
    refine ⟨?_, rfl⟩
    refine mz_go 5 (c' := (if 0 < (m 10 2) then 24 else 13, [some (.ref 49), some (.int st), some (.int r), some (.int t)], [], m)) rfl ?_
    refine mz_ifF (by rw [hT]; decide) ?_
    refine mz_go 6 (c' := (20, [some (.ref 49), some (.int st), some (.int r), some (.int t)], [.int (r + 3), .int (st * 9)], m)) rfl ?_
    refine mz_doQ (R := mz_r123) (as := [.int (st * 9), .int (r + 3)]) (rest := []) (r1 := some (.int ((st * 9) / (r + 3)))) (m1 := m) mz_t123 mz_v123 rfl rfl rfl rfl rfl ((cs_cut (m := m) (a := (st * 9)) h3).deep (by decide)) ?_
    exact mz_ret rfl
  · have hwf := h0.resolve_left hT0
    have hT60 := hwf.1
    obtain ⟨g, E⟩ := cs_ev10 (m := mz_up (mz_up (mz_up m 51 0 r) 51 1 st) 51 2 t) hT hwf (by decide)
    replace E : mz_Me 10 mz_r57 [.ref 10, .ref 51, .ref 52] (mz_up (mz_up (mz_up m 51 0 r) 51 1 st) 51 2 t) (some (.int (sm_ev T (m 11) (m 12) (sm_nm r st t 0 0)))) (mz_set (mz_up (mz_up (mz_up m 51 0 r) 51 1 st) 51 2 t) 52 g) := by
      rw [← sm_ev_nm (nm := (mz_up (mz_up (mz_up m 51 0 r) 51 1 st) 51 2 t) 51) (sg := m 11) (va := m 12) hwf (by decide) (fun j hj => by
        rcases (show j = 0 ∨ j = 1 ∨ j = 2 by omega) with rfl | rfl | rfl <;> rfl)]
      exact E
    have hm : mz_up (mz_up (mz_up m 51 0 r) 51 1 st) 51 2 t = mz_set m 51 ((mz_up (mz_up (mz_up m 51 0 r) 51 1 st) 51 2 t) 51) := sm_of1 (fun i hi => by simp only [mz_up_ne hi])
    refine ⟨(mz_up (mz_up (mz_up m 51 0 r) 51 1 st) 51 2 t) 51, g, ?_⟩
    rw [← hm]
    have hv : sm_full m st r t = sm_held (sm_ev T (m 11) (m 12) (sm_nm r st t 0 0)) (-999) 999 := by
      unfold sm_full
      rw [hT, if_neg (nI_nle (by omega) (by omega)), nI_clamp (by omega)]
    rw [hv]
    refine ⟨?_, rfl⟩
    refine mz_go 5 (c' := (if 0 < (m 10 2) then 24 else 13, [some (.ref 49), some (.int st), some (.int r), some (.int t)], [], m)) rfl ?_
    refine mz_ifT (by rw [hT]; exact nI_lt (show 0 < T by omega) (by omega)) ?_
    refine mz_go 22 (c' := (60, [some (.ref 49), some (.int st), some (.int r), some (.int t)], [.ref 52, .ref 51, .ref 10], mz_up (mz_up (mz_up m 51 0 r) 51 1 st) 51 2 t)) rfl ?_
    refine mz_doQ (R := mz_r57) (as := [.ref 10, .ref 51, .ref 52]) (rest := []) (r1 := some (.int (sm_ev T (m 11) (m 12) (sm_nm r st t 0 0)))) (m1 := mz_set (mz_up (mz_up (mz_up m 51 0 r) 51 1 st) 51 2 t) 52 g) mz_t57 mz_v57_10 rfl rfl rfl rfl rfl (E.deep (by decide)) ?_
    refine mz_go 2 (c' := (69, [some (.ref 49), some (.int st), some (.int r), some (.int t)], [.int 999, .int (-999), .int (sm_ev T (m 11) (m 12) (sm_nm r st t 0 0))], mz_set (mz_up (mz_up (mz_up m 51 0 r) 51 1 st) 51 2 t) 52 g)) rfl ?_
    refine mz_doQ (R := mz_r122) (as := [.int (sm_ev T (m 11) (m 12) (sm_nm r st t 0 0)), .int (-999), .int 999]) (rest := []) (r1 := some (.int (sm_held (sm_ev T (m 11) (m 12) (sm_nm r st t 0 0)) (-999) 999))) (m1 := mz_set (mz_up (mz_up (mz_up m 51 0 r) 51 1 st) 51 2 t) 52 g) mz_t122 mz_v122 rfl rfl rfl rfl rfl ((cs_held (m := mz_set (mz_up (mz_up (mz_up m 51 0 r) 51 1 st) 51 2 t) 52 g) (v := (sm_ev T (m 11) (m 12) (sm_nm r st t 0 0))) (a := (-999)) (b := 999) (by decide)).deep (by decide)) ?_
    exact mz_ret rfl
theorem cw_full {m w : mz_M} (hl : sm_Wl m w) (hx : sm_tx w 10 3) (st r t : Int32) (h3 : ¬ r + 3 = 0) : ∃ f g, mz_Me 20 mz_r42 [.ref 49, .int st, .int r, .int t] m (some (.int (sm_full w st r t))) (mz_set (mz_set m 51 f) 52 g) := by
  rw [← sm_full_of hl]
  exact cs_full (sm_tx_of hl (by decide) (by decide) hx) st r t h3
set_option maxHeartbeats 4000000 in
set_option maxRecDepth 100000 in
theorem cs_rub19 {m : mz_M} {N : Nat} (hw : sm_W m N) : ∃ f g, mz_Me 20 mz_r43 [.ref 49, .ref 19] m (some (.int (sm_rub m (m 19 0) (m 19 1) (m 19 2) (m 19 3) (m 19 4)))) (mz_set (mz_set m 51 f) 52 g) := by
  obtain ⟨hN, h4, hb, hx0, hx1⟩ := hw
  obtain ⟨T, hT, h0⟩ := hx1
  have hc := sm_cntN hN h4
  by_cases hT0 : T = 0
  · subst hT0
    refine ⟨m 51, m 52, ?_⟩
    rw [sm_id2 (by decide)]
    have hv : sm_rub m (m 19 0) (m 19 1) (m 19 2) (m 19 3) (m 19 4) = m 7 1 := by
      unfold sm_rub
      rw [if_pos (by rw [hT]; decide)]
    rw [hv]
    refine ⟨?_, rfl⟩
    refine mz_go 5 (c' := (if 0 < (m 13 2) then 23 else 13, [some (.ref 49), some (.ref 19), none], [], m)) rfl ?_
    refine mz_ifF (by rw [hT]; decide) ?_
    refine mz_go 5 (c' := (22, [some (.ref 49), some (.ref 19), none], [.int (m 7 1)], m)) rfl ?_
    exact mz_ret rfl
  · have hwf := h0.resolve_left hT0
    have hT60 := hwf.1
    have hpos : 0 < m 13 2 := by rw [hT]; exact nI_lt (show 0 < T by omega) (by omega)
    by_cases hn : (sm_near (m 3) (m 4) (m 5) (m 19 0) (m 19 1) false N).1 < 0
    · have hi := sm_near_neg (by omega) hn
      obtain ⟨g, E⟩ := cs_ev13 (m := mz_up (mz_up (mz_up m 51 0 (sm_abs (m 19 2) + sm_abs (m 19 3))) 51 1 (999)) 51 2 (m 19 4)) hT hwf (by decide)
      replace E : mz_Me 10 mz_r57 [.ref 13, .ref 51, .ref 52] (mz_up (mz_up (mz_up m 51 0 (sm_abs (m 19 2) + sm_abs (m 19 3))) 51 1 (999)) 51 2 (m 19 4)) (some (.int (sm_ev T (m 14) (m 15) (sm_nm (sm_abs (m 19 2) + sm_abs (m 19 3)) (999) (m 19 4) 0 0)))) (mz_set (mz_up (mz_up (mz_up m 51 0 (sm_abs (m 19 2) + sm_abs (m 19 3))) 51 1 (999)) 51 2 (m 19 4)) 52 g) := by
        rw [← sm_ev_nm (nm := (mz_up (mz_up (mz_up m 51 0 (sm_abs (m 19 2) + sm_abs (m 19 3))) 51 1 (999)) 51 2 (m 19 4)) 51) (sg := m 14) (va := m 15) hwf (by decide) (fun j hj => by
          rcases (show j = 0 ∨ j = 1 ∨ j = 2 by omega) with rfl | rfl | rfl <;> rfl)]
        exact E
      have hm : mz_up (mz_up (mz_up m 51 0 (sm_abs (m 19 2) + sm_abs (m 19 3))) 51 1 (999)) 51 2 (m 19 4) = mz_set m 51 ((mz_up (mz_up (mz_up m 51 0 (sm_abs (m 19 2) + sm_abs (m 19 3))) 51 1 (999)) 51 2 (m 19 4)) 51) := sm_of1 (fun i hi => by simp only [mz_up_ne hi])
      refine ⟨(mz_up (mz_up (mz_up m 51 0 (sm_abs (m 19 2) + sm_abs (m 19 3))) 51 1 (999)) 51 2 (m 19 4)) 51, g, ?_⟩
      rw [← hm]
      have hv : sm_rub m (m 19 0) (m 19 1) (m 19 2) (m 19 3) (m 19 4) = sm_held (sm_ev T (m 14) (m 15) (sm_nm (sm_abs (m 19 2) + sm_abs (m 19 3)) (999) (m 19 4) 0 0)) 0 99 := by
        unfold sm_rub sm_nearr
        rw [hc, if_pos hn, hT, if_neg (nI_nle (by omega) (by omega)), nI_clamp (by omega)]
      rw [hv]
      refine ⟨?_, rfl⟩
      refine mz_go 5 (c' := (if 0 < (m 13 2) then 23 else 13, [some (.ref 49), some (.ref 19), none], [], m)) rfl ?_
      refine mz_ifT hpos ?_
      refine mz_go 8 (c' := (39, [some (.ref 49), some (.ref 19), none], [.int 0, .int (m 19 1), .int (m 19 0), .ref 2], m)) rfl ?_
      refine mz_doQ (R := mz_r25) (as := [.ref 2, .int (m 19 0), .int (m 19 1), .int 0]) (rest := []) (r1 := some (.int ((sm_near (m 3) (m 4) (m 5) (m 19 0) (m 19 1) false N).1))) (m1 := m) mz_t25 mz_v25_2 rfl rfl rfl rfl rfl ((cs_near0 hN (m := m) h4 (m 19 0) (m 19 1)).deep (by decide)) ?_
      rw [hi]
      refine mz_go 23 (c' := (85, [some (.ref 49), some (.ref 19), some (.int (-1))], [.int (m 19 1), .int (m 19 0), .int (-1), .ref 2, .int 1, .ref 51], mz_up m 51 0 ((sm_abs (m 19 2)) + (sm_abs (m 19 3))))) rfl ?_
      refine mz_doQ (R := mz_r24) (as := [.ref 2, .int (-1), .int (m 19 0), .int (m 19 1)]) (rest := [.int 1, .ref 51]) (r1 := some (.int 999)) (m1 := mz_up m 51 0 ((sm_abs (m 19 2)) + (sm_abs (m 19 3)))) mz_t24 mz_v24_2 rfl rfl rfl rfl rfl ((cs_farN (m := mz_up m 51 0 ((sm_abs (m 19 2)) + (sm_abs (m 19 3)))) (m 19 0) (m 19 1)).deep (by decide)) ?_
      refine mz_go 14 (c' := (114, [some (.ref 49), some (.ref 19), some (.int (-1))], [.ref 52, .ref 51, .ref 13], mz_up (mz_up (mz_up m 51 0 ((sm_abs (m 19 2)) + (sm_abs (m 19 3)))) 51 1 999) 51 2 (m 19 4))) rfl ?_
      refine mz_doQ (R := mz_r57) (as := [.ref 13, .ref 51, .ref 52]) (rest := []) (r1 := some (.int (sm_ev T (m 14) (m 15) (sm_nm (sm_abs (m 19 2) + sm_abs (m 19 3)) (999) (m 19 4) 0 0)))) (m1 := mz_set (mz_up (mz_up (mz_up m 51 0 ((sm_abs (m 19 2)) + (sm_abs (m 19 3)))) 51 1 999) 51 2 (m 19 4)) 52 g) mz_t57 mz_v57_13 rfl rfl rfl rfl rfl (E.deep (by decide)) ?_
      refine mz_go 2 (c' := (120, [some (.ref 49), some (.ref 19), some (.int (-1))], [.int 99, .int 0, .int (sm_ev T (m 14) (m 15) (sm_nm (sm_abs (m 19 2) + sm_abs (m 19 3)) (999) (m 19 4) 0 0))], mz_set (mz_up (mz_up (mz_up m 51 0 ((sm_abs (m 19 2)) + (sm_abs (m 19 3)))) 51 1 999) 51 2 (m 19 4)) 52 g)) rfl ?_
      refine mz_doQ (R := mz_r122) (as := [.int (sm_ev T (m 14) (m 15) (sm_nm (sm_abs (m 19 2) + sm_abs (m 19 3)) (999) (m 19 4) 0 0)), .int 0, .int 99]) (rest := []) (r1 := some (.int (sm_held (sm_ev T (m 14) (m 15) (sm_nm (sm_abs (m 19 2) + sm_abs (m 19 3)) (999) (m 19 4) 0 0)) 0 99))) (m1 := mz_set (mz_up (mz_up (mz_up m 51 0 ((sm_abs (m 19 2)) + (sm_abs (m 19 3)))) 51 1 999) 51 2 (m 19 4)) 52 g) mz_t122 mz_v122 rfl rfl rfl rfl rfl ((cs_held (m := mz_set (mz_up (mz_up (mz_up m 51 0 ((sm_abs (m 19 2)) + (sm_abs (m 19 3)))) 51 1 999) 51 2 (m 19 4)) 52 g) (v := (sm_ev T (m 14) (m 15) (sm_nm (sm_abs (m 19 2) + sm_abs (m 19 3)) (999) (m 19 4) 0 0))) (a := 0) (b := 99) (by decide)).deep (by decide)) ?_
      exact mz_ret rfl
    · obtain ⟨j, hj, hi, hf⟩ := sm_near_pos (by omega) hn
      obtain ⟨g, E⟩ := cs_ev13 (m := mz_up (mz_up (mz_up m 51 0 (sm_abs (m 19 2) + sm_abs (m 19 3))) 51 1 (sm_far (m 4 j) (m 5 j) (m 19 0) (m 19 1))) 51 2 (m 19 4)) hT hwf (by decide)
      replace E : mz_Me 10 mz_r57 [.ref 13, .ref 51, .ref 52] (mz_up (mz_up (mz_up m 51 0 (sm_abs (m 19 2) + sm_abs (m 19 3))) 51 1 (sm_far (m 4 j) (m 5 j) (m 19 0) (m 19 1))) 51 2 (m 19 4)) (some (.int (sm_ev T (m 14) (m 15) (sm_nm (sm_abs (m 19 2) + sm_abs (m 19 3)) (sm_far (m 4 j) (m 5 j) (m 19 0) (m 19 1)) (m 19 4) 0 0)))) (mz_set (mz_up (mz_up (mz_up m 51 0 (sm_abs (m 19 2) + sm_abs (m 19 3))) 51 1 (sm_far (m 4 j) (m 5 j) (m 19 0) (m 19 1))) 51 2 (m 19 4)) 52 g) := by
        rw [← sm_ev_nm (nm := (mz_up (mz_up (mz_up m 51 0 (sm_abs (m 19 2) + sm_abs (m 19 3))) 51 1 (sm_far (m 4 j) (m 5 j) (m 19 0) (m 19 1))) 51 2 (m 19 4)) 51) (sg := m 14) (va := m 15) hwf (by decide) (fun j hj => by
          rcases (show j = 0 ∨ j = 1 ∨ j = 2 by omega) with rfl | rfl | rfl <;> rfl)]
        exact E
      have hm : mz_up (mz_up (mz_up m 51 0 (sm_abs (m 19 2) + sm_abs (m 19 3))) 51 1 (sm_far (m 4 j) (m 5 j) (m 19 0) (m 19 1))) 51 2 (m 19 4) = mz_set m 51 ((mz_up (mz_up (mz_up m 51 0 (sm_abs (m 19 2) + sm_abs (m 19 3))) 51 1 (sm_far (m 4 j) (m 5 j) (m 19 0) (m 19 1))) 51 2 (m 19 4)) 51) := sm_of1 (fun i hi => by simp only [mz_up_ne hi])
      refine ⟨(mz_up (mz_up (mz_up m 51 0 (sm_abs (m 19 2) + sm_abs (m 19 3))) 51 1 (sm_far (m 4 j) (m 5 j) (m 19 0) (m 19 1))) 51 2 (m 19 4)) 51, g, ?_⟩
      rw [← hm]
      have hv : sm_rub m (m 19 0) (m 19 1) (m 19 2) (m 19 3) (m 19 4) = sm_held (sm_ev T (m 14) (m 15) (sm_nm (sm_abs (m 19 2) + sm_abs (m 19 3)) (sm_far (m 4 j) (m 5 j) (m 19 0) (m 19 1)) (m 19 4) 0 0)) 0 99 := by
        unfold sm_rub sm_nearr
        rw [hc, if_neg hn, hf, hT, if_neg (nI_nle (by omega) (by omega)), nI_clamp (by omega)]
      rw [hv]
      refine ⟨?_, rfl⟩
      refine mz_go 5 (c' := (if 0 < (m 13 2) then 23 else 13, [some (.ref 49), some (.ref 19), none], [], m)) rfl ?_
      refine mz_ifT hpos ?_
      refine mz_go 8 (c' := (39, [some (.ref 49), some (.ref 19), none], [.int 0, .int (m 19 1), .int (m 19 0), .ref 2], m)) rfl ?_
      refine mz_doQ (R := mz_r25) (as := [.ref 2, .int (m 19 0), .int (m 19 1), .int 0]) (rest := []) (r1 := some (.int ((sm_near (m 3) (m 4) (m 5) (m 19 0) (m 19 1) false N).1))) (m1 := m) mz_t25 mz_v25_2 rfl rfl rfl rfl rfl ((cs_near0 hN (m := m) h4 (m 19 0) (m 19 1)).deep (by decide)) ?_
      rw [hi]
      refine mz_go 23 (c' := (85, [some (.ref 49), some (.ref 19), some (.int (nI j))], [.int (m 19 1), .int (m 19 0), .int (nI j), .ref 2, .int 1, .ref 51], mz_up m 51 0 ((sm_abs (m 19 2)) + (sm_abs (m 19 3))))) rfl ?_
      refine mz_doQ (R := mz_r24) (as := [.ref 2, .int (nI j), .int (m 19 0), .int (m 19 1)]) (rest := [.int 1, .ref 51]) (r1 := some (.int (sm_far (m 4 j) (m 5 j) (m 19 0) (m 19 1)))) (m1 := mz_up m 51 0 ((sm_abs (m 19 2)) + (sm_abs (m 19 3)))) mz_t24 mz_v24_2 rfl rfl rfl rfl rfl ((cs_far hN (m := mz_up m 51 0 ((sm_abs (m 19 2)) + (sm_abs (m 19 3)))) h4 (show j < N by omega) (m 19 0) (m 19 1)).deep (by decide)) ?_
      refine mz_go 14 (c' := (114, [some (.ref 49), some (.ref 19), some (.int (nI j))], [.ref 52, .ref 51, .ref 13], mz_up (mz_up (mz_up m 51 0 ((sm_abs (m 19 2)) + (sm_abs (m 19 3)))) 51 1 (sm_far (m 4 j) (m 5 j) (m 19 0) (m 19 1))) 51 2 (m 19 4))) rfl ?_
      refine mz_doQ (R := mz_r57) (as := [.ref 13, .ref 51, .ref 52]) (rest := []) (r1 := some (.int (sm_ev T (m 14) (m 15) (sm_nm (sm_abs (m 19 2) + sm_abs (m 19 3)) (sm_far (m 4 j) (m 5 j) (m 19 0) (m 19 1)) (m 19 4) 0 0)))) (m1 := mz_set (mz_up (mz_up (mz_up m 51 0 ((sm_abs (m 19 2)) + (sm_abs (m 19 3)))) 51 1 (sm_far (m 4 j) (m 5 j) (m 19 0) (m 19 1))) 51 2 (m 19 4)) 52 g) mz_t57 mz_v57_13 rfl rfl rfl rfl rfl (E.deep (by decide)) ?_
      refine mz_go 2 (c' := (120, [some (.ref 49), some (.ref 19), some (.int (nI j))], [.int 99, .int 0, .int (sm_ev T (m 14) (m 15) (sm_nm (sm_abs (m 19 2) + sm_abs (m 19 3)) (sm_far (m 4 j) (m 5 j) (m 19 0) (m 19 1)) (m 19 4) 0 0))], mz_set (mz_up (mz_up (mz_up m 51 0 ((sm_abs (m 19 2)) + (sm_abs (m 19 3)))) 51 1 (sm_far (m 4 j) (m 5 j) (m 19 0) (m 19 1))) 51 2 (m 19 4)) 52 g)) rfl ?_
      refine mz_doQ (R := mz_r122) (as := [.int (sm_ev T (m 14) (m 15) (sm_nm (sm_abs (m 19 2) + sm_abs (m 19 3)) (sm_far (m 4 j) (m 5 j) (m 19 0) (m 19 1)) (m 19 4) 0 0)), .int 0, .int 99]) (rest := []) (r1 := some (.int (sm_held (sm_ev T (m 14) (m 15) (sm_nm (sm_abs (m 19 2) + sm_abs (m 19 3)) (sm_far (m 4 j) (m 5 j) (m 19 0) (m 19 1)) (m 19 4) 0 0)) 0 99))) (m1 := mz_set (mz_up (mz_up (mz_up m 51 0 ((sm_abs (m 19 2)) + (sm_abs (m 19 3)))) 51 1 (sm_far (m 4 j) (m 5 j) (m 19 0) (m 19 1))) 51 2 (m 19 4)) 52 g) mz_t122 mz_v122 rfl rfl rfl rfl rfl ((cs_held (m := mz_set (mz_up (mz_up (mz_up m 51 0 ((sm_abs (m 19 2)) + (sm_abs (m 19 3)))) 51 1 (sm_far (m 4 j) (m 5 j) (m 19 0) (m 19 1))) 51 2 (m 19 4)) 52 g) (v := (sm_ev T (m 14) (m 15) (sm_nm (sm_abs (m 19 2) + sm_abs (m 19 3)) (sm_far (m 4 j) (m 5 j) (m 19 0) (m 19 1)) (m 19 4) 0 0))) (a := 0) (b := 99) (by decide)).deep (by decide)) ?_
      exact mz_ret rfl
theorem cw_rub19 {m w : mz_M} (hl : sm_Wl m w) {N : Nat} (hw : sm_W w N) : ∃ f g, mz_Me 20 mz_r43 [.ref 49, .ref 19] m (some (.int (sm_rub w (m 19 0) (m 19 1) (m 19 2) (m 19 3) (m 19 4)))) (mz_set (mz_set m 51 f) 52 g) := by
  rw [← sm_rub_of hl]
  exact cs_rub19 (sm_W_of hl hw)
set_option maxHeartbeats 4000000 in
set_option maxRecDepth 100000 in
theorem cs_rub50 {m : mz_M} {N : Nat} (hw : sm_W m N) : ∃ f g, mz_Me 20 mz_r43 [.ref 49, .ref 50] m (some (.int (sm_rub m (m 50 0) (m 50 1) (m 50 2) (m 50 3) (m 50 4)))) (mz_set (mz_set m 51 f) 52 g) := by
  obtain ⟨hN, h4, hb, hx0, hx1⟩ := hw
  obtain ⟨T, hT, h0⟩ := hx1
  have hc := sm_cntN hN h4
  by_cases hT0 : T = 0
  · subst hT0
    refine ⟨m 51, m 52, ?_⟩
    rw [sm_id2 (by decide)]
    have hv : sm_rub m (m 50 0) (m 50 1) (m 50 2) (m 50 3) (m 50 4) = m 7 1 := by
      unfold sm_rub
      rw [if_pos (by rw [hT]; decide)]
    rw [hv]
    refine ⟨?_, rfl⟩
    refine mz_go 5 (c' := (if 0 < (m 13 2) then 23 else 13, [some (.ref 49), some (.ref 50), none], [], m)) rfl ?_
    refine mz_ifF (by rw [hT]; decide) ?_
    refine mz_go 5 (c' := (22, [some (.ref 49), some (.ref 50), none], [.int (m 7 1)], m)) rfl ?_
    exact mz_ret rfl
  · have hwf := h0.resolve_left hT0
    have hT60 := hwf.1
    have hpos : 0 < m 13 2 := by rw [hT]; exact nI_lt (show 0 < T by omega) (by omega)
    by_cases hn : (sm_near (m 3) (m 4) (m 5) (m 50 0) (m 50 1) false N).1 < 0
    · have hi := sm_near_neg (by omega) hn
      obtain ⟨g, E⟩ := cs_ev13 (m := mz_up (mz_up (mz_up m 51 0 (sm_abs (m 50 2) + sm_abs (m 50 3))) 51 1 (999)) 51 2 (m 50 4)) hT hwf (by decide)
      replace E : mz_Me 10 mz_r57 [.ref 13, .ref 51, .ref 52] (mz_up (mz_up (mz_up m 51 0 (sm_abs (m 50 2) + sm_abs (m 50 3))) 51 1 (999)) 51 2 (m 50 4)) (some (.int (sm_ev T (m 14) (m 15) (sm_nm (sm_abs (m 50 2) + sm_abs (m 50 3)) (999) (m 50 4) 0 0)))) (mz_set (mz_up (mz_up (mz_up m 51 0 (sm_abs (m 50 2) + sm_abs (m 50 3))) 51 1 (999)) 51 2 (m 50 4)) 52 g) := by
        rw [← sm_ev_nm (nm := (mz_up (mz_up (mz_up m 51 0 (sm_abs (m 50 2) + sm_abs (m 50 3))) 51 1 (999)) 51 2 (m 50 4)) 51) (sg := m 14) (va := m 15) hwf (by decide) (fun j hj => by
          rcases (show j = 0 ∨ j = 1 ∨ j = 2 by omega) with rfl | rfl | rfl <;> rfl)]
        exact E
      have hm : mz_up (mz_up (mz_up m 51 0 (sm_abs (m 50 2) + sm_abs (m 50 3))) 51 1 (999)) 51 2 (m 50 4) = mz_set m 51 ((mz_up (mz_up (mz_up m 51 0 (sm_abs (m 50 2) + sm_abs (m 50 3))) 51 1 (999)) 51 2 (m 50 4)) 51) := sm_of1 (fun i hi => by simp only [mz_up_ne hi])
      refine ⟨(mz_up (mz_up (mz_up m 51 0 (sm_abs (m 50 2) + sm_abs (m 50 3))) 51 1 (999)) 51 2 (m 50 4)) 51, g, ?_⟩
      rw [← hm]
      have hv : sm_rub m (m 50 0) (m 50 1) (m 50 2) (m 50 3) (m 50 4) = sm_held (sm_ev T (m 14) (m 15) (sm_nm (sm_abs (m 50 2) + sm_abs (m 50 3)) (999) (m 50 4) 0 0)) 0 99 := by
        unfold sm_rub sm_nearr
        rw [hc, if_pos hn, hT, if_neg (nI_nle (by omega) (by omega)), nI_clamp (by omega)]
      rw [hv]
      refine ⟨?_, rfl⟩
      refine mz_go 5 (c' := (if 0 < (m 13 2) then 23 else 13, [some (.ref 49), some (.ref 50), none], [], m)) rfl ?_
      refine mz_ifT hpos ?_
      refine mz_go 8 (c' := (39, [some (.ref 49), some (.ref 50), none], [.int 0, .int (m 50 1), .int (m 50 0), .ref 2], m)) rfl ?_
      refine mz_doQ (R := mz_r25) (as := [.ref 2, .int (m 50 0), .int (m 50 1), .int 0]) (rest := []) (r1 := some (.int ((sm_near (m 3) (m 4) (m 5) (m 50 0) (m 50 1) false N).1))) (m1 := m) mz_t25 mz_v25_2 rfl rfl rfl rfl rfl ((cs_near0 hN (m := m) h4 (m 50 0) (m 50 1)).deep (by decide)) ?_
      rw [hi]
      refine mz_go 23 (c' := (85, [some (.ref 49), some (.ref 50), some (.int (-1))], [.int (m 50 1), .int (m 50 0), .int (-1), .ref 2, .int 1, .ref 51], mz_up m 51 0 ((sm_abs (m 50 2)) + (sm_abs (m 50 3))))) rfl ?_
      refine mz_doQ (R := mz_r24) (as := [.ref 2, .int (-1), .int (m 50 0), .int (m 50 1)]) (rest := [.int 1, .ref 51]) (r1 := some (.int 999)) (m1 := mz_up m 51 0 ((sm_abs (m 50 2)) + (sm_abs (m 50 3)))) mz_t24 mz_v24_2 rfl rfl rfl rfl rfl ((cs_farN (m := mz_up m 51 0 ((sm_abs (m 50 2)) + (sm_abs (m 50 3)))) (m 50 0) (m 50 1)).deep (by decide)) ?_
      refine mz_go 14 (c' := (114, [some (.ref 49), some (.ref 50), some (.int (-1))], [.ref 52, .ref 51, .ref 13], mz_up (mz_up (mz_up m 51 0 ((sm_abs (m 50 2)) + (sm_abs (m 50 3)))) 51 1 999) 51 2 (m 50 4))) rfl ?_
      refine mz_doQ (R := mz_r57) (as := [.ref 13, .ref 51, .ref 52]) (rest := []) (r1 := some (.int (sm_ev T (m 14) (m 15) (sm_nm (sm_abs (m 50 2) + sm_abs (m 50 3)) (999) (m 50 4) 0 0)))) (m1 := mz_set (mz_up (mz_up (mz_up m 51 0 ((sm_abs (m 50 2)) + (sm_abs (m 50 3)))) 51 1 999) 51 2 (m 50 4)) 52 g) mz_t57 mz_v57_13 rfl rfl rfl rfl rfl (E.deep (by decide)) ?_
      refine mz_go 2 (c' := (120, [some (.ref 49), some (.ref 50), some (.int (-1))], [.int 99, .int 0, .int (sm_ev T (m 14) (m 15) (sm_nm (sm_abs (m 50 2) + sm_abs (m 50 3)) (999) (m 50 4) 0 0))], mz_set (mz_up (mz_up (mz_up m 51 0 ((sm_abs (m 50 2)) + (sm_abs (m 50 3)))) 51 1 999) 51 2 (m 50 4)) 52 g)) rfl ?_
      refine mz_doQ (R := mz_r122) (as := [.int (sm_ev T (m 14) (m 15) (sm_nm (sm_abs (m 50 2) + sm_abs (m 50 3)) (999) (m 50 4) 0 0)), .int 0, .int 99]) (rest := []) (r1 := some (.int (sm_held (sm_ev T (m 14) (m 15) (sm_nm (sm_abs (m 50 2) + sm_abs (m 50 3)) (999) (m 50 4) 0 0)) 0 99))) (m1 := mz_set (mz_up (mz_up (mz_up m 51 0 ((sm_abs (m 50 2)) + (sm_abs (m 50 3)))) 51 1 999) 51 2 (m 50 4)) 52 g) mz_t122 mz_v122 rfl rfl rfl rfl rfl ((cs_held (m := mz_set (mz_up (mz_up (mz_up m 51 0 ((sm_abs (m 50 2)) + (sm_abs (m 50 3)))) 51 1 999) 51 2 (m 50 4)) 52 g) (v := (sm_ev T (m 14) (m 15) (sm_nm (sm_abs (m 50 2) + sm_abs (m 50 3)) (999) (m 50 4) 0 0))) (a := 0) (b := 99) (by decide)).deep (by decide)) ?_
      exact mz_ret rfl
    · obtain ⟨j, hj, hi, hf⟩ := sm_near_pos (by omega) hn
      obtain ⟨g, E⟩ := cs_ev13 (m := mz_up (mz_up (mz_up m 51 0 (sm_abs (m 50 2) + sm_abs (m 50 3))) 51 1 (sm_far (m 4 j) (m 5 j) (m 50 0) (m 50 1))) 51 2 (m 50 4)) hT hwf (by decide)
      replace E : mz_Me 10 mz_r57 [.ref 13, .ref 51, .ref 52] (mz_up (mz_up (mz_up m 51 0 (sm_abs (m 50 2) + sm_abs (m 50 3))) 51 1 (sm_far (m 4 j) (m 5 j) (m 50 0) (m 50 1))) 51 2 (m 50 4)) (some (.int (sm_ev T (m 14) (m 15) (sm_nm (sm_abs (m 50 2) + sm_abs (m 50 3)) (sm_far (m 4 j) (m 5 j) (m 50 0) (m 50 1)) (m 50 4) 0 0)))) (mz_set (mz_up (mz_up (mz_up m 51 0 (sm_abs (m 50 2) + sm_abs (m 50 3))) 51 1 (sm_far (m 4 j) (m 5 j) (m 50 0) (m 50 1))) 51 2 (m 50 4)) 52 g) := by
        rw [← sm_ev_nm (nm := (mz_up (mz_up (mz_up m 51 0 (sm_abs (m 50 2) + sm_abs (m 50 3))) 51 1 (sm_far (m 4 j) (m 5 j) (m 50 0) (m 50 1))) 51 2 (m 50 4)) 51) (sg := m 14) (va := m 15) hwf (by decide) (fun j hj => by
          rcases (show j = 0 ∨ j = 1 ∨ j = 2 by omega) with rfl | rfl | rfl <;> rfl)]
        exact E
      have hm : mz_up (mz_up (mz_up m 51 0 (sm_abs (m 50 2) + sm_abs (m 50 3))) 51 1 (sm_far (m 4 j) (m 5 j) (m 50 0) (m 50 1))) 51 2 (m 50 4) = mz_set m 51 ((mz_up (mz_up (mz_up m 51 0 (sm_abs (m 50 2) + sm_abs (m 50 3))) 51 1 (sm_far (m 4 j) (m 5 j) (m 50 0) (m 50 1))) 51 2 (m 50 4)) 51) := sm_of1 (fun i hi => by simp only [mz_up_ne hi])
      refine ⟨(mz_up (mz_up (mz_up m 51 0 (sm_abs (m 50 2) + sm_abs (m 50 3))) 51 1 (sm_far (m 4 j) (m 5 j) (m 50 0) (m 50 1))) 51 2 (m 50 4)) 51, g, ?_⟩
      rw [← hm]
      have hv : sm_rub m (m 50 0) (m 50 1) (m 50 2) (m 50 3) (m 50 4) = sm_held (sm_ev T (m 14) (m 15) (sm_nm (sm_abs (m 50 2) + sm_abs (m 50 3)) (sm_far (m 4 j) (m 5 j) (m 50 0) (m 50 1)) (m 50 4) 0 0)) 0 99 := by
        unfold sm_rub sm_nearr
        rw [hc, if_neg hn, hf, hT, if_neg (nI_nle (by omega) (by omega)), nI_clamp (by omega)]
      rw [hv]
      refine ⟨?_, rfl⟩
      refine mz_go 5 (c' := (if 0 < (m 13 2) then 23 else 13, [some (.ref 49), some (.ref 50), none], [], m)) rfl ?_
      refine mz_ifT hpos ?_
      refine mz_go 8 (c' := (39, [some (.ref 49), some (.ref 50), none], [.int 0, .int (m 50 1), .int (m 50 0), .ref 2], m)) rfl ?_
      refine mz_doQ (R := mz_r25) (as := [.ref 2, .int (m 50 0), .int (m 50 1), .int 0]) (rest := []) (r1 := some (.int ((sm_near (m 3) (m 4) (m 5) (m 50 0) (m 50 1) false N).1))) (m1 := m) mz_t25 mz_v25_2 rfl rfl rfl rfl rfl ((cs_near0 hN (m := m) h4 (m 50 0) (m 50 1)).deep (by decide)) ?_
      rw [hi]
      refine mz_go 23 (c' := (85, [some (.ref 49), some (.ref 50), some (.int (nI j))], [.int (m 50 1), .int (m 50 0), .int (nI j), .ref 2, .int 1, .ref 51], mz_up m 51 0 ((sm_abs (m 50 2)) + (sm_abs (m 50 3))))) rfl ?_
      refine mz_doQ (R := mz_r24) (as := [.ref 2, .int (nI j), .int (m 50 0), .int (m 50 1)]) (rest := [.int 1, .ref 51]) (r1 := some (.int (sm_far (m 4 j) (m 5 j) (m 50 0) (m 50 1)))) (m1 := mz_up m 51 0 ((sm_abs (m 50 2)) + (sm_abs (m 50 3)))) mz_t24 mz_v24_2 rfl rfl rfl rfl rfl ((cs_far hN (m := mz_up m 51 0 ((sm_abs (m 50 2)) + (sm_abs (m 50 3)))) h4 (show j < N by omega) (m 50 0) (m 50 1)).deep (by decide)) ?_
      refine mz_go 14 (c' := (114, [some (.ref 49), some (.ref 50), some (.int (nI j))], [.ref 52, .ref 51, .ref 13], mz_up (mz_up (mz_up m 51 0 ((sm_abs (m 50 2)) + (sm_abs (m 50 3)))) 51 1 (sm_far (m 4 j) (m 5 j) (m 50 0) (m 50 1))) 51 2 (m 50 4))) rfl ?_
      refine mz_doQ (R := mz_r57) (as := [.ref 13, .ref 51, .ref 52]) (rest := []) (r1 := some (.int (sm_ev T (m 14) (m 15) (sm_nm (sm_abs (m 50 2) + sm_abs (m 50 3)) (sm_far (m 4 j) (m 5 j) (m 50 0) (m 50 1)) (m 50 4) 0 0)))) (m1 := mz_set (mz_up (mz_up (mz_up m 51 0 ((sm_abs (m 50 2)) + (sm_abs (m 50 3)))) 51 1 (sm_far (m 4 j) (m 5 j) (m 50 0) (m 50 1))) 51 2 (m 50 4)) 52 g) mz_t57 mz_v57_13 rfl rfl rfl rfl rfl (E.deep (by decide)) ?_
      refine mz_go 2 (c' := (120, [some (.ref 49), some (.ref 50), some (.int (nI j))], [.int 99, .int 0, .int (sm_ev T (m 14) (m 15) (sm_nm (sm_abs (m 50 2) + sm_abs (m 50 3)) (sm_far (m 4 j) (m 5 j) (m 50 0) (m 50 1)) (m 50 4) 0 0))], mz_set (mz_up (mz_up (mz_up m 51 0 ((sm_abs (m 50 2)) + (sm_abs (m 50 3)))) 51 1 (sm_far (m 4 j) (m 5 j) (m 50 0) (m 50 1))) 51 2 (m 50 4)) 52 g)) rfl ?_
      refine mz_doQ (R := mz_r122) (as := [.int (sm_ev T (m 14) (m 15) (sm_nm (sm_abs (m 50 2) + sm_abs (m 50 3)) (sm_far (m 4 j) (m 5 j) (m 50 0) (m 50 1)) (m 50 4) 0 0)), .int 0, .int 99]) (rest := []) (r1 := some (.int (sm_held (sm_ev T (m 14) (m 15) (sm_nm (sm_abs (m 50 2) + sm_abs (m 50 3)) (sm_far (m 4 j) (m 5 j) (m 50 0) (m 50 1)) (m 50 4) 0 0)) 0 99))) (m1 := mz_set (mz_up (mz_up (mz_up m 51 0 ((sm_abs (m 50 2)) + (sm_abs (m 50 3)))) 51 1 (sm_far (m 4 j) (m 5 j) (m 50 0) (m 50 1))) 51 2 (m 50 4)) 52 g) mz_t122 mz_v122 rfl rfl rfl rfl rfl ((cs_held (m := mz_set (mz_up (mz_up (mz_up m 51 0 ((sm_abs (m 50 2)) + (sm_abs (m 50 3)))) 51 1 (sm_far (m 4 j) (m 5 j) (m 50 0) (m 50 1))) 51 2 (m 50 4)) 52 g) (v := (sm_ev T (m 14) (m 15) (sm_nm (sm_abs (m 50 2) + sm_abs (m 50 3)) (sm_far (m 4 j) (m 5 j) (m 50 0) (m 50 1)) (m 50 4) 0 0))) (a := 0) (b := 99) (by decide)).deep (by decide)) ?_
      exact mz_ret rfl
theorem cw_rub50 {m w : mz_M} (hl : sm_Wl m w) {N : Nat} (hw : sm_W w N) : ∃ f g, mz_Me 20 mz_r43 [.ref 49, .ref 50] m (some (.int (sm_rub w (m 50 0) (m 50 1) (m 50 2) (m 50 3) (m 50 4)))) (mz_set (mz_set m 51 f) 52 g) := by
  rw [← sm_rub_of hl]
  exact cs_rub50 (sm_W_of hl hw)
set_option maxHeartbeats 4000000 in
set_option maxRecDepth 100000 in
theorem cs_go19 {m : mz_M} {f : Int32} (hf : ¬ f = 0) : mz_Me 5 mz_r39 [.ref 19, .int f] m none (mz_set m 19 (sm_gof f (m 19))) := by
  by_cases c1 : sm_held (m 19 0 + m 19 2 / f) (-1600) 1600 = m 19 0 + m 19 2 / f
  · by_cases c2 : sm_held (m 19 1 + m 19 3 / f) (-1600) 1600 = m 19 1 + m 19 3 / f
    · have e : mz_set m 19 (sm_gof f (m 19)) = mz_up (mz_up m 19 0 (sm_held ((m 19 0) + ((m 19 2) / f)) (-1600) 1600)) 19 1 (sm_held ((m 19 1) + ((m 19 3) / f)) (-1600) 1600) := by
        rw [sm_of1 (m := m) (m' := mz_up (mz_up m 19 0 (sm_held ((m 19 0) + ((m 19 2) / f)) (-1600) 1600)) 19 1 (sm_held ((m 19 1) + ((m 19 3) / f)) (-1600) 1600)) (a := 19) (fun i hi => by simp only [mz_up_ne hi])]
        congr 1
        funext k
        simp only [mz_up_eq]
        unfold sm_gof
        rcases (show k = 0 ∨ k = 1 ∨ k = 2 ∨ k = 3 ∨ 4 ≤ k by omega) with rfl | rfl | rfl | rfl | h4
        · simp
        · simp
        · simp [c1]
        · simp [c2]
        · simp [show k ≠ 0 by omega, show k ≠ 1 by omega, show k ≠ 2 by omega, show k ≠ 3 by omega]
      rw [e]
      refine ⟨?_, rfl⟩
      refine mz_go 5 (c' := (9, [some (.ref 19), some (.int f), none, none], [.int f, .int (m 19 2), .int (m 19 0)], m)) rfl ?_
      refine mz_doQ (R := mz_r123) (as := [.int (m 19 2), .int f]) (rest := [.int (m 19 0)]) (r1 := some (.int ((m 19 2) / f))) (m1 := m) mz_t123 mz_v123 rfl rfl rfl rfl rfl ((cs_cut (m := m) (a := (m 19 2)) hf).deep (by decide)) ?_
      refine mz_go 7 (c' := (23, [some (.ref 19), some (.int f), some (.int ((m 19 0) + ((m 19 2) / f))), none], [.int f, .int (m 19 3), .int (m 19 1)], m)) rfl ?_
      refine mz_doQ (R := mz_r123) (as := [.int (m 19 3), .int f]) (rest := [.int (m 19 1)]) (r1 := some (.int ((m 19 3) / f))) (m1 := m) mz_t123 mz_v123 rfl rfl rfl rfl rfl ((cs_cut (m := m) (a := (m 19 3)) hf).deep (by decide)) ?_
      refine mz_go 6 (c' := (36, [some (.ref 19), some (.int f), some (.int ((m 19 0) + ((m 19 2) / f))), some (.int ((m 19 1) + ((m 19 3) / f)))], [.int 1600, .int (-1600), .int ((m 19 0) + ((m 19 2) / f)), .ref 19], m)) rfl ?_
      refine mz_doQ (R := mz_r122) (as := [.int ((m 19 0) + ((m 19 2) / f)), .int (-1600), .int 1600]) (rest := [.ref 19]) (r1 := some (.int (sm_held ((m 19 0) + ((m 19 2) / f)) (-1600) 1600))) (m1 := m) mz_t122 mz_v122 rfl rfl rfl rfl rfl ((cs_held (m := m) (v := ((m 19 0) + ((m 19 2) / f))) (a := (-1600)) (b := 1600) (by decide)).deep (by decide)) ?_
      refine mz_go 5 (c' := (50, [some (.ref 19), some (.int f), some (.int ((m 19 0) + ((m 19 2) / f))), some (.int ((m 19 1) + ((m 19 3) / f)))], [.int 1600, .int (-1600), .int ((m 19 1) + ((m 19 3) / f)), .ref 19], mz_up m 19 0 (sm_held ((m 19 0) + ((m 19 2) / f)) (-1600) 1600))) rfl ?_
      refine mz_doQ (R := mz_r122) (as := [.int ((m 19 1) + ((m 19 3) / f)), .int (-1600), .int 1600]) (rest := [.ref 19]) (r1 := some (.int (sm_held ((m 19 1) + ((m 19 3) / f)) (-1600) 1600))) (m1 := mz_up m 19 0 (sm_held ((m 19 0) + ((m 19 2) / f)) (-1600) 1600)) mz_t122 mz_v122 rfl rfl rfl rfl rfl ((cs_held (m := mz_up m 19 0 (sm_held ((m 19 0) + ((m 19 2) / f)) (-1600) 1600)) (v := ((m 19 1) + ((m 19 3) / f))) (a := (-1600)) (b := 1600) (by decide)).deep (by decide)) ?_
      refine mz_go 5 (c' := (if (sm_held ((m 19 0) + ((m 19 2) / f)) (-1600) 1600) = ((m 19 0) + ((m 19 2) / f)) then 69 else 64, [some (.ref 19), some (.int f), some (.int ((m 19 0) + ((m 19 2) / f))), some (.int ((m 19 1) + ((m 19 3) / f)))], [], mz_up (mz_up m 19 0 (sm_held ((m 19 0) + ((m 19 2) / f)) (-1600) 1600)) 19 1 (sm_held ((m 19 1) + ((m 19 3) / f)) (-1600) 1600))) rfl ?_
      refine mz_ifT c1 ?_
      refine mz_go 4 (c' := (if (sm_held ((m 19 1) + ((m 19 3) / f)) (-1600) 1600) = ((m 19 1) + ((m 19 3) / f)) then 82 else 77, [some (.ref 19), some (.int f), some (.int ((m 19 0) + ((m 19 2) / f))), some (.int ((m 19 1) + ((m 19 3) / f)))], [], mz_up (mz_up m 19 0 (sm_held ((m 19 0) + ((m 19 2) / f)) (-1600) 1600)) 19 1 (sm_held ((m 19 1) + ((m 19 3) / f)) (-1600) 1600))) rfl ?_
      refine mz_ifT c2 ?_
      exact mz_ret rfl
    · have e : mz_set m 19 (sm_gof f (m 19)) = mz_up (mz_up (mz_up m 19 0 (sm_held ((m 19 0) + ((m 19 2) / f)) (-1600) 1600)) 19 1 (sm_held ((m 19 1) + ((m 19 3) / f)) (-1600) 1600)) 19 3 0 := by
        rw [sm_of1 (m := m) (m' := mz_up (mz_up (mz_up m 19 0 (sm_held ((m 19 0) + ((m 19 2) / f)) (-1600) 1600)) 19 1 (sm_held ((m 19 1) + ((m 19 3) / f)) (-1600) 1600)) 19 3 0) (a := 19) (fun i hi => by simp only [mz_up_ne hi])]
        congr 1
        funext k
        simp only [mz_up_eq]
        unfold sm_gof
        rcases (show k = 0 ∨ k = 1 ∨ k = 2 ∨ k = 3 ∨ 4 ≤ k by omega) with rfl | rfl | rfl | rfl | h4
        · simp
        · simp
        · simp [c1]
        · simp [c2]
        · simp [show k ≠ 0 by omega, show k ≠ 1 by omega, show k ≠ 2 by omega, show k ≠ 3 by omega]
      rw [e]
      refine ⟨?_, rfl⟩
      refine mz_go 5 (c' := (9, [some (.ref 19), some (.int f), none, none], [.int f, .int (m 19 2), .int (m 19 0)], m)) rfl ?_
      refine mz_doQ (R := mz_r123) (as := [.int (m 19 2), .int f]) (rest := [.int (m 19 0)]) (r1 := some (.int ((m 19 2) / f))) (m1 := m) mz_t123 mz_v123 rfl rfl rfl rfl rfl ((cs_cut (m := m) (a := (m 19 2)) hf).deep (by decide)) ?_
      refine mz_go 7 (c' := (23, [some (.ref 19), some (.int f), some (.int ((m 19 0) + ((m 19 2) / f))), none], [.int f, .int (m 19 3), .int (m 19 1)], m)) rfl ?_
      refine mz_doQ (R := mz_r123) (as := [.int (m 19 3), .int f]) (rest := [.int (m 19 1)]) (r1 := some (.int ((m 19 3) / f))) (m1 := m) mz_t123 mz_v123 rfl rfl rfl rfl rfl ((cs_cut (m := m) (a := (m 19 3)) hf).deep (by decide)) ?_
      refine mz_go 6 (c' := (36, [some (.ref 19), some (.int f), some (.int ((m 19 0) + ((m 19 2) / f))), some (.int ((m 19 1) + ((m 19 3) / f)))], [.int 1600, .int (-1600), .int ((m 19 0) + ((m 19 2) / f)), .ref 19], m)) rfl ?_
      refine mz_doQ (R := mz_r122) (as := [.int ((m 19 0) + ((m 19 2) / f)), .int (-1600), .int 1600]) (rest := [.ref 19]) (r1 := some (.int (sm_held ((m 19 0) + ((m 19 2) / f)) (-1600) 1600))) (m1 := m) mz_t122 mz_v122 rfl rfl rfl rfl rfl ((cs_held (m := m) (v := ((m 19 0) + ((m 19 2) / f))) (a := (-1600)) (b := 1600) (by decide)).deep (by decide)) ?_
      refine mz_go 5 (c' := (50, [some (.ref 19), some (.int f), some (.int ((m 19 0) + ((m 19 2) / f))), some (.int ((m 19 1) + ((m 19 3) / f)))], [.int 1600, .int (-1600), .int ((m 19 1) + ((m 19 3) / f)), .ref 19], mz_up m 19 0 (sm_held ((m 19 0) + ((m 19 2) / f)) (-1600) 1600))) rfl ?_
      refine mz_doQ (R := mz_r122) (as := [.int ((m 19 1) + ((m 19 3) / f)), .int (-1600), .int 1600]) (rest := [.ref 19]) (r1 := some (.int (sm_held ((m 19 1) + ((m 19 3) / f)) (-1600) 1600))) (m1 := mz_up m 19 0 (sm_held ((m 19 0) + ((m 19 2) / f)) (-1600) 1600)) mz_t122 mz_v122 rfl rfl rfl rfl rfl ((cs_held (m := mz_up m 19 0 (sm_held ((m 19 0) + ((m 19 2) / f)) (-1600) 1600)) (v := ((m 19 1) + ((m 19 3) / f))) (a := (-1600)) (b := 1600) (by decide)).deep (by decide)) ?_
      refine mz_go 5 (c' := (if (sm_held ((m 19 0) + ((m 19 2) / f)) (-1600) 1600) = ((m 19 0) + ((m 19 2) / f)) then 69 else 64, [some (.ref 19), some (.int f), some (.int ((m 19 0) + ((m 19 2) / f))), some (.int ((m 19 1) + ((m 19 3) / f)))], [], mz_up (mz_up m 19 0 (sm_held ((m 19 0) + ((m 19 2) / f)) (-1600) 1600)) 19 1 (sm_held ((m 19 1) + ((m 19 3) / f)) (-1600) 1600))) rfl ?_
      refine mz_ifT c1 ?_
      refine mz_go 4 (c' := (if (sm_held ((m 19 1) + ((m 19 3) / f)) (-1600) 1600) = ((m 19 1) + ((m 19 3) / f)) then 82 else 77, [some (.ref 19), some (.int f), some (.int ((m 19 0) + ((m 19 2) / f))), some (.int ((m 19 1) + ((m 19 3) / f)))], [], mz_up (mz_up m 19 0 (sm_held ((m 19 0) + ((m 19 2) / f)) (-1600) 1600)) 19 1 (sm_held ((m 19 1) + ((m 19 3) / f)) (-1600) 1600))) rfl ?_
      refine mz_ifF c2 ?_
      refine mz_go 3 (c' := (82, [some (.ref 19), some (.int f), some (.int ((m 19 0) + ((m 19 2) / f))), some (.int ((m 19 1) + ((m 19 3) / f)))], [], mz_up (mz_up (mz_up m 19 0 (sm_held ((m 19 0) + ((m 19 2) / f)) (-1600) 1600)) 19 1 (sm_held ((m 19 1) + ((m 19 3) / f)) (-1600) 1600)) 19 3 0)) rfl ?_
      exact mz_ret rfl
  · by_cases c2 : sm_held (m 19 1 + m 19 3 / f) (-1600) 1600 = m 19 1 + m 19 3 / f
    · have e : mz_set m 19 (sm_gof f (m 19)) = mz_up (mz_up (mz_up m 19 0 (sm_held ((m 19 0) + ((m 19 2) / f)) (-1600) 1600)) 19 1 (sm_held ((m 19 1) + ((m 19 3) / f)) (-1600) 1600)) 19 2 0 := by
        rw [sm_of1 (m := m) (m' := mz_up (mz_up (mz_up m 19 0 (sm_held ((m 19 0) + ((m 19 2) / f)) (-1600) 1600)) 19 1 (sm_held ((m 19 1) + ((m 19 3) / f)) (-1600) 1600)) 19 2 0) (a := 19) (fun i hi => by simp only [mz_up_ne hi])]
        congr 1
        funext k
        simp only [mz_up_eq]
        unfold sm_gof
        rcases (show k = 0 ∨ k = 1 ∨ k = 2 ∨ k = 3 ∨ 4 ≤ k by omega) with rfl | rfl | rfl | rfl | h4
        · simp
        · simp
        · simp [c1]
        · simp [c2]
        · simp [show k ≠ 0 by omega, show k ≠ 1 by omega, show k ≠ 2 by omega, show k ≠ 3 by omega]
      rw [e]
      refine ⟨?_, rfl⟩
      refine mz_go 5 (c' := (9, [some (.ref 19), some (.int f), none, none], [.int f, .int (m 19 2), .int (m 19 0)], m)) rfl ?_
      refine mz_doQ (R := mz_r123) (as := [.int (m 19 2), .int f]) (rest := [.int (m 19 0)]) (r1 := some (.int ((m 19 2) / f))) (m1 := m) mz_t123 mz_v123 rfl rfl rfl rfl rfl ((cs_cut (m := m) (a := (m 19 2)) hf).deep (by decide)) ?_
      refine mz_go 7 (c' := (23, [some (.ref 19), some (.int f), some (.int ((m 19 0) + ((m 19 2) / f))), none], [.int f, .int (m 19 3), .int (m 19 1)], m)) rfl ?_
      refine mz_doQ (R := mz_r123) (as := [.int (m 19 3), .int f]) (rest := [.int (m 19 1)]) (r1 := some (.int ((m 19 3) / f))) (m1 := m) mz_t123 mz_v123 rfl rfl rfl rfl rfl ((cs_cut (m := m) (a := (m 19 3)) hf).deep (by decide)) ?_
      refine mz_go 6 (c' := (36, [some (.ref 19), some (.int f), some (.int ((m 19 0) + ((m 19 2) / f))), some (.int ((m 19 1) + ((m 19 3) / f)))], [.int 1600, .int (-1600), .int ((m 19 0) + ((m 19 2) / f)), .ref 19], m)) rfl ?_
      refine mz_doQ (R := mz_r122) (as := [.int ((m 19 0) + ((m 19 2) / f)), .int (-1600), .int 1600]) (rest := [.ref 19]) (r1 := some (.int (sm_held ((m 19 0) + ((m 19 2) / f)) (-1600) 1600))) (m1 := m) mz_t122 mz_v122 rfl rfl rfl rfl rfl ((cs_held (m := m) (v := ((m 19 0) + ((m 19 2) / f))) (a := (-1600)) (b := 1600) (by decide)).deep (by decide)) ?_
      refine mz_go 5 (c' := (50, [some (.ref 19), some (.int f), some (.int ((m 19 0) + ((m 19 2) / f))), some (.int ((m 19 1) + ((m 19 3) / f)))], [.int 1600, .int (-1600), .int ((m 19 1) + ((m 19 3) / f)), .ref 19], mz_up m 19 0 (sm_held ((m 19 0) + ((m 19 2) / f)) (-1600) 1600))) rfl ?_
      refine mz_doQ (R := mz_r122) (as := [.int ((m 19 1) + ((m 19 3) / f)), .int (-1600), .int 1600]) (rest := [.ref 19]) (r1 := some (.int (sm_held ((m 19 1) + ((m 19 3) / f)) (-1600) 1600))) (m1 := mz_up m 19 0 (sm_held ((m 19 0) + ((m 19 2) / f)) (-1600) 1600)) mz_t122 mz_v122 rfl rfl rfl rfl rfl ((cs_held (m := mz_up m 19 0 (sm_held ((m 19 0) + ((m 19 2) / f)) (-1600) 1600)) (v := ((m 19 1) + ((m 19 3) / f))) (a := (-1600)) (b := 1600) (by decide)).deep (by decide)) ?_
      refine mz_go 5 (c' := (if (sm_held ((m 19 0) + ((m 19 2) / f)) (-1600) 1600) = ((m 19 0) + ((m 19 2) / f)) then 69 else 64, [some (.ref 19), some (.int f), some (.int ((m 19 0) + ((m 19 2) / f))), some (.int ((m 19 1) + ((m 19 3) / f)))], [], mz_up (mz_up m 19 0 (sm_held ((m 19 0) + ((m 19 2) / f)) (-1600) 1600)) 19 1 (sm_held ((m 19 1) + ((m 19 3) / f)) (-1600) 1600))) rfl ?_
      refine mz_ifF c1 ?_
      refine mz_go 7 (c' := (if (sm_held ((m 19 1) + ((m 19 3) / f)) (-1600) 1600) = ((m 19 1) + ((m 19 3) / f)) then 82 else 77, [some (.ref 19), some (.int f), some (.int ((m 19 0) + ((m 19 2) / f))), some (.int ((m 19 1) + ((m 19 3) / f)))], [], mz_up (mz_up (mz_up m 19 0 (sm_held ((m 19 0) + ((m 19 2) / f)) (-1600) 1600)) 19 1 (sm_held ((m 19 1) + ((m 19 3) / f)) (-1600) 1600)) 19 2 0)) rfl ?_
      refine mz_ifT c2 ?_
      exact mz_ret rfl
    · have e : mz_set m 19 (sm_gof f (m 19)) = mz_up (mz_up (mz_up (mz_up m 19 0 (sm_held ((m 19 0) + ((m 19 2) / f)) (-1600) 1600)) 19 1 (sm_held ((m 19 1) + ((m 19 3) / f)) (-1600) 1600)) 19 2 0) 19 3 0 := by
        rw [sm_of1 (m := m) (m' := mz_up (mz_up (mz_up (mz_up m 19 0 (sm_held ((m 19 0) + ((m 19 2) / f)) (-1600) 1600)) 19 1 (sm_held ((m 19 1) + ((m 19 3) / f)) (-1600) 1600)) 19 2 0) 19 3 0) (a := 19) (fun i hi => by simp only [mz_up_ne hi])]
        congr 1
        funext k
        simp only [mz_up_eq]
        unfold sm_gof
        rcases (show k = 0 ∨ k = 1 ∨ k = 2 ∨ k = 3 ∨ 4 ≤ k by omega) with rfl | rfl | rfl | rfl | h4
        · simp
        · simp
        · simp [c1]
        · simp [c2]
        · simp [show k ≠ 0 by omega, show k ≠ 1 by omega, show k ≠ 2 by omega, show k ≠ 3 by omega]
      rw [e]
      refine ⟨?_, rfl⟩
      refine mz_go 5 (c' := (9, [some (.ref 19), some (.int f), none, none], [.int f, .int (m 19 2), .int (m 19 0)], m)) rfl ?_
      refine mz_doQ (R := mz_r123) (as := [.int (m 19 2), .int f]) (rest := [.int (m 19 0)]) (r1 := some (.int ((m 19 2) / f))) (m1 := m) mz_t123 mz_v123 rfl rfl rfl rfl rfl ((cs_cut (m := m) (a := (m 19 2)) hf).deep (by decide)) ?_
      refine mz_go 7 (c' := (23, [some (.ref 19), some (.int f), some (.int ((m 19 0) + ((m 19 2) / f))), none], [.int f, .int (m 19 3), .int (m 19 1)], m)) rfl ?_
      refine mz_doQ (R := mz_r123) (as := [.int (m 19 3), .int f]) (rest := [.int (m 19 1)]) (r1 := some (.int ((m 19 3) / f))) (m1 := m) mz_t123 mz_v123 rfl rfl rfl rfl rfl ((cs_cut (m := m) (a := (m 19 3)) hf).deep (by decide)) ?_
      refine mz_go 6 (c' := (36, [some (.ref 19), some (.int f), some (.int ((m 19 0) + ((m 19 2) / f))), some (.int ((m 19 1) + ((m 19 3) / f)))], [.int 1600, .int (-1600), .int ((m 19 0) + ((m 19 2) / f)), .ref 19], m)) rfl ?_
      refine mz_doQ (R := mz_r122) (as := [.int ((m 19 0) + ((m 19 2) / f)), .int (-1600), .int 1600]) (rest := [.ref 19]) (r1 := some (.int (sm_held ((m 19 0) + ((m 19 2) / f)) (-1600) 1600))) (m1 := m) mz_t122 mz_v122 rfl rfl rfl rfl rfl ((cs_held (m := m) (v := ((m 19 0) + ((m 19 2) / f))) (a := (-1600)) (b := 1600) (by decide)).deep (by decide)) ?_
      refine mz_go 5 (c' := (50, [some (.ref 19), some (.int f), some (.int ((m 19 0) + ((m 19 2) / f))), some (.int ((m 19 1) + ((m 19 3) / f)))], [.int 1600, .int (-1600), .int ((m 19 1) + ((m 19 3) / f)), .ref 19], mz_up m 19 0 (sm_held ((m 19 0) + ((m 19 2) / f)) (-1600) 1600))) rfl ?_
      refine mz_doQ (R := mz_r122) (as := [.int ((m 19 1) + ((m 19 3) / f)), .int (-1600), .int 1600]) (rest := [.ref 19]) (r1 := some (.int (sm_held ((m 19 1) + ((m 19 3) / f)) (-1600) 1600))) (m1 := mz_up m 19 0 (sm_held ((m 19 0) + ((m 19 2) / f)) (-1600) 1600)) mz_t122 mz_v122 rfl rfl rfl rfl rfl ((cs_held (m := mz_up m 19 0 (sm_held ((m 19 0) + ((m 19 2) / f)) (-1600) 1600)) (v := ((m 19 1) + ((m 19 3) / f))) (a := (-1600)) (b := 1600) (by decide)).deep (by decide)) ?_
      refine mz_go 5 (c' := (if (sm_held ((m 19 0) + ((m 19 2) / f)) (-1600) 1600) = ((m 19 0) + ((m 19 2) / f)) then 69 else 64, [some (.ref 19), some (.int f), some (.int ((m 19 0) + ((m 19 2) / f))), some (.int ((m 19 1) + ((m 19 3) / f)))], [], mz_up (mz_up m 19 0 (sm_held ((m 19 0) + ((m 19 2) / f)) (-1600) 1600)) 19 1 (sm_held ((m 19 1) + ((m 19 3) / f)) (-1600) 1600))) rfl ?_
      refine mz_ifF c1 ?_
      refine mz_go 7 (c' := (if (sm_held ((m 19 1) + ((m 19 3) / f)) (-1600) 1600) = ((m 19 1) + ((m 19 3) / f)) then 82 else 77, [some (.ref 19), some (.int f), some (.int ((m 19 0) + ((m 19 2) / f))), some (.int ((m 19 1) + ((m 19 3) / f)))], [], mz_up (mz_up (mz_up m 19 0 (sm_held ((m 19 0) + ((m 19 2) / f)) (-1600) 1600)) 19 1 (sm_held ((m 19 1) + ((m 19 3) / f)) (-1600) 1600)) 19 2 0)) rfl ?_
      refine mz_ifF c2 ?_
      refine mz_go 3 (c' := (82, [some (.ref 19), some (.int f), some (.int ((m 19 0) + ((m 19 2) / f))), some (.int ((m 19 1) + ((m 19 3) / f)))], [], mz_up (mz_up (mz_up (mz_up m 19 0 (sm_held ((m 19 0) + ((m 19 2) / f)) (-1600) 1600)) 19 1 (sm_held ((m 19 1) + ((m 19 3) / f)) (-1600) 1600)) 19 2 0) 19 3 0)) rfl ?_
      exact mz_ret rfl
set_option maxHeartbeats 4000000 in
set_option maxRecDepth 100000 in
theorem cs_go50 {m : mz_M} {f : Int32} (hf : ¬ f = 0) : mz_Me 5 mz_r39 [.ref 50, .int f] m none (mz_set m 50 (sm_gof f (m 50))) := by
  by_cases c1 : sm_held (m 50 0 + m 50 2 / f) (-1600) 1600 = m 50 0 + m 50 2 / f
  · by_cases c2 : sm_held (m 50 1 + m 50 3 / f) (-1600) 1600 = m 50 1 + m 50 3 / f
    · have e : mz_set m 50 (sm_gof f (m 50)) = mz_up (mz_up m 50 0 (sm_held ((m 50 0) + ((m 50 2) / f)) (-1600) 1600)) 50 1 (sm_held ((m 50 1) + ((m 50 3) / f)) (-1600) 1600) := by
        rw [sm_of1 (m := m) (m' := mz_up (mz_up m 50 0 (sm_held ((m 50 0) + ((m 50 2) / f)) (-1600) 1600)) 50 1 (sm_held ((m 50 1) + ((m 50 3) / f)) (-1600) 1600)) (a := 50) (fun i hi => by simp only [mz_up_ne hi])]
        congr 1
        funext k
        simp only [mz_up_eq]
        unfold sm_gof
        rcases (show k = 0 ∨ k = 1 ∨ k = 2 ∨ k = 3 ∨ 4 ≤ k by omega) with rfl | rfl | rfl | rfl | h4
        · simp
        · simp
        · simp [c1]
        · simp [c2]
        · simp [show k ≠ 0 by omega, show k ≠ 1 by omega, show k ≠ 2 by omega, show k ≠ 3 by omega]
      rw [e]
      refine ⟨?_, rfl⟩
      refine mz_go 5 (c' := (9, [some (.ref 50), some (.int f), none, none], [.int f, .int (m 50 2), .int (m 50 0)], m)) rfl ?_
      refine mz_doQ (R := mz_r123) (as := [.int (m 50 2), .int f]) (rest := [.int (m 50 0)]) (r1 := some (.int ((m 50 2) / f))) (m1 := m) mz_t123 mz_v123 rfl rfl rfl rfl rfl ((cs_cut (m := m) (a := (m 50 2)) hf).deep (by decide)) ?_
      refine mz_go 7 (c' := (23, [some (.ref 50), some (.int f), some (.int ((m 50 0) + ((m 50 2) / f))), none], [.int f, .int (m 50 3), .int (m 50 1)], m)) rfl ?_
      refine mz_doQ (R := mz_r123) (as := [.int (m 50 3), .int f]) (rest := [.int (m 50 1)]) (r1 := some (.int ((m 50 3) / f))) (m1 := m) mz_t123 mz_v123 rfl rfl rfl rfl rfl ((cs_cut (m := m) (a := (m 50 3)) hf).deep (by decide)) ?_
      refine mz_go 6 (c' := (36, [some (.ref 50), some (.int f), some (.int ((m 50 0) + ((m 50 2) / f))), some (.int ((m 50 1) + ((m 50 3) / f)))], [.int 1600, .int (-1600), .int ((m 50 0) + ((m 50 2) / f)), .ref 50], m)) rfl ?_
      refine mz_doQ (R := mz_r122) (as := [.int ((m 50 0) + ((m 50 2) / f)), .int (-1600), .int 1600]) (rest := [.ref 50]) (r1 := some (.int (sm_held ((m 50 0) + ((m 50 2) / f)) (-1600) 1600))) (m1 := m) mz_t122 mz_v122 rfl rfl rfl rfl rfl ((cs_held (m := m) (v := ((m 50 0) + ((m 50 2) / f))) (a := (-1600)) (b := 1600) (by decide)).deep (by decide)) ?_
      refine mz_go 5 (c' := (50, [some (.ref 50), some (.int f), some (.int ((m 50 0) + ((m 50 2) / f))), some (.int ((m 50 1) + ((m 50 3) / f)))], [.int 1600, .int (-1600), .int ((m 50 1) + ((m 50 3) / f)), .ref 50], mz_up m 50 0 (sm_held ((m 50 0) + ((m 50 2) / f)) (-1600) 1600))) rfl ?_
      refine mz_doQ (R := mz_r122) (as := [.int ((m 50 1) + ((m 50 3) / f)), .int (-1600), .int 1600]) (rest := [.ref 50]) (r1 := some (.int (sm_held ((m 50 1) + ((m 50 3) / f)) (-1600) 1600))) (m1 := mz_up m 50 0 (sm_held ((m 50 0) + ((m 50 2) / f)) (-1600) 1600)) mz_t122 mz_v122 rfl rfl rfl rfl rfl ((cs_held (m := mz_up m 50 0 (sm_held ((m 50 0) + ((m 50 2) / f)) (-1600) 1600)) (v := ((m 50 1) + ((m 50 3) / f))) (a := (-1600)) (b := 1600) (by decide)).deep (by decide)) ?_
      refine mz_go 5 (c' := (if (sm_held ((m 50 0) + ((m 50 2) / f)) (-1600) 1600) = ((m 50 0) + ((m 50 2) / f)) then 69 else 64, [some (.ref 50), some (.int f), some (.int ((m 50 0) + ((m 50 2) / f))), some (.int ((m 50 1) + ((m 50 3) / f)))], [], mz_up (mz_up m 50 0 (sm_held ((m 50 0) + ((m 50 2) / f)) (-1600) 1600)) 50 1 (sm_held ((m 50 1) + ((m 50 3) / f)) (-1600) 1600))) rfl ?_
      refine mz_ifT c1 ?_
      refine mz_go 4 (c' := (if (sm_held ((m 50 1) + ((m 50 3) / f)) (-1600) 1600) = ((m 50 1) + ((m 50 3) / f)) then 82 else 77, [some (.ref 50), some (.int f), some (.int ((m 50 0) + ((m 50 2) / f))), some (.int ((m 50 1) + ((m 50 3) / f)))], [], mz_up (mz_up m 50 0 (sm_held ((m 50 0) + ((m 50 2) / f)) (-1600) 1600)) 50 1 (sm_held ((m 50 1) + ((m 50 3) / f)) (-1600) 1600))) rfl ?_
      refine mz_ifT c2 ?_
      exact mz_ret rfl
    · have e : mz_set m 50 (sm_gof f (m 50)) = mz_up (mz_up (mz_up m 50 0 (sm_held ((m 50 0) + ((m 50 2) / f)) (-1600) 1600)) 50 1 (sm_held ((m 50 1) + ((m 50 3) / f)) (-1600) 1600)) 50 3 0 := by
        rw [sm_of1 (m := m) (m' := mz_up (mz_up (mz_up m 50 0 (sm_held ((m 50 0) + ((m 50 2) / f)) (-1600) 1600)) 50 1 (sm_held ((m 50 1) + ((m 50 3) / f)) (-1600) 1600)) 50 3 0) (a := 50) (fun i hi => by simp only [mz_up_ne hi])]
        congr 1
        funext k
        simp only [mz_up_eq]
        unfold sm_gof
        rcases (show k = 0 ∨ k = 1 ∨ k = 2 ∨ k = 3 ∨ 4 ≤ k by omega) with rfl | rfl | rfl | rfl | h4
        · simp
        · simp
        · simp [c1]
        · simp [c2]
        · simp [show k ≠ 0 by omega, show k ≠ 1 by omega, show k ≠ 2 by omega, show k ≠ 3 by omega]
      rw [e]
      refine ⟨?_, rfl⟩
      refine mz_go 5 (c' := (9, [some (.ref 50), some (.int f), none, none], [.int f, .int (m 50 2), .int (m 50 0)], m)) rfl ?_
      refine mz_doQ (R := mz_r123) (as := [.int (m 50 2), .int f]) (rest := [.int (m 50 0)]) (r1 := some (.int ((m 50 2) / f))) (m1 := m) mz_t123 mz_v123 rfl rfl rfl rfl rfl ((cs_cut (m := m) (a := (m 50 2)) hf).deep (by decide)) ?_
      refine mz_go 7 (c' := (23, [some (.ref 50), some (.int f), some (.int ((m 50 0) + ((m 50 2) / f))), none], [.int f, .int (m 50 3), .int (m 50 1)], m)) rfl ?_
      refine mz_doQ (R := mz_r123) (as := [.int (m 50 3), .int f]) (rest := [.int (m 50 1)]) (r1 := some (.int ((m 50 3) / f))) (m1 := m) mz_t123 mz_v123 rfl rfl rfl rfl rfl ((cs_cut (m := m) (a := (m 50 3)) hf).deep (by decide)) ?_
      refine mz_go 6 (c' := (36, [some (.ref 50), some (.int f), some (.int ((m 50 0) + ((m 50 2) / f))), some (.int ((m 50 1) + ((m 50 3) / f)))], [.int 1600, .int (-1600), .int ((m 50 0) + ((m 50 2) / f)), .ref 50], m)) rfl ?_
      refine mz_doQ (R := mz_r122) (as := [.int ((m 50 0) + ((m 50 2) / f)), .int (-1600), .int 1600]) (rest := [.ref 50]) (r1 := some (.int (sm_held ((m 50 0) + ((m 50 2) / f)) (-1600) 1600))) (m1 := m) mz_t122 mz_v122 rfl rfl rfl rfl rfl ((cs_held (m := m) (v := ((m 50 0) + ((m 50 2) / f))) (a := (-1600)) (b := 1600) (by decide)).deep (by decide)) ?_
      refine mz_go 5 (c' := (50, [some (.ref 50), some (.int f), some (.int ((m 50 0) + ((m 50 2) / f))), some (.int ((m 50 1) + ((m 50 3) / f)))], [.int 1600, .int (-1600), .int ((m 50 1) + ((m 50 3) / f)), .ref 50], mz_up m 50 0 (sm_held ((m 50 0) + ((m 50 2) / f)) (-1600) 1600))) rfl ?_
      refine mz_doQ (R := mz_r122) (as := [.int ((m 50 1) + ((m 50 3) / f)), .int (-1600), .int 1600]) (rest := [.ref 50]) (r1 := some (.int (sm_held ((m 50 1) + ((m 50 3) / f)) (-1600) 1600))) (m1 := mz_up m 50 0 (sm_held ((m 50 0) + ((m 50 2) / f)) (-1600) 1600)) mz_t122 mz_v122 rfl rfl rfl rfl rfl ((cs_held (m := mz_up m 50 0 (sm_held ((m 50 0) + ((m 50 2) / f)) (-1600) 1600)) (v := ((m 50 1) + ((m 50 3) / f))) (a := (-1600)) (b := 1600) (by decide)).deep (by decide)) ?_
      refine mz_go 5 (c' := (if (sm_held ((m 50 0) + ((m 50 2) / f)) (-1600) 1600) = ((m 50 0) + ((m 50 2) / f)) then 69 else 64, [some (.ref 50), some (.int f), some (.int ((m 50 0) + ((m 50 2) / f))), some (.int ((m 50 1) + ((m 50 3) / f)))], [], mz_up (mz_up m 50 0 (sm_held ((m 50 0) + ((m 50 2) / f)) (-1600) 1600)) 50 1 (sm_held ((m 50 1) + ((m 50 3) / f)) (-1600) 1600))) rfl ?_
      refine mz_ifT c1 ?_
      refine mz_go 4 (c' := (if (sm_held ((m 50 1) + ((m 50 3) / f)) (-1600) 1600) = ((m 50 1) + ((m 50 3) / f)) then 82 else 77, [some (.ref 50), some (.int f), some (.int ((m 50 0) + ((m 50 2) / f))), some (.int ((m 50 1) + ((m 50 3) / f)))], [], mz_up (mz_up m 50 0 (sm_held ((m 50 0) + ((m 50 2) / f)) (-1600) 1600)) 50 1 (sm_held ((m 50 1) + ((m 50 3) / f)) (-1600) 1600))) rfl ?_
      refine mz_ifF c2 ?_
      refine mz_go 3 (c' := (82, [some (.ref 50), some (.int f), some (.int ((m 50 0) + ((m 50 2) / f))), some (.int ((m 50 1) + ((m 50 3) / f)))], [], mz_up (mz_up (mz_up m 50 0 (sm_held ((m 50 0) + ((m 50 2) / f)) (-1600) 1600)) 50 1 (sm_held ((m 50 1) + ((m 50 3) / f)) (-1600) 1600)) 50 3 0)) rfl ?_
      exact mz_ret rfl
  · by_cases c2 : sm_held (m 50 1 + m 50 3 / f) (-1600) 1600 = m 50 1 + m 50 3 / f
    · have e : mz_set m 50 (sm_gof f (m 50)) = mz_up (mz_up (mz_up m 50 0 (sm_held ((m 50 0) + ((m 50 2) / f)) (-1600) 1600)) 50 1 (sm_held ((m 50 1) + ((m 50 3) / f)) (-1600) 1600)) 50 2 0 := by
        rw [sm_of1 (m := m) (m' := mz_up (mz_up (mz_up m 50 0 (sm_held ((m 50 0) + ((m 50 2) / f)) (-1600) 1600)) 50 1 (sm_held ((m 50 1) + ((m 50 3) / f)) (-1600) 1600)) 50 2 0) (a := 50) (fun i hi => by simp only [mz_up_ne hi])]
        congr 1
        funext k
        simp only [mz_up_eq]
        unfold sm_gof
        rcases (show k = 0 ∨ k = 1 ∨ k = 2 ∨ k = 3 ∨ 4 ≤ k by omega) with rfl | rfl | rfl | rfl | h4
        · simp
        · simp
        · simp [c1]
        · simp [c2]
        · simp [show k ≠ 0 by omega, show k ≠ 1 by omega, show k ≠ 2 by omega, show k ≠ 3 by omega]
      rw [e]
      refine ⟨?_, rfl⟩
      refine mz_go 5 (c' := (9, [some (.ref 50), some (.int f), none, none], [.int f, .int (m 50 2), .int (m 50 0)], m)) rfl ?_
      refine mz_doQ (R := mz_r123) (as := [.int (m 50 2), .int f]) (rest := [.int (m 50 0)]) (r1 := some (.int ((m 50 2) / f))) (m1 := m) mz_t123 mz_v123 rfl rfl rfl rfl rfl ((cs_cut (m := m) (a := (m 50 2)) hf).deep (by decide)) ?_
      refine mz_go 7 (c' := (23, [some (.ref 50), some (.int f), some (.int ((m 50 0) + ((m 50 2) / f))), none], [.int f, .int (m 50 3), .int (m 50 1)], m)) rfl ?_
      refine mz_doQ (R := mz_r123) (as := [.int (m 50 3), .int f]) (rest := [.int (m 50 1)]) (r1 := some (.int ((m 50 3) / f))) (m1 := m) mz_t123 mz_v123 rfl rfl rfl rfl rfl ((cs_cut (m := m) (a := (m 50 3)) hf).deep (by decide)) ?_
      refine mz_go 6 (c' := (36, [some (.ref 50), some (.int f), some (.int ((m 50 0) + ((m 50 2) / f))), some (.int ((m 50 1) + ((m 50 3) / f)))], [.int 1600, .int (-1600), .int ((m 50 0) + ((m 50 2) / f)), .ref 50], m)) rfl ?_
      refine mz_doQ (R := mz_r122) (as := [.int ((m 50 0) + ((m 50 2) / f)), .int (-1600), .int 1600]) (rest := [.ref 50]) (r1 := some (.int (sm_held ((m 50 0) + ((m 50 2) / f)) (-1600) 1600))) (m1 := m) mz_t122 mz_v122 rfl rfl rfl rfl rfl ((cs_held (m := m) (v := ((m 50 0) + ((m 50 2) / f))) (a := (-1600)) (b := 1600) (by decide)).deep (by decide)) ?_
      refine mz_go 5 (c' := (50, [some (.ref 50), some (.int f), some (.int ((m 50 0) + ((m 50 2) / f))), some (.int ((m 50 1) + ((m 50 3) / f)))], [.int 1600, .int (-1600), .int ((m 50 1) + ((m 50 3) / f)), .ref 50], mz_up m 50 0 (sm_held ((m 50 0) + ((m 50 2) / f)) (-1600) 1600))) rfl ?_
      refine mz_doQ (R := mz_r122) (as := [.int ((m 50 1) + ((m 50 3) / f)), .int (-1600), .int 1600]) (rest := [.ref 50]) (r1 := some (.int (sm_held ((m 50 1) + ((m 50 3) / f)) (-1600) 1600))) (m1 := mz_up m 50 0 (sm_held ((m 50 0) + ((m 50 2) / f)) (-1600) 1600)) mz_t122 mz_v122 rfl rfl rfl rfl rfl ((cs_held (m := mz_up m 50 0 (sm_held ((m 50 0) + ((m 50 2) / f)) (-1600) 1600)) (v := ((m 50 1) + ((m 50 3) / f))) (a := (-1600)) (b := 1600) (by decide)).deep (by decide)) ?_
      refine mz_go 5 (c' := (if (sm_held ((m 50 0) + ((m 50 2) / f)) (-1600) 1600) = ((m 50 0) + ((m 50 2) / f)) then 69 else 64, [some (.ref 50), some (.int f), some (.int ((m 50 0) + ((m 50 2) / f))), some (.int ((m 50 1) + ((m 50 3) / f)))], [], mz_up (mz_up m 50 0 (sm_held ((m 50 0) + ((m 50 2) / f)) (-1600) 1600)) 50 1 (sm_held ((m 50 1) + ((m 50 3) / f)) (-1600) 1600))) rfl ?_
      refine mz_ifF c1 ?_
      refine mz_go 7 (c' := (if (sm_held ((m 50 1) + ((m 50 3) / f)) (-1600) 1600) = ((m 50 1) + ((m 50 3) / f)) then 82 else 77, [some (.ref 50), some (.int f), some (.int ((m 50 0) + ((m 50 2) / f))), some (.int ((m 50 1) + ((m 50 3) / f)))], [], mz_up (mz_up (mz_up m 50 0 (sm_held ((m 50 0) + ((m 50 2) / f)) (-1600) 1600)) 50 1 (sm_held ((m 50 1) + ((m 50 3) / f)) (-1600) 1600)) 50 2 0)) rfl ?_
      refine mz_ifT c2 ?_
      exact mz_ret rfl
    · have e : mz_set m 50 (sm_gof f (m 50)) = mz_up (mz_up (mz_up (mz_up m 50 0 (sm_held ((m 50 0) + ((m 50 2) / f)) (-1600) 1600)) 50 1 (sm_held ((m 50 1) + ((m 50 3) / f)) (-1600) 1600)) 50 2 0) 50 3 0 := by
        rw [sm_of1 (m := m) (m' := mz_up (mz_up (mz_up (mz_up m 50 0 (sm_held ((m 50 0) + ((m 50 2) / f)) (-1600) 1600)) 50 1 (sm_held ((m 50 1) + ((m 50 3) / f)) (-1600) 1600)) 50 2 0) 50 3 0) (a := 50) (fun i hi => by simp only [mz_up_ne hi])]
        congr 1
        funext k
        simp only [mz_up_eq]
        unfold sm_gof
        rcases (show k = 0 ∨ k = 1 ∨ k = 2 ∨ k = 3 ∨ 4 ≤ k by omega) with rfl | rfl | rfl | rfl | h4
        · simp
        · simp
        · simp [c1]
        · simp [c2]
        · simp [show k ≠ 0 by omega, show k ≠ 1 by omega, show k ≠ 2 by omega, show k ≠ 3 by omega]
      rw [e]
      refine ⟨?_, rfl⟩
      refine mz_go 5 (c' := (9, [some (.ref 50), some (.int f), none, none], [.int f, .int (m 50 2), .int (m 50 0)], m)) rfl ?_
      refine mz_doQ (R := mz_r123) (as := [.int (m 50 2), .int f]) (rest := [.int (m 50 0)]) (r1 := some (.int ((m 50 2) / f))) (m1 := m) mz_t123 mz_v123 rfl rfl rfl rfl rfl ((cs_cut (m := m) (a := (m 50 2)) hf).deep (by decide)) ?_
      refine mz_go 7 (c' := (23, [some (.ref 50), some (.int f), some (.int ((m 50 0) + ((m 50 2) / f))), none], [.int f, .int (m 50 3), .int (m 50 1)], m)) rfl ?_
      refine mz_doQ (R := mz_r123) (as := [.int (m 50 3), .int f]) (rest := [.int (m 50 1)]) (r1 := some (.int ((m 50 3) / f))) (m1 := m) mz_t123 mz_v123 rfl rfl rfl rfl rfl ((cs_cut (m := m) (a := (m 50 3)) hf).deep (by decide)) ?_
      refine mz_go 6 (c' := (36, [some (.ref 50), some (.int f), some (.int ((m 50 0) + ((m 50 2) / f))), some (.int ((m 50 1) + ((m 50 3) / f)))], [.int 1600, .int (-1600), .int ((m 50 0) + ((m 50 2) / f)), .ref 50], m)) rfl ?_
      refine mz_doQ (R := mz_r122) (as := [.int ((m 50 0) + ((m 50 2) / f)), .int (-1600), .int 1600]) (rest := [.ref 50]) (r1 := some (.int (sm_held ((m 50 0) + ((m 50 2) / f)) (-1600) 1600))) (m1 := m) mz_t122 mz_v122 rfl rfl rfl rfl rfl ((cs_held (m := m) (v := ((m 50 0) + ((m 50 2) / f))) (a := (-1600)) (b := 1600) (by decide)).deep (by decide)) ?_
      refine mz_go 5 (c' := (50, [some (.ref 50), some (.int f), some (.int ((m 50 0) + ((m 50 2) / f))), some (.int ((m 50 1) + ((m 50 3) / f)))], [.int 1600, .int (-1600), .int ((m 50 1) + ((m 50 3) / f)), .ref 50], mz_up m 50 0 (sm_held ((m 50 0) + ((m 50 2) / f)) (-1600) 1600))) rfl ?_
      refine mz_doQ (R := mz_r122) (as := [.int ((m 50 1) + ((m 50 3) / f)), .int (-1600), .int 1600]) (rest := [.ref 50]) (r1 := some (.int (sm_held ((m 50 1) + ((m 50 3) / f)) (-1600) 1600))) (m1 := mz_up m 50 0 (sm_held ((m 50 0) + ((m 50 2) / f)) (-1600) 1600)) mz_t122 mz_v122 rfl rfl rfl rfl rfl ((cs_held (m := mz_up m 50 0 (sm_held ((m 50 0) + ((m 50 2) / f)) (-1600) 1600)) (v := ((m 50 1) + ((m 50 3) / f))) (a := (-1600)) (b := 1600) (by decide)).deep (by decide)) ?_
      refine mz_go 5 (c' := (if (sm_held ((m 50 0) + ((m 50 2) / f)) (-1600) 1600) = ((m 50 0) + ((m 50 2) / f)) then 69 else 64, [some (.ref 50), some (.int f), some (.int ((m 50 0) + ((m 50 2) / f))), some (.int ((m 50 1) + ((m 50 3) / f)))], [], mz_up (mz_up m 50 0 (sm_held ((m 50 0) + ((m 50 2) / f)) (-1600) 1600)) 50 1 (sm_held ((m 50 1) + ((m 50 3) / f)) (-1600) 1600))) rfl ?_
      refine mz_ifF c1 ?_
      refine mz_go 7 (c' := (if (sm_held ((m 50 1) + ((m 50 3) / f)) (-1600) 1600) = ((m 50 1) + ((m 50 3) / f)) then 82 else 77, [some (.ref 50), some (.int f), some (.int ((m 50 0) + ((m 50 2) / f))), some (.int ((m 50 1) + ((m 50 3) / f)))], [], mz_up (mz_up (mz_up m 50 0 (sm_held ((m 50 0) + ((m 50 2) / f)) (-1600) 1600)) 50 1 (sm_held ((m 50 1) + ((m 50 3) / f)) (-1600) 1600)) 50 2 0)) rfl ?_
      refine mz_ifF c2 ?_
      refine mz_go 3 (c' := (82, [some (.ref 50), some (.int f), some (.int ((m 50 0) + ((m 50 2) / f))), some (.int ((m 50 1) + ((m 50 3) / f)))], [], mz_up (mz_up (mz_up (mz_up m 50 0 (sm_held ((m 50 0) + ((m 50 2) / f)) (-1600) 1600)) 50 1 (sm_held ((m 50 1) + ((m 50 3) / f)) (-1600) 1600)) 50 2 0) 50 3 0)) rfl ?_
      exact mz_ret rfl
