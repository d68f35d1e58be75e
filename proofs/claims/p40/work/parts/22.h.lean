set_option maxHeartbeats 4000000 in
set_option maxRecDepth 100000 in
theorem cs_rest19 {m : mz_M} {N : Nat} (hw : sm_W m N) : mz_Me 20 mz_r37 [.ref 49, .ref 19] m (some (.int (sm_rest m (m 19)))) m := by
  obtain ⟨hN, h4, hb, hx0, hx1⟩ := hw
  have hcn := sm_cntN hN h4
  by_cases c1 : m 7 3 < sm_abs (m 19 2) + sm_abs (m 19 3)
  · have hv : sm_rest m (m 19) = 9 := by
      unfold sm_rest
      rw [if_pos c1]
    rw [hv]
    refine ⟨?_, rfl⟩
    refine mz_go 13 (c' := (if ((sm_abs (m 19 2)) + (sm_abs (m 19 3))) ≤ (m 7 3) then 30 else 27, [some (.ref 49), some (.ref 19), none], [], m)) rfl ?_
    refine mz_ifF (Int32.not_le.mpr c1) ?_
    refine mz_go 1 (c' := (29, [some (.ref 49), some (.ref 19), none], [.int 9], m)) rfl ?_
    exact mz_ret rfl
  · by_cases c2 : (sm_near (m 3) (m 4) (m 5) (m 19 0) (m 19 1) true N).1 < 0
    · have hi := sm_near_neg (by omega) c2
      have hv : sm_rest m (m 19) = 9 := by
        unfold sm_rest
        rw [if_neg c1, hcn, if_pos c2]
      rw [hv]
      refine ⟨?_, rfl⟩
      refine mz_go 13 (c' := (if ((sm_abs (m 19 2)) + (sm_abs (m 19 3))) ≤ (m 7 3) then 30 else 27, [some (.ref 49), some (.ref 19), none], [], m)) rfl ?_
      refine mz_ifT (Int32.not_lt.mp c1) ?_
      refine mz_go 8 (c' := (46, [some (.ref 49), some (.ref 19), none], [.int 1, .int (m 19 1), .int (m 19 0), .ref 2], m)) rfl ?_
      refine mz_doQ (R := mz_r25) (as := [.ref 2, .int (m 19 0), .int (m 19 1), .int 1]) (rest := []) (r1 := some (.int ((sm_near (m 3) (m 4) (m 5) (m 19 0) (m 19 1) true N).1))) (m1 := m) mz_t25 mz_v25_2 rfl rfl rfl rfl rfl ((cs_near1 hN (m := m) h4 (m 19 0) (m 19 1)).deep (by decide)) ?_
      rw [hi]
      refine mz_go 4 (c' := (87, [some (.ref 49), some (.ref 19), some (.int (-1))], [.int 9], m)) rfl ?_
      exact mz_ret rfl
    · obtain ⟨j, hj, hi, hf⟩ := sm_near_pos (by omega) c2
      by_cases c3 : m 7 4 < sm_far (m 4 j) (m 5 j) (m 19 0) (m 19 1)
      · have hv : sm_rest m (m 19) = 9 := by
          unfold sm_rest
          rw [if_neg c1, hcn, if_neg c2, hf, if_pos c3]
        rw [hv]
        refine ⟨?_, rfl⟩
        refine mz_go 13 (c' := (if ((sm_abs (m 19 2)) + (sm_abs (m 19 3))) ≤ (m 7 3) then 30 else 27, [some (.ref 49), some (.ref 19), none], [], m)) rfl ?_
        refine mz_ifT (Int32.not_lt.mp c1) ?_
        refine mz_go 8 (c' := (46, [some (.ref 49), some (.ref 19), none], [.int 1, .int (m 19 1), .int (m 19 0), .ref 2], m)) rfl ?_
        refine mz_doQ (R := mz_r25) (as := [.ref 2, .int (m 19 0), .int (m 19 1), .int 1]) (rest := []) (r1 := some (.int ((sm_near (m 3) (m 4) (m 5) (m 19 0) (m 19 1) true N).1))) (m1 := m) mz_t25 mz_v25_2 rfl rfl rfl rfl rfl ((cs_near1 hN (m := m) h4 (m 19 0) (m 19 1)).deep (by decide)) ?_
        rw [hi]
        refine mz_go 3 (c' := (if (nI j) < 0 then 85 else 54, [some (.ref 49), some (.ref 19), some (.int (nI j))], [], m)) rfl ?_
        refine mz_ifF (show ¬ ((nI j) < 0) from (sm_nltN rfl rfl (show 0 ≤ j by omega) (show j < 2 ^ 31 by omega))) ?_
        refine mz_go 8 (c' := (70, [some (.ref 49), some (.ref 19), some (.int (nI j))], [.int (m 19 1), .int (m 19 0), .int (nI j), .ref 2], m)) rfl ?_
        refine mz_doQ (R := mz_r24) (as := [.ref 2, .int (nI j), .int (m 19 0), .int (m 19 1)]) (rest := []) (r1 := some (.int (sm_far (m 4 j) (m 5 j) (m 19 0) (m 19 1)))) (m1 := m) mz_t24 mz_v24_2 rfl rfl rfl rfl rfl ((cs_far hN (m := m) h4 (show j < N by omega) (m 19 0) (m 19 1)).deep (by decide)) ?_
        refine mz_go 6 (c' := (if (sm_far (m 4 j) (m 5 j) (m 19 0) (m 19 1)) ≤ (m 7 4) then 88 else 85, [some (.ref 49), some (.ref 19), some (.int (nI j))], [], m)) rfl ?_
        refine mz_ifF (Int32.not_le.mpr c3) ?_
        refine mz_go 1 (c' := (87, [some (.ref 49), some (.ref 19), some (.int (nI j))], [.int 9], m)) rfl ?_
        exact mz_ret rfl
      · have hv : sm_rest m (m 19) = nI j := by
          unfold sm_rest
          rw [if_neg c1, hcn, if_neg c2, hf, if_neg c3, hi]
        rw [hv]
        refine ⟨?_, rfl⟩
        refine mz_go 13 (c' := (if ((sm_abs (m 19 2)) + (sm_abs (m 19 3))) ≤ (m 7 3) then 30 else 27, [some (.ref 49), some (.ref 19), none], [], m)) rfl ?_
        refine mz_ifT (Int32.not_lt.mp c1) ?_
        refine mz_go 8 (c' := (46, [some (.ref 49), some (.ref 19), none], [.int 1, .int (m 19 1), .int (m 19 0), .ref 2], m)) rfl ?_
        refine mz_doQ (R := mz_r25) (as := [.ref 2, .int (m 19 0), .int (m 19 1), .int 1]) (rest := []) (r1 := some (.int ((sm_near (m 3) (m 4) (m 5) (m 19 0) (m 19 1) true N).1))) (m1 := m) mz_t25 mz_v25_2 rfl rfl rfl rfl rfl ((cs_near1 hN (m := m) h4 (m 19 0) (m 19 1)).deep (by decide)) ?_
        rw [hi]
        refine mz_go 3 (c' := (if (nI j) < 0 then 85 else 54, [some (.ref 49), some (.ref 19), some (.int (nI j))], [], m)) rfl ?_
        refine mz_ifF (show ¬ ((nI j) < 0) from (sm_nltN rfl rfl (show 0 ≤ j by omega) (show j < 2 ^ 31 by omega))) ?_
        refine mz_go 8 (c' := (70, [some (.ref 49), some (.ref 19), some (.int (nI j))], [.int (m 19 1), .int (m 19 0), .int (nI j), .ref 2], m)) rfl ?_
        refine mz_doQ (R := mz_r24) (as := [.ref 2, .int (nI j), .int (m 19 0), .int (m 19 1)]) (rest := []) (r1 := some (.int (sm_far (m 4 j) (m 5 j) (m 19 0) (m 19 1)))) (m1 := m) mz_t24 mz_v24_2 rfl rfl rfl rfl rfl ((cs_far hN (m := m) h4 (show j < N by omega) (m 19 0) (m 19 1)).deep (by decide)) ?_
        refine mz_go 6 (c' := (if (sm_far (m 4 j) (m 5 j) (m 19 0) (m 19 1)) ≤ (m 7 4) then 88 else 85, [some (.ref 49), some (.ref 19), some (.int (nI j))], [], m)) rfl ?_
        refine mz_ifT (Int32.not_lt.mp c3) ?_
        refine mz_go 1 (c' := (89, [some (.ref 49), some (.ref 19), some (.int (nI j))], [.int (nI j)], m)) rfl ?_
        exact mz_ret rfl
theorem cw_rest19 {m w : mz_M} (hl : sm_Wl m w) {N : Nat} (hw : sm_W w N) : mz_Me 20 mz_r37 [.ref 49, .ref 19] m (some (.int (sm_rest w (m 19)))) m := by
  rw [← sm_rest_of hl]
  exact cs_rest19 (sm_W_of hl hw)
set_option maxHeartbeats 4000000 in
set_option maxRecDepth 100000 in
theorem cs_rest50 {m : mz_M} {N : Nat} (hw : sm_W m N) : mz_Me 20 mz_r37 [.ref 49, .ref 50] m (some (.int (sm_rest m (m 50)))) m := by
  obtain ⟨hN, h4, hb, hx0, hx1⟩ := hw
  have hcn := sm_cntN hN h4
  by_cases c1 : m 7 3 < sm_abs (m 50 2) + sm_abs (m 50 3)
  · have hv : sm_rest m (m 50) = 9 := by
      unfold sm_rest
      rw [if_pos c1]
    rw [hv]
    refine ⟨?_, rfl⟩
    refine mz_go 13 (c' := (if ((sm_abs (m 50 2)) + (sm_abs (m 50 3))) ≤ (m 7 3) then 30 else 27, [some (.ref 49), some (.ref 50), none], [], m)) rfl ?_
    refine mz_ifF (Int32.not_le.mpr c1) ?_
    refine mz_go 1 (c' := (29, [some (.ref 49), some (.ref 50), none], [.int 9], m)) rfl ?_
    exact mz_ret rfl
  · by_cases c2 : (sm_near (m 3) (m 4) (m 5) (m 50 0) (m 50 1) true N).1 < 0
    · have hi := sm_near_neg (by omega) c2
      have hv : sm_rest m (m 50) = 9 := by
        unfold sm_rest
        rw [if_neg c1, hcn, if_pos c2]
      rw [hv]
      refine ⟨?_, rfl⟩
      refine mz_go 13 (c' := (if ((sm_abs (m 50 2)) + (sm_abs (m 50 3))) ≤ (m 7 3) then 30 else 27, [some (.ref 49), some (.ref 50), none], [], m)) rfl ?_
      refine mz_ifT (Int32.not_lt.mp c1) ?_
      refine mz_go 8 (c' := (46, [some (.ref 49), some (.ref 50), none], [.int 1, .int (m 50 1), .int (m 50 0), .ref 2], m)) rfl ?_
      refine mz_doQ (R := mz_r25) (as := [.ref 2, .int (m 50 0), .int (m 50 1), .int 1]) (rest := []) (r1 := some (.int ((sm_near (m 3) (m 4) (m 5) (m 50 0) (m 50 1) true N).1))) (m1 := m) mz_t25 mz_v25_2 rfl rfl rfl rfl rfl ((cs_near1 hN (m := m) h4 (m 50 0) (m 50 1)).deep (by decide)) ?_
      rw [hi]
      refine mz_go 4 (c' := (87, [some (.ref 49), some (.ref 50), some (.int (-1))], [.int 9], m)) rfl ?_
      exact mz_ret rfl
    · obtain ⟨j, hj, hi, hf⟩ := sm_near_pos (by omega) c2
      by_cases c3 : m 7 4 < sm_far (m 4 j) (m 5 j) (m 50 0) (m 50 1)
      · have hv : sm_rest m (m 50) = 9 := by
          unfold sm_rest
          rw [if_neg c1, hcn, if_neg c2, hf, if_pos c3]
        rw [hv]
        refine ⟨?_, rfl⟩
        refine mz_go 13 (c' := (if ((sm_abs (m 50 2)) + (sm_abs (m 50 3))) ≤ (m 7 3) then 30 else 27, [some (.ref 49), some (.ref 50), none], [], m)) rfl ?_
        refine mz_ifT (Int32.not_lt.mp c1) ?_
        refine mz_go 8 (c' := (46, [some (.ref 49), some (.ref 50), none], [.int 1, .int (m 50 1), .int (m 50 0), .ref 2], m)) rfl ?_
        refine mz_doQ (R := mz_r25) (as := [.ref 2, .int (m 50 0), .int (m 50 1), .int 1]) (rest := []) (r1 := some (.int ((sm_near (m 3) (m 4) (m 5) (m 50 0) (m 50 1) true N).1))) (m1 := m) mz_t25 mz_v25_2 rfl rfl rfl rfl rfl ((cs_near1 hN (m := m) h4 (m 50 0) (m 50 1)).deep (by decide)) ?_
        rw [hi]
        refine mz_go 3 (c' := (if (nI j) < 0 then 85 else 54, [some (.ref 49), some (.ref 50), some (.int (nI j))], [], m)) rfl ?_
        refine mz_ifF (show ¬ ((nI j) < 0) from (sm_nltN rfl rfl (show 0 ≤ j by omega) (show j < 2 ^ 31 by omega))) ?_
        refine mz_go 8 (c' := (70, [some (.ref 49), some (.ref 50), some (.int (nI j))], [.int (m 50 1), .int (m 50 0), .int (nI j), .ref 2], m)) rfl ?_
        refine mz_doQ (R := mz_r24) (as := [.ref 2, .int (nI j), .int (m 50 0), .int (m 50 1)]) (rest := []) (r1 := some (.int (sm_far (m 4 j) (m 5 j) (m 50 0) (m 50 1)))) (m1 := m) mz_t24 mz_v24_2 rfl rfl rfl rfl rfl ((cs_far hN (m := m) h4 (show j < N by omega) (m 50 0) (m 50 1)).deep (by decide)) ?_
        refine mz_go 6 (c' := (if (sm_far (m 4 j) (m 5 j) (m 50 0) (m 50 1)) ≤ (m 7 4) then 88 else 85, [some (.ref 49), some (.ref 50), some (.int (nI j))], [], m)) rfl ?_
        refine mz_ifF (Int32.not_le.mpr c3) ?_
        refine mz_go 1 (c' := (87, [some (.ref 49), some (.ref 50), some (.int (nI j))], [.int 9], m)) rfl ?_
        exact mz_ret rfl
      · have hv : sm_rest m (m 50) = nI j := by
          unfold sm_rest
          rw [if_neg c1, hcn, if_neg c2, hf, if_neg c3, hi]
        rw [hv]
        refine ⟨?_, rfl⟩
        refine mz_go 13 (c' := (if ((sm_abs (m 50 2)) + (sm_abs (m 50 3))) ≤ (m 7 3) then 30 else 27, [some (.ref 49), some (.ref 50), none], [], m)) rfl ?_
        refine mz_ifT (Int32.not_lt.mp c1) ?_
        refine mz_go 8 (c' := (46, [some (.ref 49), some (.ref 50), none], [.int 1, .int (m 50 1), .int (m 50 0), .ref 2], m)) rfl ?_
        refine mz_doQ (R := mz_r25) (as := [.ref 2, .int (m 50 0), .int (m 50 1), .int 1]) (rest := []) (r1 := some (.int ((sm_near (m 3) (m 4) (m 5) (m 50 0) (m 50 1) true N).1))) (m1 := m) mz_t25 mz_v25_2 rfl rfl rfl rfl rfl ((cs_near1 hN (m := m) h4 (m 50 0) (m 50 1)).deep (by decide)) ?_
        rw [hi]
        refine mz_go 3 (c' := (if (nI j) < 0 then 85 else 54, [some (.ref 49), some (.ref 50), some (.int (nI j))], [], m)) rfl ?_
        refine mz_ifF (show ¬ ((nI j) < 0) from (sm_nltN rfl rfl (show 0 ≤ j by omega) (show j < 2 ^ 31 by omega))) ?_
        refine mz_go 8 (c' := (70, [some (.ref 49), some (.ref 50), some (.int (nI j))], [.int (m 50 1), .int (m 50 0), .int (nI j), .ref 2], m)) rfl ?_
        refine mz_doQ (R := mz_r24) (as := [.ref 2, .int (nI j), .int (m 50 0), .int (m 50 1)]) (rest := []) (r1 := some (.int (sm_far (m 4 j) (m 5 j) (m 50 0) (m 50 1)))) (m1 := m) mz_t24 mz_v24_2 rfl rfl rfl rfl rfl ((cs_far hN (m := m) h4 (show j < N by omega) (m 50 0) (m 50 1)).deep (by decide)) ?_
        refine mz_go 6 (c' := (if (sm_far (m 4 j) (m 5 j) (m 50 0) (m 50 1)) ≤ (m 7 4) then 88 else 85, [some (.ref 49), some (.ref 50), some (.int (nI j))], [], m)) rfl ?_
        refine mz_ifT (Int32.not_lt.mp c3) ?_
        refine mz_go 1 (c' := (89, [some (.ref 49), some (.ref 50), some (.int (nI j))], [.int (nI j)], m)) rfl ?_
        exact mz_ret rfl
theorem cw_rest50 {m w : mz_M} (hl : sm_Wl m w) {N : Nat} (hw : sm_W w N) : mz_Me 20 mz_r37 [.ref 49, .ref 50] m (some (.int (sm_rest w (m 50)))) m := by
  rw [← sm_rest_of hl]
  exact cs_rest50 (sm_W_of hl hw)
theorem sm_like_tr {a b c : Nat → Int32} (h : sm_like a b) (h2 : sm_like b c) : sm_like a c := ⟨h.1.trans h2.1, h.2.1.trans h2.2.1, h.2.2.1.trans h2.2.2.1, h.2.2.2.1.trans h2.2.2.2.1, h.2.2.2.2.trans h2.2.2.2.2⟩
noncomputable def sm_lim (m : mz_M) (f : Int32) : Nat := (m 7 2 * f).toNatClampNeg
/-- where it ends, and the bob then -/
noncomputable def sm_last (m : mz_M) (f x y u v : Int32) : Nat → Int32 := sm_run m f (sm_lim m f) (sm_go x y u v)
noncomputable def sm_end (m : mz_M) (f x y u v : Int32) : Int32 := sm_rest m (sm_last m f x y u v)
theorem sm_limN {m : mz_M} {f : Int32} (hl : sm_N 80 (m 7 2)) (hf : f = 1 ∨ f = 2 ∨ f = 4) : m 7 2 * f = nI (sm_lim m f) ∧ sm_lim m f ≤ 320 := by
  obtain ⟨k, hk, e⟩ := sm_Nof (by decide) hl
  have h : ∃ j, j ≤ 4 ∧ f = nI j := by
    rcases hf with rfl | rfl | rfl
    · exact ⟨1, by decide, rfl⟩
    · exact ⟨2, by decide, rfl⟩
    · exact ⟨4, by decide, rfl⟩
  obtain ⟨j, hj, rfl⟩ := h
  have e1 : m 7 2 * nI j = nI (k * j) := sm_mulN e rfl
  have h3 : k * j ≤ 80 * 4 := Nat.mul_le_mul hk hj
  unfold sm_lim
  rw [e1, nI_clamp (by omega)]
  exact ⟨rfl, h3⟩
theorem sm_16 {x : Int32} (h : sm_B 100 x) : sm_B 1600 (16 * x) := by
  obtain ⟨h1, h2⟩ := h
  have e : (16 : Int32).toInt = 16 := rfl
  unfold sm_B
  rw [sm_mul (by rw [e]; omega) (by rw [e]; omega), e]
  omega
set_option maxHeartbeats 4000000 in
set_option maxRecDepth 100000 in
theorem cs_endl {m : mz_M} {N : Nat} (hw : sm_W m N) {x y u v fi : Int32} (hfi : fi = 1 ∨ fi = 2 ∨ fi = 4) {L : Nat} (hL : L < 2 ^ 31) : ∀ n k : Nat, k + n = L → ∀ r f g : Nat → Int32, sm_B 1600 (r 0) → sm_B 1600 (r 1) → ∃ r' f' g', sm_like r' (sm_run m fi n r) ∧ mz_Ex 60 mz_k36 (39, [some (.ref 49), some (.int x), some (.int y), some (.int u), some (.int v), some (.int fi), some (.int (nI L)), some (.int (sm_rest m r)), some (.int (nI k))], [], mz_set (mz_set (mz_set m 50 r) 51 f) 52 g) (some (.int (sm_rest m (sm_run m fi n r))), mz_set (mz_set (mz_set m 50 r') 51 f') 52 g') := by
  intro n
  induction n with
  | zero =>
    intro k hk r f g hx hy
    have hk2 : k = L := by omega
    subst hk2
    refine ⟨r, f, g, sm_like_rfl _, ?_⟩
    show mz_Ex _ _ _ (some (.int (sm_rest m r)), _)
    refine mz_go 3 (c' := (if (nI k) ≤ (nI k) then 79 else 46, [some (.ref 49), some (.int x), some (.int y), some (.int u), some (.int v), some (.int fi), some (.int (nI k)), some (.int (sm_rest m r)), some (.int (nI k))], [], mz_set (mz_set (mz_set m 50 r) 51 f) 52 g)) rfl ?_
    refine mz_ifT (show ((nI k) ≤ (nI k)) from (sm_leN rfl rfl (show k ≤ k by omega) (show k < 2 ^ 31 by omega))) ?_
    refine mz_go 1 (c' := (81, [some (.ref 49), some (.int x), some (.int y), some (.int u), some (.int v), some (.int fi), some (.int (nI k)), some (.int (sm_rest m r)), some (.int (nI k))], [.int (sm_rest m r)], mz_set (mz_set (mz_set m 50 r) 51 f) 52 g)) rfl ?_
    exact mz_ret rfl
  | succ n ih =>
    intro k hk r f g hx hy
    by_cases c : sm_rest m r = 9
    · have e0 : sm_run m fi (n + 1) r = sm_run m fi n (sm_tick m fi r) := by
        show (if _ then _ else _) = _
        rw [if_pos c]
      obtain ⟨r1, f1, g1, hl, S⟩ := cw_step50 (m := mz_set (mz_set (mz_set m 50 r) 51 f) 52 g) (w := m) (sm_Wl_s (by decide) (sm_Wl_s (by decide) (sm_Wl_s (by decide) (sm_Wl_r m)))) hw hfi hx hy
      have hm : mz_set (mz_set (mz_set (mz_set (mz_set (mz_set m 50 r) 51 f) 52 g) 50 r1) 51 f1) 52 g1 = mz_set (mz_set (mz_set m 50 r1) 51 f1) 52 g1 := sm_of3 (fun i h1 h2 h3 => by simp only [mz_up_ne h1, mz_set_ne h1, mz_set_ne h2, mz_set_ne h3])
      rw [hm] at S
      replace hl : sm_like r1 (sm_tick m fi r) := hl
      have hB := sm_tick_B (m := m) (f := fi) (b := r)
      obtain ⟨r', f', g', h1, E⟩ := ih (k + 1) (by omega) r1 f1 g1 (by rw [hl.1]; exact hB.1) (by rw [hl.2.1]; exact hB.2)
      have h2 := sm_run_like (m := m) (f := fi) n hl
      rw [nI_succ k, sm_rest_like h2] at E
      rw [e0]
      refine ⟨r', f', g', sm_like_tr h1 h2, ?_⟩
      refine mz_go 3 (c' := (if (nI L) ≤ (nI k) then 79 else 46, [some (.ref 49), some (.int x), some (.int y), some (.int u), some (.int v), some (.int fi), some (.int (nI L)), some (.int (sm_rest m r)), some (.int (nI k))], [], mz_set (mz_set (mz_set m 50 r) 51 f) 52 g)) rfl ?_
      refine mz_ifF (show ¬ ((nI L) ≤ (nI k)) from (sm_nleN rfl rfl (show k < L by omega) (show L < 2 ^ 31 by omega))) ?_
      refine mz_go 3 (c' := (if (sm_rest m r) = 9 then 53 else 79, [some (.ref 49), some (.int x), some (.int y), some (.int u), some (.int v), some (.int fi), some (.int (nI L)), some (.int (sm_rest m r)), some (.int (nI k))], [], mz_set (mz_set (mz_set m 50 r) 51 f) 52 g)) rfl ?_
      refine mz_ifT c ?_
      refine mz_go 4 (c' := (60, [some (.ref 49), some (.int x), some (.int y), some (.int u), some (.int v), some (.int fi), some (.int (nI L)), some (.int (sm_rest m r)), some (.int (nI k))], [.int fi, .ref 50, .ref 49], mz_set (mz_set (mz_set m 50 r) 51 f) 52 g)) rfl ?_
      refine mz_doQ (R := mz_r38) (as := [.ref 49, .ref 50, .int fi]) (rest := []) (r1 := none) (m1 := mz_set (mz_set (mz_set m 50 r1) 51 f1) 52 g1) mz_t38 mz_v38_49 rfl rfl rfl rfl rfl (S.deep (by decide)) ?_
      refine mz_go 3 (c' := (68, [some (.ref 49), some (.int x), some (.int y), some (.int u), some (.int v), some (.int fi), some (.int (nI L)), some (.int (sm_rest m r)), some (.int (nI k))], [.ref 50, .ref 49], mz_set (mz_set (mz_set m 50 r1) 51 f1) 52 g1)) rfl ?_
      refine mz_doQ (R := mz_r37) (as := [.ref 49, .ref 50]) (rest := []) (r1 := some (.int (sm_rest m r1))) (m1 := mz_set (mz_set (mz_set m 50 r1) 51 f1) 52 g1) mz_t37 mz_v37_49 rfl rfl rfl rfl rfl ((cw_rest50 (m := mz_set (mz_set (mz_set m 50 r1) 51 f1) 52 g1) (w := m) (sm_Wl_s (by decide) (sm_Wl_s (by decide) (sm_Wl_s (by decide) (sm_Wl_r m)))) hw).deep (by decide)) ?_
      refine mz_go 3 (c' := (39, [some (.ref 49), some (.int x), some (.int y), some (.int u), some (.int v), some (.int fi), some (.int (nI L)), some (.int (sm_rest m r1)), some (.int ((nI k) + 1))], [], mz_set (mz_set (mz_set m 50 r1) 51 f1) 52 g1)) rfl ?_
      exact E
    · have e0 : sm_run m fi (n + 1) r = r := by
        show (if _ then _ else _) = _
        rw [if_neg c]
      rw [e0]
      refine ⟨r, f, g, sm_like_rfl _, ?_⟩
      refine mz_go 3 (c' := (if (nI L) ≤ (nI k) then 79 else 46, [some (.ref 49), some (.int x), some (.int y), some (.int u), some (.int v), some (.int fi), some (.int (nI L)), some (.int (sm_rest m r)), some (.int (nI k))], [], mz_set (mz_set (mz_set m 50 r) 51 f) 52 g)) rfl ?_
      refine mz_ifF (show ¬ ((nI L) ≤ (nI k)) from (sm_nleN rfl rfl (show k < L by omega) (show L < 2 ^ 31 by omega))) ?_
      refine mz_go 3 (c' := (if (sm_rest m r) = 9 then 53 else 79, [some (.ref 49), some (.int x), some (.int y), some (.int u), some (.int v), some (.int fi), some (.int (nI L)), some (.int (sm_rest m r)), some (.int (nI k))], [], mz_set (mz_set (mz_set m 50 r) 51 f) 52 g)) rfl ?_
      refine mz_ifF c ?_
      refine mz_go 1 (c' := (81, [some (.ref 49), some (.int x), some (.int y), some (.int u), some (.int v), some (.int fi), some (.int (nI L)), some (.int (sm_rest m r)), some (.int (nI k))], [.int (sm_rest m r)], mz_set (mz_set (mz_set m 50 r) 51 f) 52 g)) rfl ?_
      exact mz_ret rfl
set_option maxHeartbeats 4000000 in
set_option maxRecDepth 100000 in
theorem cs_end {m : mz_M} {N : Nat} (hw : sm_W m N) {fi : Int32} (hfi : fi = 1 ∨ fi = 2 ∨ fi = 4) (hl : sm_N 80 (m 7 2)) {x y : Int32} (hx : sm_B 100 x) (hy : sm_B 100 y) (u v : Int32) : ∃ r f g, sm_like r (sm_last m fi x y u v) ∧ mz_Me 60 mz_r36 [.ref 49, .int x, .int y, .int u, .int v, .int fi] m (some (.int (sm_end m fi x y u v))) (mz_set (mz_set (mz_set m 50 r) 51 f) 52 g) := by
  obtain ⟨hlim, hl3⟩ := sm_limN hl hfi
  have hgo : sm_like ((mz_up (mz_up (mz_up (mz_up (mz_up m 50 0 (16 * x)) 50 1 (16 * y)) 50 2 u) 50 3 v) 50 4 0) 50) (sm_go x y u v) := ⟨rfl, rfl, rfl, rfl, rfl⟩
  obtain ⟨r', f', g', h1, E⟩ := cs_endl hw (x := x) (y := y) (u := u) (v := v) hfi (L := sm_lim m fi) (by omega) (sm_lim m fi) 0 (by omega) ((mz_up (mz_up (mz_up (mz_up (mz_up m 50 0 (16 * x)) 50 1 (16 * y)) 50 2 u) 50 3 v) 50 4 0) 50) (m 51) (m 52) (sm_16 hx) (sm_16 hy)
  have h2 := sm_run_like (m := m) (f := fi) (sm_lim m fi) hgo
  rw [sm_rest_like h2] at E
  refine ⟨r', f', g', sm_like_tr h1 h2, ⟨?_, rfl⟩⟩
  have hm : mz_up (mz_up (mz_up (mz_up (mz_up m 50 0 (16 * x)) 50 1 (16 * y)) 50 2 u) 50 3 v) 50 4 0 = mz_set (mz_set (mz_set m 50 ((mz_up (mz_up (mz_up (mz_up (mz_up m 50 0 (16 * x)) 50 1 (16 * y)) 50 2 u) 50 3 v) 50 4 0) 50)) 51 (m 51)) 52 (m 52) := sm_of3 (fun i h1 h2 h3 => by simp only [mz_up_ne h1])
  rw [← hm] at E
  obtain ⟨rg, hrg⟩ : ∃ rg, sm_rest m ((mz_up (mz_up (mz_up (mz_up (mz_up m 50 0 (16 * x)) 50 1 (16 * y)) 50 2 u) 50 3 v) 50 4 0) 50) = rg := ⟨_, rfl⟩
  rw [hrg] at E
  refine mz_go 6 (c' := (9, [some (.ref 49), some (.int x), some (.int y), some (.int u), some (.int v), some (.int fi), none, none, none], [.int v, .int u, .int y, .int x, .ref 50], m)) rfl ?_
  refine mz_doQ (R := mz_r0) (as := [.ref 50, .int x, .int y, .int u, .int v]) (rest := []) (r1 := none) (m1 := mz_up (mz_up (mz_up (mz_up (mz_up m 50 0 (16 * x)) 50 1 (16 * y)) 50 2 u) 50 3 v) 50 4 0) mz_t0 mz_v0_50 rfl rfl rfl rfl rfl ⟨?_, rfl⟩ ?_
  · refine mz_go 4 (c' := (5, [some (.ref 50), some (.int x), some (.int y), some (.int u), some (.int v)], [.int (x * 16), .ref 50], m)) rfl ?_
    rw [Int32.mul_comm x 16]
    refine mz_go 5 (c' := (13, [some (.ref 50), some (.int x), some (.int y), some (.int u), some (.int v)], [.int (y * 16), .ref 50], mz_up m 50 0 (16 * x))) rfl ?_
    rw [Int32.mul_comm y 16]
    refine mz_go 10 (c' := (32, [some (.ref 50), some (.int x), some (.int y), some (.int u), some (.int v)], [], mz_up (mz_up (mz_up (mz_up (mz_up m 50 0 (16 * x)) 50 1 (16 * y)) 50 2 u) 50 3 v) 50 4 0)) rfl ?_
    exact mz_ret rfl
  refine mz_go 7 (c' := (24, [some (.ref 49), some (.int x), some (.int y), some (.int u), some (.int v), some (.int fi), none, none, none], [.int ((m 7 2) * fi)], mz_up (mz_up (mz_up (mz_up (mz_up m 50 0 (16 * x)) 50 1 (16 * y)) 50 2 u) 50 3 v) 50 4 0)) rfl ?_
  rw [hlim]
  refine mz_go 4 (c' := (31, [some (.ref 49), some (.int x), some (.int y), some (.int u), some (.int v), some (.int fi), some (.int (nI (sm_lim m fi))), none, none], [.ref 50, .ref 49], mz_up (mz_up (mz_up (mz_up (mz_up m 50 0 (16 * x)) 50 1 (16 * y)) 50 2 u) 50 3 v) 50 4 0)) rfl ?_
  refine mz_doQ (R := mz_r37) (as := [.ref 49, .ref 50]) (rest := []) (r1 := some (.int (sm_rest m ((mz_up (mz_up (mz_up (mz_up (mz_up m 50 0 (16 * x)) 50 1 (16 * y)) 50 2 u) 50 3 v) 50 4 0) 50)))) (m1 := mz_up (mz_up (mz_up (mz_up (mz_up m 50 0 (16 * x)) 50 1 (16 * y)) 50 2 u) 50 3 v) 50 4 0) mz_t37 mz_v37_49 rfl rfl rfl rfl rfl ((cw_rest50 (m := mz_up (mz_up (mz_up (mz_up (mz_up m 50 0 (16 * x)) 50 1 (16 * y)) 50 2 u) 50 3 v) 50 4 0) (w := m) (sm_Wl_u (by decide) (sm_Wl_u (by decide) (sm_Wl_u (by decide) (sm_Wl_u (by decide) (sm_Wl_u (by decide) (sm_Wl_r m)))))) hw).deep (by decide)) ?_
  rw [hrg]
  refine mz_go 3 (c' := (39, [some (.ref 49), some (.int x), some (.int y), some (.int u), some (.int v), some (.int fi), some (.int (nI (sm_lim m fi))), some (.int rg), some (.int 0)], [], mz_up (mz_up (mz_up (mz_up (mz_up m 50 0 (16 * x)) 50 1 (16 * y)) 50 2 u) 50 3 v) 50 4 0)) rfl ?_
  exact E
