set_option maxHeartbeats 4000000 in
set_option maxRecDepth 100000 in
theorem ct_rest {w m : mz_M} {N : Nat} (hw : sm_W w N) (hr : sm_HR w (m 66)) {B : Nat → Int32} (hB : sm_like (fun k => m 65 (4 + k)) B) : mz_Me 20 mz_r153 [.ref 65] m (some (.int (sm_rest w B))) m := by
  have hw2 := hw
  have hr2 := hr
  obtain ⟨hN, h4, hb, hx0, hx1⟩ := hw
  obtain ⟨hr0, hrk, hrr, ht0, ht1, ht2⟩ := hr
  have h0 : m 66 0 = nI N := hr0.trans h4
  have hcn := sm_cntN hN h4
  have h73 : m 66 13 = w 7 3 := hrr 3 (by decide)
  have h74 : m 66 14 = w 7 4 := hrr 4 (by decide)
  obtain ⟨hX, hY, hU, hV, -⟩ := hB
  replace hX : m 65 4 = B 0 := hX
  replace hY : m 65 5 = B 1 := hY
  replace hU : m 65 6 = B 2 := hU
  replace hV : m 65 7 = B 3 := hV
  obtain ⟨x, hx0⟩ : ∃ x, B 0 = x := ⟨_, rfl⟩
  obtain ⟨y, hy0⟩ : ∃ x, B 1 = x := ⟨_, rfl⟩
  obtain ⟨u, hu0⟩ : ∃ x, B 2 = x := ⟨_, rfl⟩
  obtain ⟨v, hv0⟩ : ∃ x, B 3 = x := ⟨_, rfl⟩
  rw [hx0] at hX
  rw [hy0] at hY
  rw [hu0] at hU
  rw [hv0] at hV
  by_cases c1 : w 7 3 < sm_abs u + sm_abs v
  · have hv : sm_rest w B = 9 := by
      unfold sm_rest
      rw [hx0, hy0, hu0, hv0, if_pos c1]
    rw [hv]
    refine ⟨?_, rfl⟩
    refine mz_go 2 (c' := (4, [some (.ref 65), none], [.int (m 65 6)], m)) rfl ?_
    rw [hU]
    refine mz_doQ (R := mz_r129) (as := [.int u]) (rest := []) (r1 := some (.int (sm_abs u))) (m1 := m) mz_t129 mz_v129 rfl rfl rfl rfl rfl ((ct_size (m := m) u).deep (by decide)) ?_
    refine mz_go 2 (c' := (11, [some (.ref 65), none], [.int (m 65 7), .int (sm_abs u)], m)) rfl ?_
    rw [hV]
    refine mz_doQ (R := mz_r129) (as := [.int v]) (rest := [.int (sm_abs u)]) (r1 := some (.int (sm_abs v))) (m1 := m) mz_t129 mz_v129 rfl rfl rfl rfl rfl ((ct_size (m := m) v).deep (by decide)) ?_
    refine mz_go 5 (c' := (22, [some (.ref 65), none], [.int (m 66 13), .int ((sm_abs u) + (sm_abs v))], m)) rfl ?_
    rw [h73]
    refine mz_go 1 (c' := (if ((sm_abs u) + (sm_abs v)) ≤ (w 7 3) then 28 else 25, [some (.ref 65), none], [], m)) rfl ?_
    refine mz_ifF (Int32.not_le.mpr c1) ?_
    refine mz_go 1 (c' := (27, [some (.ref 65), none], [.int 9], m)) rfl ?_
    exact mz_ret rfl
  · by_cases c2 : (sm_near (w 3) (w 4) (w 5) x y true N).1 < 0
    · have hi := sm_near_neg (by omega) c2
      have hv : sm_rest w B = 9 := by
        unfold sm_rest
        rw [hx0, hy0, hu0, hv0, if_neg c1, hcn, if_pos c2]
      rw [hv]
      refine ⟨?_, rfl⟩
      refine mz_go 2 (c' := (4, [some (.ref 65), none], [.int (m 65 6)], m)) rfl ?_
      rw [hU]
      refine mz_doQ (R := mz_r129) (as := [.int u]) (rest := []) (r1 := some (.int (sm_abs u))) (m1 := m) mz_t129 mz_v129 rfl rfl rfl rfl rfl ((ct_size (m := m) u).deep (by decide)) ?_
      refine mz_go 2 (c' := (11, [some (.ref 65), none], [.int (m 65 7), .int (sm_abs u)], m)) rfl ?_
      rw [hV]
      refine mz_doQ (R := mz_r129) (as := [.int v]) (rest := [.int (sm_abs u)]) (r1 := some (.int (sm_abs v))) (m1 := m) mz_t129 mz_v129 rfl rfl rfl rfl rfl ((ct_size (m := m) v).deep (by decide)) ?_
      refine mz_go 5 (c' := (22, [some (.ref 65), none], [.int (m 66 13), .int ((sm_abs u) + (sm_abs v))], m)) rfl ?_
      rw [h73]
      refine mz_go 1 (c' := (if ((sm_abs u) + (sm_abs v)) ≤ (w 7 3) then 28 else 25, [some (.ref 65), none], [], m)) rfl ?_
      refine mz_ifT (Int32.not_lt.mp c1) ?_
      refine mz_go 2 (c' := (30, [some (.ref 65), none], [.int 0, .ref 65], m)) rfl ?_
      refine mz_doQ (R := mz_r148) (as := [.ref 65, .int 0]) (rest := []) (r1 := some (.int ((sm_near (w 3) (w 4) (w 5) x y true N).1))) (m1 := m) mz_t148 mz_v148_65 rfl rfl rfl rfl rfl ((ct_nearx0 (w := w) (m := m) hw2 hr2 hX hY).deep (by decide)) ?_
      rw [hi]
      refine mz_go 4 (c' := (59, [some (.ref 65), some (.int (-1))], [.int 9], m)) rfl ?_
      exact mz_ret rfl
    · obtain ⟨j, hj, hi, hf⟩ := sm_near_pos (by omega) c2
      by_cases c3 : w 7 4 < sm_far (w 4 j) (w 5 j) x y
      · have hv : sm_rest w B = 9 := by
          unfold sm_rest
          rw [hx0, hy0, hu0, hv0, if_neg c1, hcn, if_neg c2, hf, if_pos c3]
        rw [hv]
        refine ⟨?_, rfl⟩
        refine mz_go 2 (c' := (4, [some (.ref 65), none], [.int (m 65 6)], m)) rfl ?_
        rw [hU]
        refine mz_doQ (R := mz_r129) (as := [.int u]) (rest := []) (r1 := some (.int (sm_abs u))) (m1 := m) mz_t129 mz_v129 rfl rfl rfl rfl rfl ((ct_size (m := m) u).deep (by decide)) ?_
        refine mz_go 2 (c' := (11, [some (.ref 65), none], [.int (m 65 7), .int (sm_abs u)], m)) rfl ?_
        rw [hV]
        refine mz_doQ (R := mz_r129) (as := [.int v]) (rest := [.int (sm_abs u)]) (r1 := some (.int (sm_abs v))) (m1 := m) mz_t129 mz_v129 rfl rfl rfl rfl rfl ((ct_size (m := m) v).deep (by decide)) ?_
        refine mz_go 5 (c' := (22, [some (.ref 65), none], [.int (m 66 13), .int ((sm_abs u) + (sm_abs v))], m)) rfl ?_
        rw [h73]
        refine mz_go 1 (c' := (if ((sm_abs u) + (sm_abs v)) ≤ (w 7 3) then 28 else 25, [some (.ref 65), none], [], m)) rfl ?_
        refine mz_ifT (Int32.not_lt.mp c1) ?_
        refine mz_go 2 (c' := (30, [some (.ref 65), none], [.int 0, .ref 65], m)) rfl ?_
        refine mz_doQ (R := mz_r148) (as := [.ref 65, .int 0]) (rest := []) (r1 := some (.int ((sm_near (w 3) (w 4) (w 5) x y true N).1))) (m1 := m) mz_t148 mz_v148_65 rfl rfl rfl rfl rfl ((ct_nearx0 (w := w) (m := m) hw2 hr2 hX hY).deep (by decide)) ?_
        rw [hi]
        refine mz_go 3 (c' := (if (nI j) < 0 then 57 else 38, [some (.ref 65), some (.int (nI j))], [], m)) rfl ?_
        refine mz_ifF (show ¬ ((nI j) < 0) from (sm_nltN rfl rfl (show 0 ≤ j by omega) (show j < 2 ^ 31 by omega))) ?_
        refine mz_go 2 (c' := (40, [some (.ref 65), some (.int (nI j))], [.int (nI j), .ref 65], m)) rfl ?_
        refine mz_doQ (R := mz_r147) (as := [.ref 65, .int (nI j)]) (rest := []) (r1 := some (.int (sm_far (w 4 j) (w 5 j) x y))) (m1 := m) mz_t147 mz_v147_65 rfl rfl rfl rfl rfl ((ct_farx (w := w) (m := m) hr2 (show j < 6 by omega) hX hY).deep (by decide)) ?_
        refine mz_go 4 (c' := (50, [some (.ref 65), some (.int (nI j))], [.int (m 66 14), .int (sm_far (w 4 j) (w 5 j) x y)], m)) rfl ?_
        rw [h74]
        refine mz_go 1 (c' := (if (w 7 4) < (sm_far (w 4 j) (w 5 j) x y) then 57 else 53, [some (.ref 65), some (.int (nI j))], [], m)) rfl ?_
        refine mz_ifT c3 ?_
        refine mz_go 1 (c' := (59, [some (.ref 65), some (.int (nI j))], [.int 9], m)) rfl ?_
        exact mz_ret rfl
      · have hv : sm_rest w B = nI j := by
          unfold sm_rest
          rw [hx0, hy0, hu0, hv0, if_neg c1, hcn, if_neg c2, hf, if_neg c3, hi]
        rw [hv]
        refine ⟨?_, rfl⟩
        refine mz_go 2 (c' := (4, [some (.ref 65), none], [.int (m 65 6)], m)) rfl ?_
        rw [hU]
        refine mz_doQ (R := mz_r129) (as := [.int u]) (rest := []) (r1 := some (.int (sm_abs u))) (m1 := m) mz_t129 mz_v129 rfl rfl rfl rfl rfl ((ct_size (m := m) u).deep (by decide)) ?_
        refine mz_go 2 (c' := (11, [some (.ref 65), none], [.int (m 65 7), .int (sm_abs u)], m)) rfl ?_
        rw [hV]
        refine mz_doQ (R := mz_r129) (as := [.int v]) (rest := [.int (sm_abs u)]) (r1 := some (.int (sm_abs v))) (m1 := m) mz_t129 mz_v129 rfl rfl rfl rfl rfl ((ct_size (m := m) v).deep (by decide)) ?_
        refine mz_go 5 (c' := (22, [some (.ref 65), none], [.int (m 66 13), .int ((sm_abs u) + (sm_abs v))], m)) rfl ?_
        rw [h73]
        refine mz_go 1 (c' := (if ((sm_abs u) + (sm_abs v)) ≤ (w 7 3) then 28 else 25, [some (.ref 65), none], [], m)) rfl ?_
        refine mz_ifT (Int32.not_lt.mp c1) ?_
        refine mz_go 2 (c' := (30, [some (.ref 65), none], [.int 0, .ref 65], m)) rfl ?_
        refine mz_doQ (R := mz_r148) (as := [.ref 65, .int 0]) (rest := []) (r1 := some (.int ((sm_near (w 3) (w 4) (w 5) x y true N).1))) (m1 := m) mz_t148 mz_v148_65 rfl rfl rfl rfl rfl ((ct_nearx0 (w := w) (m := m) hw2 hr2 hX hY).deep (by decide)) ?_
        rw [hi]
        refine mz_go 3 (c' := (if (nI j) < 0 then 57 else 38, [some (.ref 65), some (.int (nI j))], [], m)) rfl ?_
        refine mz_ifF (show ¬ ((nI j) < 0) from (sm_nltN rfl rfl (show 0 ≤ j by omega) (show j < 2 ^ 31 by omega))) ?_
        refine mz_go 2 (c' := (40, [some (.ref 65), some (.int (nI j))], [.int (nI j), .ref 65], m)) rfl ?_
        refine mz_doQ (R := mz_r147) (as := [.ref 65, .int (nI j)]) (rest := []) (r1 := some (.int (sm_far (w 4 j) (w 5 j) x y))) (m1 := m) mz_t147 mz_v147_65 rfl rfl rfl rfl rfl ((ct_farx (w := w) (m := m) hr2 (show j < 6 by omega) hX hY).deep (by decide)) ?_
        refine mz_go 4 (c' := (50, [some (.ref 65), some (.int (nI j))], [.int (m 66 14), .int (sm_far (w 4 j) (w 5 j) x y)], m)) rfl ?_
        rw [h74]
        refine mz_go 1 (c' := (if (w 7 4) < (sm_far (w 4 j) (w 5 j) x y) then 57 else 53, [some (.ref 65), some (.int (nI j))], [], m)) rfl ?_
        refine mz_ifF c3 ?_
        refine mz_go 2 (c' := (59, [some (.ref 65), some (.int (nI j))], [.int (nI j)], m)) rfl ?_
        exact mz_ret rfl
set_option maxHeartbeats 4000000 in
set_option maxRecDepth 100000 in
theorem ct_runl {w m : mz_M} {N : Nat} (hw : sm_W w N) (hr : sm_HR w (m 66)) {f : Int32} (hfi : f = 1 ∨ f = 2 ∨ f = 4) {L : Nat} (hL : L < 2 ^ 31) : ∀ n k : Nat, k + n = L → ∀ (r a b B : Nat → Int32), sm_like (fun k => r (4 + k)) B → B 4 = nI k → sm_B 1600 (B 0) → sm_B 1600 (B 1) → (∀ k, k < 4 ∨ 8 < k → r k = m 65 k) → ∃ r' a' b', sm_like (fun k => r' (4 + k)) (sm_run w f n B) ∧ (∀ k, k < 4 ∨ 8 < k → r' k = m 65 k) ∧ mz_Ex 60 mz_k154 (15, [some (.ref 65), some (.int f), some (.int (nI L)), some (.int (sm_rest w B))], [], mz_set (mz_set (mz_set m 65 r) 70 a) 71 b) (some (.int (sm_rest w (sm_run w f n B))), mz_set (mz_set (mz_set m 65 r') 70 a') 71 b') := by
  intro n
  induction n with
  | zero =>
    intro k hk r a b B hl h4 hx hy hkp
    have hk2 : k = L := by omega
    subst hk2
    have h8 : r 8 = nI k := hl.2.2.2.2.trans h4
    refine ⟨r, a, b, hl, hkp, ?_⟩
    show mz_Ex _ _ _ (some (.int (sm_rest w B)), _)
    by_cases c : sm_rest w B = 9
    · refine mz_go 3 (c' := (if (sm_rest w B) = 9 then 21 else 42, [some (.ref 65), some (.int f), some (.int (nI k)), some (.int (sm_rest w B))], [], mz_set (mz_set (mz_set m 65 r) 70 a) 71 b)) rfl ?_
      refine mz_ifT c ?_
      refine mz_go 2 (c' := (25, [some (.ref 65), some (.int f), some (.int (nI k)), some (.int (sm_rest w B))], [.int (r 8)], mz_set (mz_set (mz_set m 65 r) 70 a) 71 b)) rfl ?_
      rw [h8]
      refine mz_go 2 (c' := (if (nI k) ≤ (nI k) then 42 else 29, [some (.ref 65), some (.int f), some (.int (nI k)), some (.int (sm_rest w B))], [], mz_set (mz_set (mz_set m 65 r) 70 a) 71 b)) rfl ?_
      refine mz_ifT (show ((nI k) ≤ (nI k)) from (sm_leN rfl rfl (show k ≤ k by omega) (show k < 2 ^ 31 by omega))) ?_
      refine mz_go 1 (c' := (43, [some (.ref 65), some (.int f), some (.int (nI k)), some (.int (sm_rest w B))], [.int (sm_rest w B)], mz_set (mz_set (mz_set m 65 r) 70 a) 71 b)) rfl ?_
      exact mz_ret rfl
    · refine mz_go 3 (c' := (if (sm_rest w B) = 9 then 21 else 42, [some (.ref 65), some (.int f), some (.int (nI k)), some (.int (sm_rest w B))], [], mz_set (mz_set (mz_set m 65 r) 70 a) 71 b)) rfl ?_
      refine mz_ifF c ?_
      refine mz_go 1 (c' := (43, [some (.ref 65), some (.int f), some (.int (nI k)), some (.int (sm_rest w B))], [.int (sm_rest w B)], mz_set (mz_set (mz_set m 65 r) 70 a) 71 b)) rfl ?_
      exact mz_ret rfl
  | succ n ih =>
    intro k hk r a b B hl0 h4 hx hy hkp
    have h8 : r 8 = nI k := hl0.2.2.2.2.trans h4
    by_cases c : sm_rest w B = 9
    · have e0 : sm_run w f (n + 1) B = sm_run w f n (sm_tick w f B) := by
        show (if _ then _ else _) = _
        rw [if_pos c]
      obtain ⟨r1, a1, b1, hl, hkp1, S⟩ := ct_tick (m := mz_set (mz_set (mz_set m 65 r) 70 a) 71 b) hw hr hfi hl0 hx hy
      have hm : mz_set (mz_set (mz_set (mz_set (mz_set (mz_set m 65 r) 70 a) 71 b) 65 r1) 70 a1) 71 b1 = mz_set (mz_set (mz_set m 65 r1) 70 a1) 71 b1 := sm_of3 (fun i h1 h2 h3 => by simp only [mz_up_ne h1, mz_set_ne h1, mz_set_ne h2, mz_set_ne h3])
      rw [hm] at S
      have hB := sm_tick_B (m := w) (f := f) (b := B)
      have h41 : sm_tick w f B 4 = nI (k + 1) := by
        show (if 4 = 4 then B 4 + 1 else _) = _
        rw [if_pos rfl, h4, nI_succ]
      obtain ⟨r', a', b', h1, hkp2, E⟩ := ih (k + 1) (by omega) r1 a1 b1 (sm_tick w f B) hl h41 hB.1 hB.2 (fun i hi => (hkp1 i hi).trans (hkp i hi))
      rw [e0]
      refine ⟨r', a', b', h1, hkp2, ?_⟩
      refine mz_go 3 (c' := (if (sm_rest w B) = 9 then 21 else 42, [some (.ref 65), some (.int f), some (.int (nI L)), some (.int (sm_rest w B))], [], mz_set (mz_set (mz_set m 65 r) 70 a) 71 b)) rfl ?_
      refine mz_ifT c ?_
      refine mz_go 2 (c' := (25, [some (.ref 65), some (.int f), some (.int (nI L)), some (.int (sm_rest w B))], [.int (r 8)], mz_set (mz_set (mz_set m 65 r) 70 a) 71 b)) rfl ?_
      rw [h8]
      refine mz_go 2 (c' := (if (nI L) ≤ (nI k) then 42 else 29, [some (.ref 65), some (.int f), some (.int (nI L)), some (.int (sm_rest w B))], [], mz_set (mz_set (mz_set m 65 r) 70 a) 71 b)) rfl ?_
      refine mz_ifF (show ¬ ((nI L) ≤ (nI k)) from (sm_nleN rfl rfl (show k < L by omega) (show L < 2 ^ 31 by omega))) ?_
      refine mz_go 2 (c' := (31, [some (.ref 65), some (.int f), some (.int (nI L)), some (.int (sm_rest w B))], [.int f, .ref 65], mz_set (mz_set (mz_set m 65 r) 70 a) 71 b)) rfl ?_
      refine mz_doQ (R := mz_r152) (as := [.ref 65, .int f]) (rest := []) (r1 := none) (m1 := mz_set (mz_set (mz_set m 65 r1) 70 a1) 71 b1) mz_t152 mz_v152_65 rfl rfl rfl rfl rfl (S.deep (by decide)) ?_
      refine mz_go 1 (c' := (35, [some (.ref 65), some (.int f), some (.int (nI L)), some (.int (sm_rest w B))], [.ref 65], mz_set (mz_set (mz_set m 65 r1) 70 a1) 71 b1)) rfl ?_
      refine mz_doQ (R := mz_r153) (as := [.ref 65]) (rest := []) (r1 := some (.int (sm_rest w (sm_tick w f B)))) (m1 := mz_set (mz_set (mz_set m 65 r1) 70 a1) 71 b1) mz_t153 mz_v153_65 rfl rfl rfl rfl rfl ((ct_rest (w := w) (m := mz_set (mz_set (mz_set m 65 r1) 70 a1) 71 b1) hw hr hl).deep (by decide)) ?_
      refine mz_go 2 (c' := (15, [some (.ref 65), some (.int f), some (.int (nI L)), some (.int (sm_rest w (sm_tick w f B)))], [], mz_set (mz_set (mz_set m 65 r1) 70 a1) 71 b1)) rfl ?_
      exact E
    · have e0 : sm_run w f (n + 1) B = B := by
        show (if _ then _ else _) = _
        rw [if_neg c]
      rw [e0]
      refine ⟨r, a, b, hl0, hkp, ?_⟩
      refine mz_go 3 (c' := (if (sm_rest w B) = 9 then 21 else 42, [some (.ref 65), some (.int f), some (.int (nI L)), some (.int (sm_rest w B))], [], mz_set (mz_set (mz_set m 65 r) 70 a) 71 b)) rfl ?_
      refine mz_ifF c ?_
      refine mz_go 1 (c' := (43, [some (.ref 65), some (.int f), some (.int (nI L)), some (.int (sm_rest w B))], [.int (sm_rest w B)], mz_set (mz_set (mz_set m 65 r) 70 a) 71 b)) rfl ?_
      exact mz_ret rfl
set_option maxHeartbeats 4000000 in
set_option maxRecDepth 100000 in
theorem ct_runs {w m : mz_M} {N : Nat} (hw : sm_W w N) (hr : sm_HR w (m 66)) {f : Int32} (hfi : f = 1 ∨ f = 2 ∨ f = 4) (hl : sm_N 80 (w 7 2)) {B : Nat → Int32} (hB : sm_like (fun k => m 65 (4 + k)) B) (h40 : B 4 = nI 0) (hx : sm_B 1600 (B 0)) (hy : sm_B 1600 (B 1)) : ∃ r a b, sm_like (fun k => r (4 + k)) (sm_run w f (sm_lim w f) B) ∧ (∀ k, k < 4 ∨ 8 < k → r k = m 65 k) ∧ mz_Me 60 mz_r154 [.ref 65, .int f] m (some (.int (sm_rest w (sm_run w f (sm_lim w f) B)))) (mz_set (mz_set (mz_set m 65 r) 70 a) 71 b) := by
  have h72 : m 66 12 = w 7 2 := hr.2.2.1 2 (by decide)
  obtain ⟨hlim, hl3⟩ := sm_limN hl hfi
  obtain ⟨r', a', b', h1, hkp, E⟩ := ct_runl hw hr hfi (L := sm_lim w f) (by omega) (sm_lim w f) 0 (by omega) (m 65) (m 70) (m 71) B hB h40 hx hy (fun _ _ => rfl)
  have hid : mz_set (mz_set (mz_set m 65 (m 65)) 70 (m 70)) 71 (m 71) = m := by rw [sm_id, sm_id, sm_id]
  rw [hid] at E
  refine ⟨r', a', b', h1, hkp, ⟨?_, rfl⟩⟩
  refine mz_go 4 (c' := (7, [some (.ref 65), some (.int f), none, none], [.int (m 66 12)], m)) rfl ?_
  rw [h72]
  refine mz_go 2 (c' := (9, [some (.ref 65), some (.int f), none, none], [.int ((w 7 2) * f)], m)) rfl ?_
  rw [hlim]
  refine mz_go 2 (c' := (11, [some (.ref 65), some (.int f), some (.int (nI (sm_lim w f))), none], [.ref 65], m)) rfl ?_
  refine mz_doQ (R := mz_r153) (as := [.ref 65]) (rest := []) (r1 := some (.int (sm_rest w B))) (m1 := m) mz_t153 mz_v153_65 rfl rfl rfl rfl rfl ((ct_rest (w := w) (m := m) hw hr hB).deep (by decide)) ?_
  refine mz_go 1 (c' := (15, [some (.ref 65), some (.int f), some (.int (nI (sm_lim w f))), some (.int (sm_rest w B))], [], m)) rfl ?_
  exact E
