theorem ct_farx {w m : mz_M} (hr2 : sm_HR w (m 66)) {I : Nat} (hI : I < 6) {x y : Int32} (hX : m 65 4 = x) (hY : m 65 5 = y) : mz_Me 5 mz_r147 [.ref 65, .int (nI I)] m (some (.int (sm_far (w 4 I) (w 5 I) x y))) m := by
  subst hX
  subst hY
  exact ct_far hr2 hI
theorem ct_nearx0 {w m : mz_M} {N : Nat} (hw : sm_W w N) (hr : sm_HR w (m 66)) {x y : Int32} (hX : m 65 4 = x) (hY : m 65 5 = y) : mz_Me 10 mz_r148 [.ref 65, .int 0] m (some (.int (sm_near (w 3) (w 4) (w 5) x y true N).1)) m := by
  subst hX
  subst hY
  exact ct_near0 hw hr
theorem ct_nearx1 {w m : mz_M} {N : Nat} (hw : sm_W w N) (hr : sm_HR w (m 66)) {x y : Int32} (hX : m 65 4 = x) (hY : m 65 5 = y) : mz_Me 10 mz_r148 [.ref 65, .int 1] m (some (.int (sm_near (w 3) (w 4) (w 5) x y false N).1)) m := by
  subst hX
  subst hY
  exact ct_near1 hw hr
set_option maxHeartbeats 4000000 in
set_option maxRecDepth 100000 in
theorem ct_full {w m : mz_M} {N : Nat} (hw : sm_W w N) (hr : sm_HR w (m 66)) {I : Nat} (hI : I < 6) {x y t : Int32} (hX : m 65 4 = x) (hY : m 65 5 = y) (hT : m 65 8 = t) (h3 : ¬ sm_far (w 4 I) (w 5 I) x y + 3 = 0) : ∃ f g, mz_Me 20 mz_r149 [.ref 65, .int (nI I)] m (some (.int (sm_full w (w 6 I) (sm_far (w 4 I) (w 5 I) x y) t))) (mz_set (mz_set m 70 f) 71 g) := by
  have hw2 := hw
  have hr2 := hr
  obtain ⟨hN, h4, hb, hx0, hx1⟩ := hw
  obtain ⟨hr0, hrk, hrr, ht0, ht1, ht2⟩ := hr
  have h0 : m 66 0 = nI N := hr0.trans h4
  obtain ⟨F, hF⟩ : ∃ F, sm_far (w 4 I) (w 5 I) x y = F := ⟨_, rfl⟩
  obtain ⟨st, hst⟩ : ∃ st, w 6 I = st := ⟨_, rfl⟩
  rw [hF] at h3 ⊢
  rw [hst]
  obtain ⟨T, hT1, hT0⟩ := hx0
  have hT2 : m 66 170 = nI T := ht0.1.trans hT1
  by_cases hz : T = 0
  · refine ⟨m 70, m 71, ?_⟩
    rw [sm_id2 (by decide)]
    have hv : sm_full w st F t = st * 9 / (F + 3) := by
      unfold sm_full
      rw [if_pos (by rw [hT1, hz]; decide)]
    rw [hv]
    refine ⟨?_, rfl⟩
    refine mz_go 2 (c' := (2, [some (.ref 65), some (.int (nI I)), none, none], [.int (nI I), .ref 65], m)) rfl ?_
    refine mz_doQ (R := mz_r147) (as := [.ref 65, .int (nI I)]) (rest := []) (r1 := some (.int (sm_far (w 4 I) (w 5 I) x y))) (m1 := m) mz_t147 mz_v147_65 rfl rfl rfl rfl rfl ((ct_farx (w := w) (m := m) hr2 (show I < 6 by omega) hX hY).deep (by decide)) ?_
    rw [hF]
    refine mz_go 4 (c' := (9, [some (.ref 65), some (.int (nI I)), some (.int F), none], [.int 3, .int (nI I), .ref 65], m)) rfl ?_
    refine mz_doQ (R := mz_r133) (as := [.ref 65, .int (nI I), .int 3]) (rest := []) (r1 := some (.int (w 6 I))) (m1 := m) mz_t133 mz_v133_65 rfl rfl rfl rfl rfl ((ct_its3 (w := w) (m := m) hr2 (show I < 6 by omega)).deep (by decide)) ?_
    rw [hst]
    refine mz_go 3 (c' := (15, [some (.ref 65), some (.int (nI I)), some (.int F), some (.int st)], [.int 0, .ref 65], m)) rfl ?_
    refine mz_doQ (R := mz_r169) (as := [.ref 65, .int 0]) (rest := []) (r1 := some (.int 0)) (m1 := m) mz_t169 mz_v169_65 rfl rfl rfl rfl rfl ⟨?_, rfl⟩ ?_
    · refine mz_go 8 (c' := (13, [some (.ref 65), some (.int 0)], [.int (m 66 170)], m)) rfl ?_
      rw [hT2]
      refine mz_go 1 (c' := (if (nI T) ≤ 0 then 20 else 16, [some (.ref 65), some (.int 0)], [], m)) rfl ?_
      refine mz_ifT (show ((nI T) ≤ 0) from (sm_leN rfl rfl (show T ≤ 0 by omega) (show 0 < 2 ^ 31 by omega))) ?_
      refine mz_go 1 (c' := (21, [some (.ref 65), some (.int 0)], [.int 0], m)) rfl ?_
      exact mz_ret rfl
    refine mz_go 7 (c' := (28, [some (.ref 65), some (.int (nI I)), some (.int F), some (.int st)], [.int (F + 3), .int (st * 9)], m)) rfl ?_
    refine mz_div (c' := (29, [some (.ref 65), some (.int (nI I)), some (.int F), some (.int st)], [.int ((st * 9) / (F + 3))], m)) rfl h3 ?_
    exact mz_ret rfl
  · have hwf := hT0.resolve_left hz
    have hT60 := hwf.1
    have hn : ∀ j, j < 3 → (mz_up (mz_up (mz_up m 70 114 F) 70 115 st) 70 110 t) 70 (sm_ch0 j).toNatClampNeg = sm_nm F st t 0 0 j := by
      intro j hj
      rcases (show j = 0 ∨ j = 1 ∨ j = 2 by omega) with rfl | rfl | rfl
      · rw [show (sm_ch0 0).toNatClampNeg = 114 from by decide]
        rfl
      · rw [show (sm_ch0 1).toNatClampNeg = 115 from by decide]
        rfl
      · rw [show (sm_ch0 2).toNatClampNeg = 110 from by decide]
        rfl
    obtain ⟨g, E⟩ := ct_ev0 (w := w) (m := mz_up (mz_up (mz_up m 70 114 F) 70 115 st) 70 110 t) hT1 hwf (by decide) ht0 sm_chs0 (sm_nm F st t 0 0) hn
    have hm : mz_up (mz_up (mz_up m 70 114 F) 70 115 st) 70 110 t = mz_set m 70 ((mz_up (mz_up (mz_up m 70 114 F) 70 115 st) 70 110 t) 70) := sm_of1 (fun i hi => by simp only [mz_up_ne hi])
    refine ⟨(mz_up (mz_up (mz_up m 70 114 F) 70 115 st) 70 110 t) 70, g, ?_⟩
    rw [← hm]
    have hv : sm_full w st F t = sm_held (sm_ev T (w 11) (w 12) (sm_nm F st t 0 0)) (-999) 999 := by
      unfold sm_full
      rw [hT1, if_neg (nI_nle (by omega) (by omega)), nI_clamp (by omega)]
    rw [hv]
    refine ⟨?_, rfl⟩
    refine mz_go 2 (c' := (2, [some (.ref 65), some (.int (nI I)), none, none], [.int (nI I), .ref 65], m)) rfl ?_
    refine mz_doQ (R := mz_r147) (as := [.ref 65, .int (nI I)]) (rest := []) (r1 := some (.int (sm_far (w 4 I) (w 5 I) x y))) (m1 := m) mz_t147 mz_v147_65 rfl rfl rfl rfl rfl ((ct_farx (w := w) (m := m) hr2 (show I < 6 by omega) hX hY).deep (by decide)) ?_
    rw [hF]
    refine mz_go 4 (c' := (9, [some (.ref 65), some (.int (nI I)), some (.int F), none], [.int 3, .int (nI I), .ref 65], m)) rfl ?_
    refine mz_doQ (R := mz_r133) (as := [.ref 65, .int (nI I), .int 3]) (rest := []) (r1 := some (.int (w 6 I))) (m1 := m) mz_t133 mz_v133_65 rfl rfl rfl rfl rfl ((ct_its3 (w := w) (m := m) hr2 (show I < 6 by omega)).deep (by decide)) ?_
    rw [hst]
    refine mz_go 3 (c' := (15, [some (.ref 65), some (.int (nI I)), some (.int F), some (.int st)], [.int 0, .ref 65], m)) rfl ?_
    refine mz_doQ (R := mz_r169) (as := [.ref 65, .int 0]) (rest := []) (r1 := some (.int 1)) (m1 := m) mz_t169 mz_v169_65 rfl rfl rfl rfl rfl ⟨?_, rfl⟩ ?_
    · refine mz_go 8 (c' := (13, [some (.ref 65), some (.int 0)], [.int (m 66 170)], m)) rfl ?_
      rw [hT2]
      refine mz_go 1 (c' := (if (nI T) ≤ 0 then 20 else 16, [some (.ref 65), some (.int 0)], [], m)) rfl ?_
      refine mz_ifF (show ¬ ((nI T) ≤ 0) from (sm_nleN rfl rfl (show 0 < T by omega) (show T < 2 ^ 31 by omega))) ?_
      refine mz_go 2 (c' := (21, [some (.ref 65), some (.int 0)], [.int 1], m)) rfl ?_
      exact mz_ret rfl
    refine mz_go 16 (c' := (56, [some (.ref 65), some (.int (nI I)), some (.int F), some (.int st)], [.int (m 65 8), .int 110, .ref 70], mz_up (mz_up m 70 114 F) 70 115 st)) rfl ?_
    rw [hT]
    refine mz_go 3 (c' := (59, [some (.ref 65), some (.int (nI I)), some (.int F), some (.int st)], [.int 0, .ref 65], mz_up (mz_up (mz_up m 70 114 F) 70 115 st) 70 110 t)) rfl ?_
    refine mz_doQ (R := mz_r173) (as := [.ref 65, .int 0]) (rest := []) (r1 := some (.int (sm_ev T (w 11) (w 12) (sm_nm F st t 0 0)))) (m1 := mz_set (mz_up (mz_up (mz_up m 70 114 F) 70 115 st) 70 110 t) 71 g) mz_t173 mz_v173_65 rfl rfl rfl rfl rfl (E.deep (by decide)) ?_
    refine mz_go 2 (c' := (68, [some (.ref 65), some (.int (nI I)), some (.int F), some (.int st)], [.int 999, .int (-999), .int (sm_ev T (w 11) (w 12) (sm_nm F st t 0 0))], mz_set (mz_up (mz_up (mz_up m 70 114 F) 70 115 st) 70 110 t) 71 g)) rfl ?_
    refine mz_doQ (R := mz_r130) (as := [.int (sm_ev T (w 11) (w 12) (sm_nm F st t 0 0)), .int (-999), .int 999]) (rest := []) (r1 := some (.int (sm_held (sm_ev T (w 11) (w 12) (sm_nm F st t 0 0)) (-999) 999))) (m1 := mz_set (mz_up (mz_up (mz_up m 70 114 F) 70 115 st) 70 110 t) 71 g) mz_t130 mz_v130 rfl rfl rfl rfl rfl ((ct_held (m := mz_set (mz_up (mz_up (mz_up m 70 114 F) 70 115 st) 70 110 t) 71 g) (sm_ev T (w 11) (w 12) (sm_nm F st t 0 0)) (-999) 999).deep (by decide)) ?_
    exact mz_ret rfl
set_option maxHeartbeats 4000000 in
set_option maxRecDepth 100000 in
theorem ct_pull {w m : mz_M} {N : Nat} (hw : sm_W w N) (hr : sm_HR w (m 66)) {I : Nat} (hI : I < N) {x y t : Int32} (hX : m 65 4 = x) (hY : m 65 5 = y) (hT : m 65 8 = t) (hx : sm_B 1600 x) (hy : sm_B 1600 y) : ∃ f g, mz_Me 21 mz_r150 [.ref 65, .int (nI I)] m (some (.int (sm_pull w I x y t))) (mz_set (mz_set m 70 f) 71 g) := by
  have hw2 := hw
  have hr2 := hr
  obtain ⟨hN, h4, hb, hx0, hx1⟩ := hw
  obtain ⟨hr0, hrk, hrr, ht0, ht1, ht2⟩ := hr
  have h0 : m 66 0 = nI N := hr0.trans h4
  have hbk := hb I (by omega)
  obtain ⟨F, hF⟩ : ∃ F, sm_far (w 4 I) (w 5 I) x y = F := ⟨_, rfl⟩
  obtain ⟨f, g, E⟩ := ct_full hw2 hr2 (show I < 6 by omega) hX hY hT (sm_by (sm_far_N hbk.2.1 hbk.2.2.1 hx hy)).2
  unfold sm_pull
  rw [hF] at E ⊢
  obtain ⟨p, hp⟩ : ∃ p, sm_full w (w 6 I) F t = p := ⟨_, rfl⟩
  rw [hp] at E ⊢
  refine ⟨f, g, ?_⟩
  obtain ⟨K, hK, eK⟩ := sm_Nof (by decide) hbk.1
  rcases (show K = 0 ∨ K = 1 ∨ K = 2 ∨ K = 3 ∨ K = 4 ∨ K = 5 ∨ K = 6 by omega) with rfl | rfl | rfl | rfl | rfl | rfl | rfl
  · replace eK : w 3 I = 0 := eK
    have hv : sm_kind (w 3 I) p F t = p := by
      rw [eK]
      unfold sm_kind
      simp []
    rw [hv]
    refine ⟨?_, rfl⟩
    refine mz_go 2 (c' := (2, [some (.ref 65), some (.int (nI I)), none], [.int (nI I), .ref 65], m)) rfl ?_
    refine mz_doQ (R := mz_r149) (as := [.ref 65, .int (nI I)]) (rest := []) (r1 := some (.int p)) (m1 := mz_set (mz_set m 70 f) 71 g) mz_t149 mz_v149_65 rfl rfl rfl rfl rfl (E.deep (by decide)) ?_
    refine mz_go 4 (c' := (9, [some (.ref 65), some (.int (nI I)), some (.int p)], [.int 0, .int (nI I), .ref 65], mz_set (mz_set m 70 f) 71 g)) rfl ?_
    refine mz_doQ (R := mz_r133) (as := [.ref 65, .int (nI I), .int 0]) (rest := []) (r1 := some (.int (w 3 I))) (m1 := mz_set (mz_set m 70 f) 71 g) mz_t133 mz_v133_65 rfl rfl rfl rfl rfl ((ct_its0 (w := w) (m := mz_set (mz_set m 70 f) 71 g) hr2 (show I < 6 by omega)).deep (by decide)) ?_
    rw [eK]
    refine mz_go 2 (c' := (122, [some (.ref 65), some (.int (nI I)), some (.int p)], [.int p], mz_set (mz_set m 70 f) 71 g)) rfl ?_
    exact mz_ret rfl
  · replace eK : w 3 I = 1 := eK
    have hv : sm_kind (w 3 I) p F t = p / 2 := by
      rw [eK]
      unfold sm_kind
      simp []
    rw [hv]
    refine ⟨?_, rfl⟩
    refine mz_go 2 (c' := (2, [some (.ref 65), some (.int (nI I)), none], [.int (nI I), .ref 65], m)) rfl ?_
    refine mz_doQ (R := mz_r149) (as := [.ref 65, .int (nI I)]) (rest := []) (r1 := some (.int p)) (m1 := mz_set (mz_set m 70 f) 71 g) mz_t149 mz_v149_65 rfl rfl rfl rfl rfl (E.deep (by decide)) ?_
    refine mz_go 4 (c' := (9, [some (.ref 65), some (.int (nI I)), some (.int p)], [.int 0, .int (nI I), .ref 65], mz_set (mz_set m 70 f) 71 g)) rfl ?_
    refine mz_doQ (R := mz_r133) (as := [.ref 65, .int (nI I), .int 0]) (rest := []) (r1 := some (.int (w 3 I))) (m1 := mz_set (mz_set m 70 f) 71 g) mz_t133 mz_v133_65 rfl rfl rfl rfl rfl ((ct_its0 (w := w) (m := mz_set (mz_set m 70 f) 71 g) hr2 (show I < 6 by omega)).deep (by decide)) ?_
    rw [eK]
    refine mz_go 4 (c' := (55, [some (.ref 65), some (.int (nI I)), some (.int p)], [.int (p / 2)], mz_set (mz_set m 70 f) 71 g)) rfl ?_
    exact mz_ret rfl
  · replace eK : w 3 I = 2 := eK
    have hv : sm_kind (w 3 I) p F t = 0 - p := by
      rw [eK]
      unfold sm_kind
      simp []
    rw [hv]
    refine ⟨?_, rfl⟩
    refine mz_go 2 (c' := (2, [some (.ref 65), some (.int (nI I)), none], [.int (nI I), .ref 65], m)) rfl ?_
    refine mz_doQ (R := mz_r149) (as := [.ref 65, .int (nI I)]) (rest := []) (r1 := some (.int p)) (m1 := mz_set (mz_set m 70 f) 71 g) mz_t149 mz_v149_65 rfl rfl rfl rfl rfl (E.deep (by decide)) ?_
    refine mz_go 4 (c' := (9, [some (.ref 65), some (.int (nI I)), some (.int p)], [.int 0, .int (nI I), .ref 65], mz_set (mz_set m 70 f) 71 g)) rfl ?_
    refine mz_doQ (R := mz_r133) (as := [.ref 65, .int (nI I), .int 0]) (rest := []) (r1 := some (.int (w 3 I))) (m1 := mz_set (mz_set m 70 f) 71 g) mz_t133 mz_v133_65 rfl rfl rfl rfl rfl ((ct_its0 (w := w) (m := mz_set (mz_set m 70 f) 71 g) hr2 (show I < 6 by omega)).deep (by decide)) ?_
    rw [eK]
    refine mz_go 4 (c' := (59, [some (.ref 65), some (.int (nI I)), some (.int p)], [.int (0 - p)], mz_set (mz_set m 70 f) 71 g)) rfl ?_
    exact mz_ret rfl
  · replace eK : w 3 I = 3 := eK
    by_cases h1 : (t - t / 2 * 2) = 0
    · have hv : sm_kind (w 3 I) p F t = p := by
        rw [eK]
        unfold sm_kind
        simp [h1]
      rw [hv]
      refine ⟨?_, rfl⟩
      refine mz_go 2 (c' := (2, [some (.ref 65), some (.int (nI I)), none], [.int (nI I), .ref 65], m)) rfl ?_
      refine mz_doQ (R := mz_r149) (as := [.ref 65, .int (nI I)]) (rest := []) (r1 := some (.int p)) (m1 := mz_set (mz_set m 70 f) 71 g) mz_t149 mz_v149_65 rfl rfl rfl rfl rfl (E.deep (by decide)) ?_
      refine mz_go 4 (c' := (9, [some (.ref 65), some (.int (nI I)), some (.int p)], [.int 0, .int (nI I), .ref 65], mz_set (mz_set m 70 f) 71 g)) rfl ?_
      refine mz_doQ (R := mz_r133) (as := [.ref 65, .int (nI I), .int 0]) (rest := []) (r1 := some (.int (w 3 I))) (m1 := mz_set (mz_set m 70 f) 71 g) mz_t133 mz_v133_65 rfl rfl rfl rfl rfl ((ct_its0 (w := w) (m := mz_set (mz_set m 70 f) 71 g) hr2 (show I < 6 by omega)).deep (by decide)) ?_
      rw [eK]
      refine mz_go 3 (c' := (64, [some (.ref 65), some (.int (nI I)), some (.int p)], [.int (m 65 8)], mz_set (mz_set m 70 f) 71 g)) rfl ?_
      rw [hT]
      refine mz_go 3 (c' := (if (t - t / 2 * 2) = 0 then 69 else 73, [some (.ref 65), some (.int (nI I)), some (.int p)], [], mz_set (mz_set m 70 f) 71 g)) rfl ?_
      refine mz_ifT h1 ?_
      refine mz_go 2 (c' := (74, [some (.ref 65), some (.int (nI I)), some (.int p)], [.int p], mz_set (mz_set m 70 f) 71 g)) rfl ?_
      exact mz_ret rfl
    · have hv : sm_kind (w 3 I) p F t = 0 := by
        rw [eK]
        unfold sm_kind
        simp [h1]
      rw [hv]
      refine ⟨?_, rfl⟩
      refine mz_go 2 (c' := (2, [some (.ref 65), some (.int (nI I)), none], [.int (nI I), .ref 65], m)) rfl ?_
      refine mz_doQ (R := mz_r149) (as := [.ref 65, .int (nI I)]) (rest := []) (r1 := some (.int p)) (m1 := mz_set (mz_set m 70 f) 71 g) mz_t149 mz_v149_65 rfl rfl rfl rfl rfl (E.deep (by decide)) ?_
      refine mz_go 4 (c' := (9, [some (.ref 65), some (.int (nI I)), some (.int p)], [.int 0, .int (nI I), .ref 65], mz_set (mz_set m 70 f) 71 g)) rfl ?_
      refine mz_doQ (R := mz_r133) (as := [.ref 65, .int (nI I), .int 0]) (rest := []) (r1 := some (.int (w 3 I))) (m1 := mz_set (mz_set m 70 f) 71 g) mz_t133 mz_v133_65 rfl rfl rfl rfl rfl ((ct_its0 (w := w) (m := mz_set (mz_set m 70 f) 71 g) hr2 (show I < 6 by omega)).deep (by decide)) ?_
      rw [eK]
      refine mz_go 3 (c' := (64, [some (.ref 65), some (.int (nI I)), some (.int p)], [.int (m 65 8)], mz_set (mz_set m 70 f) 71 g)) rfl ?_
      rw [hT]
      refine mz_go 3 (c' := (if (t - t / 2 * 2) = 0 then 69 else 73, [some (.ref 65), some (.int (nI I)), some (.int p)], [], mz_set (mz_set m 70 f) 71 g)) rfl ?_
      refine mz_ifF h1 ?_
      refine mz_go 1 (c' := (74, [some (.ref 65), some (.int (nI I)), some (.int p)], [.int 0], mz_set (mz_set m 70 f) 71 g)) rfl ?_
      exact mz_ret rfl
  · replace eK : w 3 I = 4 := eK
    by_cases h1 : 20 < F
    · have hv : sm_kind (w 3 I) p F t = 0 := by
        rw [eK]
        unfold sm_kind
        simp [h1, Int32.not_le.mpr h1]
      rw [hv]
      refine ⟨?_, rfl⟩
      refine mz_go 2 (c' := (2, [some (.ref 65), some (.int (nI I)), none], [.int (nI I), .ref 65], m)) rfl ?_
      refine mz_doQ (R := mz_r149) (as := [.ref 65, .int (nI I)]) (rest := []) (r1 := some (.int p)) (m1 := mz_set (mz_set m 70 f) 71 g) mz_t149 mz_v149_65 rfl rfl rfl rfl rfl (E.deep (by decide)) ?_
      refine mz_go 4 (c' := (9, [some (.ref 65), some (.int (nI I)), some (.int p)], [.int 0, .int (nI I), .ref 65], mz_set (mz_set m 70 f) 71 g)) rfl ?_
      refine mz_doQ (R := mz_r133) (as := [.ref 65, .int (nI I), .int 0]) (rest := []) (r1 := some (.int (w 3 I))) (m1 := mz_set (mz_set m 70 f) 71 g) mz_t133 mz_v133_65 rfl rfl rfl rfl rfl ((ct_its0 (w := w) (m := mz_set (mz_set m 70 f) 71 g) hr2 (show I < 6 by omega)).deep (by decide)) ?_
      rw [eK]
      refine mz_go 3 (c' := (77, [some (.ref 65), some (.int (nI I)), some (.int p)], [.int (nI I), .ref 65], mz_set (mz_set m 70 f) 71 g)) rfl ?_
      refine mz_doQ (R := mz_r147) (as := [.ref 65, .int (nI I)]) (rest := []) (r1 := some (.int (sm_far (w 4 I) (w 5 I) x y))) (m1 := mz_set (mz_set m 70 f) 71 g) mz_t147 mz_v147_65 rfl rfl rfl rfl rfl ((ct_farx (w := w) (m := mz_set (mz_set m 70 f) 71 g) hr2 (show I < 6 by omega) hX hY).deep (by decide)) ?_
      rw [hF]
      refine mz_go 2 (c' := (if 20 < F then 91 else 85, [some (.ref 65), some (.int (nI I)), some (.int p)], [], mz_set (mz_set m 70 f) 71 g)) rfl ?_
      refine mz_ifT h1 ?_
      refine mz_go 1 (c' := (92, [some (.ref 65), some (.int (nI I)), some (.int p)], [.int 0], mz_set (mz_set m 70 f) 71 g)) rfl ?_
      exact mz_ret rfl
    · have hv : sm_kind (w 3 I) p F t = p / 2 := by
        rw [eK]
        unfold sm_kind
        simp [h1, Int32.not_lt.mp h1]
      rw [hv]
      refine ⟨?_, rfl⟩
      refine mz_go 2 (c' := (2, [some (.ref 65), some (.int (nI I)), none], [.int (nI I), .ref 65], m)) rfl ?_
      refine mz_doQ (R := mz_r149) (as := [.ref 65, .int (nI I)]) (rest := []) (r1 := some (.int p)) (m1 := mz_set (mz_set m 70 f) 71 g) mz_t149 mz_v149_65 rfl rfl rfl rfl rfl (E.deep (by decide)) ?_
      refine mz_go 4 (c' := (9, [some (.ref 65), some (.int (nI I)), some (.int p)], [.int 0, .int (nI I), .ref 65], mz_set (mz_set m 70 f) 71 g)) rfl ?_
      refine mz_doQ (R := mz_r133) (as := [.ref 65, .int (nI I), .int 0]) (rest := []) (r1 := some (.int (w 3 I))) (m1 := mz_set (mz_set m 70 f) 71 g) mz_t133 mz_v133_65 rfl rfl rfl rfl rfl ((ct_its0 (w := w) (m := mz_set (mz_set m 70 f) 71 g) hr2 (show I < 6 by omega)).deep (by decide)) ?_
      rw [eK]
      refine mz_go 3 (c' := (77, [some (.ref 65), some (.int (nI I)), some (.int p)], [.int (nI I), .ref 65], mz_set (mz_set m 70 f) 71 g)) rfl ?_
      refine mz_doQ (R := mz_r147) (as := [.ref 65, .int (nI I)]) (rest := []) (r1 := some (.int (sm_far (w 4 I) (w 5 I) x y))) (m1 := mz_set (mz_set m 70 f) 71 g) mz_t147 mz_v147_65 rfl rfl rfl rfl rfl ((ct_farx (w := w) (m := mz_set (mz_set m 70 f) 71 g) hr2 (show I < 6 by omega) hX hY).deep (by decide)) ?_
      rw [hF]
      refine mz_go 2 (c' := (if 20 < F then 91 else 85, [some (.ref 65), some (.int (nI I)), some (.int p)], [], mz_set (mz_set m 70 f) 71 g)) rfl ?_
      refine mz_ifF h1 ?_
      refine mz_go 4 (c' := (92, [some (.ref 65), some (.int (nI I)), some (.int p)], [.int (p / 2)], mz_set (mz_set m 70 f) 71 g)) rfl ?_
      exact mz_ret rfl
  · replace eK : w 3 I = 5 := eK
    by_cases h1 : (t - t / 2 * 2) = 0
    · by_cases h2 : p ≤ 3
      · have hv : sm_kind (w 3 I) p F t = 0 := by
          rw [eK]
          unfold sm_kind
          simp [h1, h2, Int32.not_lt.mpr h2]
        rw [hv]
        refine ⟨?_, rfl⟩
        refine mz_go 2 (c' := (2, [some (.ref 65), some (.int (nI I)), none], [.int (nI I), .ref 65], m)) rfl ?_
        refine mz_doQ (R := mz_r149) (as := [.ref 65, .int (nI I)]) (rest := []) (r1 := some (.int p)) (m1 := mz_set (mz_set m 70 f) 71 g) mz_t149 mz_v149_65 rfl rfl rfl rfl rfl (E.deep (by decide)) ?_
        refine mz_go 4 (c' := (9, [some (.ref 65), some (.int (nI I)), some (.int p)], [.int 0, .int (nI I), .ref 65], mz_set (mz_set m 70 f) 71 g)) rfl ?_
        refine mz_doQ (R := mz_r133) (as := [.ref 65, .int (nI I), .int 0]) (rest := []) (r1 := some (.int (w 3 I))) (m1 := mz_set (mz_set m 70 f) 71 g) mz_t133 mz_v133_65 rfl rfl rfl rfl rfl ((ct_its0 (w := w) (m := mz_set (mz_set m 70 f) 71 g) hr2 (show I < 6 by omega)).deep (by decide)) ?_
        rw [eK]
        refine mz_go 3 (c' := (97, [some (.ref 65), some (.int (nI I)), some (.int p)], [.int (m 65 8)], mz_set (mz_set m 70 f) 71 g)) rfl ?_
        rw [hT]
        refine mz_go 3 (c' := (if (t - t / 2 * 2) = 0 then 102 else 113, [some (.ref 65), some (.int (nI I)), some (.int p)], [], mz_set (mz_set m 70 f) 71 g)) rfl ?_
        refine mz_ifT h1 ?_
        refine mz_go 3 (c' := (if p ≤ 3 then 113 else 107, [some (.ref 65), some (.int (nI I)), some (.int p)], [], mz_set (mz_set m 70 f) 71 g)) rfl ?_
        refine mz_ifT h2 ?_
        refine mz_go 1 (c' := (114, [some (.ref 65), some (.int (nI I)), some (.int p)], [.int 0], mz_set (mz_set m 70 f) 71 g)) rfl ?_
        exact mz_ret rfl
      · have hv : sm_kind (w 3 I) p F t = p - 3 := by
          rw [eK]
          unfold sm_kind
          simp [h1, h2, Int32.not_le.mp h2]
        rw [hv]
        refine ⟨?_, rfl⟩
        refine mz_go 2 (c' := (2, [some (.ref 65), some (.int (nI I)), none], [.int (nI I), .ref 65], m)) rfl ?_
        refine mz_doQ (R := mz_r149) (as := [.ref 65, .int (nI I)]) (rest := []) (r1 := some (.int p)) (m1 := mz_set (mz_set m 70 f) 71 g) mz_t149 mz_v149_65 rfl rfl rfl rfl rfl (E.deep (by decide)) ?_
        refine mz_go 4 (c' := (9, [some (.ref 65), some (.int (nI I)), some (.int p)], [.int 0, .int (nI I), .ref 65], mz_set (mz_set m 70 f) 71 g)) rfl ?_
        refine mz_doQ (R := mz_r133) (as := [.ref 65, .int (nI I), .int 0]) (rest := []) (r1 := some (.int (w 3 I))) (m1 := mz_set (mz_set m 70 f) 71 g) mz_t133 mz_v133_65 rfl rfl rfl rfl rfl ((ct_its0 (w := w) (m := mz_set (mz_set m 70 f) 71 g) hr2 (show I < 6 by omega)).deep (by decide)) ?_
        rw [eK]
        refine mz_go 3 (c' := (97, [some (.ref 65), some (.int (nI I)), some (.int p)], [.int (m 65 8)], mz_set (mz_set m 70 f) 71 g)) rfl ?_
        rw [hT]
        refine mz_go 3 (c' := (if (t - t / 2 * 2) = 0 then 102 else 113, [some (.ref 65), some (.int (nI I)), some (.int p)], [], mz_set (mz_set m 70 f) 71 g)) rfl ?_
        refine mz_ifT h1 ?_
        refine mz_go 3 (c' := (if p ≤ 3 then 113 else 107, [some (.ref 65), some (.int (nI I)), some (.int p)], [], mz_set (mz_set m 70 f) 71 g)) rfl ?_
        refine mz_ifF h2 ?_
        refine mz_go 4 (c' := (114, [some (.ref 65), some (.int (nI I)), some (.int p)], [.int (p - 3)], mz_set (mz_set m 70 f) 71 g)) rfl ?_
        exact mz_ret rfl
    · have hv : sm_kind (w 3 I) p F t = 0 := by
        rw [eK]
        unfold sm_kind
        simp [h1]
      rw [hv]
      refine ⟨?_, rfl⟩
      refine mz_go 2 (c' := (2, [some (.ref 65), some (.int (nI I)), none], [.int (nI I), .ref 65], m)) rfl ?_
      refine mz_doQ (R := mz_r149) (as := [.ref 65, .int (nI I)]) (rest := []) (r1 := some (.int p)) (m1 := mz_set (mz_set m 70 f) 71 g) mz_t149 mz_v149_65 rfl rfl rfl rfl rfl (E.deep (by decide)) ?_
      refine mz_go 4 (c' := (9, [some (.ref 65), some (.int (nI I)), some (.int p)], [.int 0, .int (nI I), .ref 65], mz_set (mz_set m 70 f) 71 g)) rfl ?_
      refine mz_doQ (R := mz_r133) (as := [.ref 65, .int (nI I), .int 0]) (rest := []) (r1 := some (.int (w 3 I))) (m1 := mz_set (mz_set m 70 f) 71 g) mz_t133 mz_v133_65 rfl rfl rfl rfl rfl ((ct_its0 (w := w) (m := mz_set (mz_set m 70 f) 71 g) hr2 (show I < 6 by omega)).deep (by decide)) ?_
      rw [eK]
      refine mz_go 3 (c' := (97, [some (.ref 65), some (.int (nI I)), some (.int p)], [.int (m 65 8)], mz_set (mz_set m 70 f) 71 g)) rfl ?_
      rw [hT]
      refine mz_go 3 (c' := (if (t - t / 2 * 2) = 0 then 102 else 113, [some (.ref 65), some (.int (nI I)), some (.int p)], [], mz_set (mz_set m 70 f) 71 g)) rfl ?_
      refine mz_ifF h1 ?_
      refine mz_go 1 (c' := (114, [some (.ref 65), some (.int (nI I)), some (.int p)], [.int 0], mz_set (mz_set m 70 f) 71 g)) rfl ?_
      exact mz_ret rfl
  · replace eK : w 3 I = 6 := eK
    have hv : sm_kind (w 3 I) p F t = 0 - (2 * p) := by
      rw [eK]
      unfold sm_kind
      simp []
    rw [hv]
    refine ⟨?_, rfl⟩
    refine mz_go 2 (c' := (2, [some (.ref 65), some (.int (nI I)), none], [.int (nI I), .ref 65], m)) rfl ?_
    refine mz_doQ (R := mz_r149) (as := [.ref 65, .int (nI I)]) (rest := []) (r1 := some (.int p)) (m1 := mz_set (mz_set m 70 f) 71 g) mz_t149 mz_v149_65 rfl rfl rfl rfl rfl (E.deep (by decide)) ?_
    refine mz_go 4 (c' := (9, [some (.ref 65), some (.int (nI I)), some (.int p)], [.int 0, .int (nI I), .ref 65], mz_set (mz_set m 70 f) 71 g)) rfl ?_
    refine mz_doQ (R := mz_r133) (as := [.ref 65, .int (nI I), .int 0]) (rest := []) (r1 := some (.int (w 3 I))) (m1 := mz_set (mz_set m 70 f) 71 g) mz_t133 mz_v133_65 rfl rfl rfl rfl rfl ((ct_its0 (w := w) (m := mz_set (mz_set m 70 f) 71 g) hr2 (show I < 6 by omega)).deep (by decide)) ?_
    rw [eK]
    refine mz_go 6 (c' := (120, [some (.ref 65), some (.int (nI I)), some (.int p)], [.int (0 - (2 * p))], mz_set (mz_set m 70 f) 71 g)) rfl ?_
    exact mz_ret rfl
