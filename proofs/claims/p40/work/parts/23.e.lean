theorem sm_tkL {f x y u v t X Y : Int32} {R : Nat → Int32} (eX : x + u / f = X) (eY : y + v / f = Y) (h0 : R 0 = sm_held X (-1600) 1600) (h1 : R 1 = sm_held Y (-1600) 1600) (h2 : R 2 = if sm_held X (-1600) 1600 = X then u else 0) (h3 : R 3 = if sm_held Y (-1600) 1600 = Y then v else 0) (h4 : R 4 = t + 1) : sm_like R (fun k => if k = 4 then t + 1 else sm_gof f (sm_bob x y u v t) k) := by
  subst eX
  subst eY
  refine ⟨?_, ?_, ?_, ?_, ?_⟩
  · rw [h0]; simp [sm_gof, sm_bob]
  · rw [h1]; simp [sm_gof, sm_bob]
  · rw [h2]; simp [sm_gof, sm_bob]
  · rw [h3]; simp [sm_gof, sm_bob]
  · rw [h4]; simp
set_option maxHeartbeats 4000000 in
set_option maxRecDepth 100000 in
theorem ct_rub {w m : mz_M} {N : Nat} (hw : sm_W w N) (hr : sm_HR w (m 66)) {x y t : Int32} (hX : m 65 4 = x) (hY : m 65 5 = y) (hT : m 65 8 = t) {u v : Int32} (hU : m 65 6 = u) (hV : m 65 7 = v) : ∃ f g, mz_Me 20 mz_r151 [.ref 65] m (some (.int (sm_rub w x y u v t))) (mz_set (mz_set m 70 f) 71 g) := by
  have hw2 := hw
  have hr2 := hr
  obtain ⟨hN, h4, hb, hx0, hx1⟩ := hw
  obtain ⟨hr0, hrk, hrr, ht0, ht1, ht2⟩ := hr
  have h0 : m 66 0 = nI N := hr0.trans h4
  have hcn := sm_cntN hN h4
  have h71 : m 66 11 = w 7 1 := hrr 1 (by decide)
  obtain ⟨T, hT1, hT0⟩ := hx1
  have hT2 : m 66 295 = nI T := ht1.1.trans hT1
  by_cases hz : T = 0
  · refine ⟨m 70, m 71, ?_⟩
    rw [sm_id2 (by decide)]
    have hv : sm_rub w x y u v t = w 7 1 := by
      unfold sm_rub
      rw [if_pos (by rw [hT1, hz]; decide)]
    rw [hv]
    refine ⟨?_, rfl⟩
    refine mz_go 2 (c' := (2, [some (.ref 65), none], [.int 1, .ref 65], m)) rfl ?_
    refine mz_doQ (R := mz_r169) (as := [.ref 65, .int 1]) (rest := []) (r1 := some (.int 0)) (m1 := m) mz_t169 mz_v169_65 rfl rfl rfl rfl rfl ⟨?_, rfl⟩ ?_
    · refine mz_go 8 (c' := (13, [some (.ref 65), some (.int 1)], [.int (m 66 295)], m)) rfl ?_
      rw [hT2]
      refine mz_go 1 (c' := (if (nI T) ≤ 0 then 20 else 16, [some (.ref 65), some (.int 1)], [], m)) rfl ?_
      refine mz_ifT (show ((nI T) ≤ 0) from (sm_leN rfl rfl (show T ≤ 0 by omega) (show 0 < 2 ^ 31 by omega))) ?_
      refine mz_go 1 (c' := (21, [some (.ref 65), some (.int 1)], [.int 0], m)) rfl ?_
      exact mz_ret rfl
    refine mz_go 5 (c' := (15, [some (.ref 65), none], [.int (m 66 11)], m)) rfl ?_
    rw [h71]
    exact mz_ret rfl
  · have hwf := hT0.resolve_left hz
    have hT60 := hwf.1
    by_cases hn0 : (sm_near (w 3) (w 4) (w 5) x y false N).1 < 0
    · have hi := sm_near_neg (by omega) hn0
      have hn : ∀ j, j < 3 → (mz_up (mz_up (mz_up m 70 118 ((sm_abs u) + (sm_abs v))) 70 114 999) 70 110 t) 70 (sm_ch1 j).toNatClampNeg = sm_nm ((sm_abs u) + (sm_abs v)) 999 t 0 0 j := by
        intro j hj
        rcases (show j = 0 ∨ j = 1 ∨ j = 2 by omega) with rfl | rfl | rfl
        · rw [show (sm_ch1 0).toNatClampNeg = 118 from by decide]
          rfl
        · rw [show (sm_ch1 1).toNatClampNeg = 114 from by decide]
          rfl
        · rw [show (sm_ch1 2).toNatClampNeg = 110 from by decide]
          rfl
      obtain ⟨g, E⟩ := ct_ev1 (w := w) (m := mz_up (mz_up (mz_up m 70 118 ((sm_abs u) + (sm_abs v))) 70 114 999) 70 110 t) hT1 hwf (by decide) ht1 sm_chs1 (sm_nm ((sm_abs u) + (sm_abs v)) 999 t 0 0) hn
      have hm : mz_up (mz_up (mz_up m 70 118 ((sm_abs u) + (sm_abs v))) 70 114 999) 70 110 t = mz_set m 70 ((mz_up (mz_up (mz_up m 70 118 ((sm_abs u) + (sm_abs v))) 70 114 999) 70 110 t) 70) := sm_of1 (fun i hi => by simp only [mz_up_ne hi])
      refine ⟨(mz_up (mz_up (mz_up m 70 118 ((sm_abs u) + (sm_abs v))) 70 114 999) 70 110 t) 70, g, ?_⟩
      rw [← hm]
      have hv : sm_rub w x y u v t = sm_held (sm_ev T (w 14) (w 15) (sm_nm ((sm_abs u) + (sm_abs v)) 999 t 0 0)) 0 99 := by
        unfold sm_rub sm_nearr
        rw [hcn, if_pos hn0, hT1, if_neg (nI_nle (by omega) (by omega)), nI_clamp (by omega)]
      rw [hv]
      refine ⟨?_, rfl⟩
      refine mz_go 2 (c' := (2, [some (.ref 65), none], [.int 1, .ref 65], m)) rfl ?_
      refine mz_doQ (R := mz_r169) (as := [.ref 65, .int 1]) (rest := []) (r1 := some (.int 1)) (m1 := m) mz_t169 mz_v169_65 rfl rfl rfl rfl rfl ⟨?_, rfl⟩ ?_
      · refine mz_go 8 (c' := (13, [some (.ref 65), some (.int 1)], [.int (m 66 295)], m)) rfl ?_
        rw [hT2]
        refine mz_go 1 (c' := (if (nI T) ≤ 0 then 20 else 16, [some (.ref 65), some (.int 1)], [], m)) rfl ?_
        refine mz_ifF (show ¬ ((nI T) ≤ 0) from (sm_nleN rfl rfl (show 0 < T by omega) (show T < 2 ^ 31 by omega))) ?_
        refine mz_go 2 (c' := (21, [some (.ref 65), some (.int 1)], [.int 1], m)) rfl ?_
        exact mz_ret rfl
      refine mz_go 3 (c' := (18, [some (.ref 65), none], [.int 1, .ref 65], m)) rfl ?_
      refine mz_doQ (R := mz_r148) (as := [.ref 65, .int 1]) (rest := []) (r1 := some (.int ((sm_near (w 3) (w 4) (w 5) x y false N).1))) (m1 := m) mz_t148 mz_v148_65 rfl rfl rfl rfl rfl ((ct_nearx1 (w := w) (m := m) hw2 hr2 hX hY).deep (by decide)) ?_
      rw [hi]
      refine mz_go 6 (c' := (32, [some (.ref 65), some (.int (-1))], [.int (m 65 6), .int 118, .ref 70], m)) rfl ?_
      rw [hU]
      refine mz_doQ (R := mz_r129) (as := [.int u]) (rest := [.int 118, .ref 70]) (r1 := some (.int (sm_abs u))) (m1 := m) mz_t129 mz_v129 rfl rfl rfl rfl rfl ((ct_size (m := m) u).deep (by decide)) ?_
      refine mz_go 2 (c' := (39, [some (.ref 65), some (.int (-1))], [.int (m 65 7), .int (sm_abs u), .int 118, .ref 70], m)) rfl ?_
      rw [hV]
      refine mz_doQ (R := mz_r129) (as := [.int v]) (rest := [.int (sm_abs u), .int 118, .ref 70]) (r1 := some (.int (sm_abs v))) (m1 := m) mz_t129 mz_v129 rfl rfl rfl rfl rfl ((ct_size (m := m) v).deep (by decide)) ?_
      refine mz_go 15 (c' := (76, [some (.ref 65), some (.int (-1))], [.int (m 65 8), .int 110, .ref 70], mz_up (mz_up m 70 118 ((sm_abs u) + (sm_abs v))) 70 114 999)) rfl ?_
      rw [hT]
      refine mz_go 3 (c' := (79, [some (.ref 65), some (.int (-1))], [.int 1, .ref 65], mz_up (mz_up (mz_up m 70 118 ((sm_abs u) + (sm_abs v))) 70 114 999) 70 110 t)) rfl ?_
      refine mz_doQ (R := mz_r173) (as := [.ref 65, .int 1]) (rest := []) (r1 := some (.int (sm_ev T (w 14) (w 15) (sm_nm ((sm_abs u) + (sm_abs v)) 999 t 0 0)))) (m1 := mz_set (mz_up (mz_up (mz_up m 70 118 ((sm_abs u) + (sm_abs v))) 70 114 999) 70 110 t) 71 g) mz_t173 mz_v173_65 rfl rfl rfl rfl rfl (E.deep (by decide)) ?_
      refine mz_go 2 (c' := (85, [some (.ref 65), some (.int (-1))], [.int 99, .int 0, .int (sm_ev T (w 14) (w 15) (sm_nm ((sm_abs u) + (sm_abs v)) 999 t 0 0))], mz_set (mz_up (mz_up (mz_up m 70 118 ((sm_abs u) + (sm_abs v))) 70 114 999) 70 110 t) 71 g)) rfl ?_
      refine mz_doQ (R := mz_r130) (as := [.int (sm_ev T (w 14) (w 15) (sm_nm ((sm_abs u) + (sm_abs v)) 999 t 0 0)), .int 0, .int 99]) (rest := []) (r1 := some (.int (sm_held (sm_ev T (w 14) (w 15) (sm_nm ((sm_abs u) + (sm_abs v)) 999 t 0 0)) 0 99))) (m1 := mz_set (mz_up (mz_up (mz_up m 70 118 ((sm_abs u) + (sm_abs v))) 70 114 999) 70 110 t) 71 g) mz_t130 mz_v130 rfl rfl rfl rfl rfl ((ct_held (m := mz_set (mz_up (mz_up (mz_up m 70 118 ((sm_abs u) + (sm_abs v))) 70 114 999) 70 110 t) 71 g) (sm_ev T (w 14) (w 15) (sm_nm ((sm_abs u) + (sm_abs v)) 999 t 0 0)) 0 99).deep (by decide)) ?_
      exact mz_ret rfl
    · obtain ⟨j, hj, hi, hf⟩ := sm_near_pos (by omega) hn0
      obtain ⟨F, hF⟩ : ∃ F, sm_far (w 4 j) (w 5 j) x y = F := ⟨_, rfl⟩
      rw [hF] at hf
      have hn : ∀ j, j < 3 → (mz_up (mz_up (mz_up m 70 118 ((sm_abs u) + (sm_abs v))) 70 114 F) 70 110 t) 70 (sm_ch1 j).toNatClampNeg = sm_nm ((sm_abs u) + (sm_abs v)) F t 0 0 j := by
        intro j hj
        rcases (show j = 0 ∨ j = 1 ∨ j = 2 by omega) with rfl | rfl | rfl
        · rw [show (sm_ch1 0).toNatClampNeg = 118 from by decide]
          rfl
        · rw [show (sm_ch1 1).toNatClampNeg = 114 from by decide]
          rfl
        · rw [show (sm_ch1 2).toNatClampNeg = 110 from by decide]
          rfl
      obtain ⟨g, E⟩ := ct_ev1 (w := w) (m := mz_up (mz_up (mz_up m 70 118 ((sm_abs u) + (sm_abs v))) 70 114 F) 70 110 t) hT1 hwf (by decide) ht1 sm_chs1 (sm_nm ((sm_abs u) + (sm_abs v)) F t 0 0) hn
      have hm : mz_up (mz_up (mz_up m 70 118 ((sm_abs u) + (sm_abs v))) 70 114 F) 70 110 t = mz_set m 70 ((mz_up (mz_up (mz_up m 70 118 ((sm_abs u) + (sm_abs v))) 70 114 F) 70 110 t) 70) := sm_of1 (fun i hi => by simp only [mz_up_ne hi])
      refine ⟨(mz_up (mz_up (mz_up m 70 118 ((sm_abs u) + (sm_abs v))) 70 114 F) 70 110 t) 70, g, ?_⟩
      rw [← hm]
      have hv : sm_rub w x y u v t = sm_held (sm_ev T (w 14) (w 15) (sm_nm ((sm_abs u) + (sm_abs v)) F t 0 0)) 0 99 := by
        unfold sm_rub sm_nearr
        rw [hcn, if_neg hn0, hf, hT1, if_neg (nI_nle (by omega) (by omega)), nI_clamp (by omega)]
      rw [hv]
      refine ⟨?_, rfl⟩
      refine mz_go 2 (c' := (2, [some (.ref 65), none], [.int 1, .ref 65], m)) rfl ?_
      refine mz_doQ (R := mz_r169) (as := [.ref 65, .int 1]) (rest := []) (r1 := some (.int 1)) (m1 := m) mz_t169 mz_v169_65 rfl rfl rfl rfl rfl ⟨?_, rfl⟩ ?_
      · refine mz_go 8 (c' := (13, [some (.ref 65), some (.int 1)], [.int (m 66 295)], m)) rfl ?_
        rw [hT2]
        refine mz_go 1 (c' := (if (nI T) ≤ 0 then 20 else 16, [some (.ref 65), some (.int 1)], [], m)) rfl ?_
        refine mz_ifF (show ¬ ((nI T) ≤ 0) from (sm_nleN rfl rfl (show 0 < T by omega) (show T < 2 ^ 31 by omega))) ?_
        refine mz_go 2 (c' := (21, [some (.ref 65), some (.int 1)], [.int 1], m)) rfl ?_
        exact mz_ret rfl
      refine mz_go 3 (c' := (18, [some (.ref 65), none], [.int 1, .ref 65], m)) rfl ?_
      refine mz_doQ (R := mz_r148) (as := [.ref 65, .int 1]) (rest := []) (r1 := some (.int ((sm_near (w 3) (w 4) (w 5) x y false N).1))) (m1 := m) mz_t148 mz_v148_65 rfl rfl rfl rfl rfl ((ct_nearx1 (w := w) (m := m) hw2 hr2 hX hY).deep (by decide)) ?_
      rw [hi]
      refine mz_go 6 (c' := (32, [some (.ref 65), some (.int (nI j))], [.int (m 65 6), .int 118, .ref 70], m)) rfl ?_
      rw [hU]
      refine mz_doQ (R := mz_r129) (as := [.int u]) (rest := [.int 118, .ref 70]) (r1 := some (.int (sm_abs u))) (m1 := m) mz_t129 mz_v129 rfl rfl rfl rfl rfl ((ct_size (m := m) u).deep (by decide)) ?_
      refine mz_go 2 (c' := (39, [some (.ref 65), some (.int (nI j))], [.int (m 65 7), .int (sm_abs u), .int 118, .ref 70], m)) rfl ?_
      rw [hV]
      refine mz_doQ (R := mz_r129) (as := [.int v]) (rest := [.int (sm_abs u), .int 118, .ref 70]) (r1 := some (.int (sm_abs v))) (m1 := m) mz_t129 mz_v129 rfl rfl rfl rfl rfl ((ct_size (m := m) v).deep (by decide)) ?_
      refine mz_go 7 (c' := (if 0 ≤ (nI j) then 60 else 54, [some (.ref 65), some (.int (nI j))], [.int 114, .ref 70], mz_up m 70 118 ((sm_abs u) + (sm_abs v)))) rfl ?_
      refine mz_ifT (show (0 ≤ (nI j)) from (sm_leN rfl rfl (show 0 ≤ j by omega) (show j < 2 ^ 31 by omega))) ?_
      refine mz_go 2 (c' := (62, [some (.ref 65), some (.int (nI j))], [.int (nI j), .ref 65, .int 114, .ref 70], mz_up m 70 118 ((sm_abs u) + (sm_abs v)))) rfl ?_
      refine mz_doQ (R := mz_r147) (as := [.ref 65, .int (nI j)]) (rest := [.int 114, .ref 70]) (r1 := some (.int (sm_far (w 4 j) (w 5 j) x y))) (m1 := mz_up m 70 118 ((sm_abs u) + (sm_abs v))) mz_t147 mz_v147_65 rfl rfl rfl rfl rfl ((ct_farx (w := w) (m := mz_up m 70 118 ((sm_abs u) + (sm_abs v))) hr2 (show j < 6 by omega) hX hY).deep (by decide)) ?_
      rw [hF]
      refine mz_go 6 (c' := (76, [some (.ref 65), some (.int (nI j))], [.int (m 65 8), .int 110, .ref 70], mz_up (mz_up m 70 118 ((sm_abs u) + (sm_abs v))) 70 114 F)) rfl ?_
      rw [hT]
      refine mz_go 3 (c' := (79, [some (.ref 65), some (.int (nI j))], [.int 1, .ref 65], mz_up (mz_up (mz_up m 70 118 ((sm_abs u) + (sm_abs v))) 70 114 F) 70 110 t)) rfl ?_
      refine mz_doQ (R := mz_r173) (as := [.ref 65, .int 1]) (rest := []) (r1 := some (.int (sm_ev T (w 14) (w 15) (sm_nm ((sm_abs u) + (sm_abs v)) F t 0 0)))) (m1 := mz_set (mz_up (mz_up (mz_up m 70 118 ((sm_abs u) + (sm_abs v))) 70 114 F) 70 110 t) 71 g) mz_t173 mz_v173_65 rfl rfl rfl rfl rfl (E.deep (by decide)) ?_
      refine mz_go 2 (c' := (85, [some (.ref 65), some (.int (nI j))], [.int 99, .int 0, .int (sm_ev T (w 14) (w 15) (sm_nm ((sm_abs u) + (sm_abs v)) F t 0 0))], mz_set (mz_up (mz_up (mz_up m 70 118 ((sm_abs u) + (sm_abs v))) 70 114 F) 70 110 t) 71 g)) rfl ?_
      refine mz_doQ (R := mz_r130) (as := [.int (sm_ev T (w 14) (w 15) (sm_nm ((sm_abs u) + (sm_abs v)) F t 0 0)), .int 0, .int 99]) (rest := []) (r1 := some (.int (sm_held (sm_ev T (w 14) (w 15) (sm_nm ((sm_abs u) + (sm_abs v)) F t 0 0)) 0 99))) (m1 := mz_set (mz_up (mz_up (mz_up m 70 118 ((sm_abs u) + (sm_abs v))) 70 114 F) 70 110 t) 71 g) mz_t130 mz_v130 rfl rfl rfl rfl rfl ((ct_held (m := mz_set (mz_up (mz_up (mz_up m 70 118 ((sm_abs u) + (sm_abs v))) 70 114 F) 70 110 t) 71 g) (sm_ev T (w 14) (w 15) (sm_nm ((sm_abs u) + (sm_abs v)) F t 0 0)) 0 99).deep (by decide)) ?_
      exact mz_ret rfl
set_option maxHeartbeats 4000000 in
set_option maxRecDepth 100000 in
theorem ct_tickl {w m : mz_M} {N : Nat} (hw : sm_W w N) (hr : sm_HR w (m 66)) {x y u v t f : Int32} (hx : sm_B 1600 x) (hy : sm_B 1600 y) (hf : ¬ f = 0) : ∀ n k : Nat, k + n = N → ∀ (r a b : Nat → Int32) (l3 l4 : Option Value), r 4 = x → r 5 = y → r 8 = t → r 6 = (sm_uv w f x y u v t k).1 → r 7 = (sm_uv w f x y u v t k).2 → (∀ k, k < 4 ∨ 8 < k → r k = m 65 k) → ∃ (r' a' b' : Nat → Int32) (o3 o4 : Option Value), (r' 4 = x ∧ r' 5 = y ∧ r' 8 = t ∧ r' 6 = (sm_uv w f x y u v t N).1 ∧ r' 7 = (sm_uv w f x y u v t N).2) ∧ (∀ k, k < 4 ∨ 8 < k → r' k = m 65 k) ∧ ∀ res, mz_Ex 30 mz_k152 (96, [some (.ref 65), some (.int f), some (.int (nI N)), o3, o4], [], mz_set (mz_set (mz_set m 65 r') 70 a') 71 b') res → mz_Ex 30 mz_k152 (2, [some (.ref 65), some (.int f), some (.int (nI k)), l3, l4], [], mz_set (mz_set (mz_set m 65 r) 70 a) 71 b) res := by
  have hw2 := hw
  have hr2 := hr
  obtain ⟨hN, h4, hb, hx0, hx1⟩ := hw
  obtain ⟨hr0, hrk, hrr, ht0, ht1, ht2⟩ := hr
  have h0 : m 66 0 = nI N := hr0.trans h4
  intro n
  induction n with
  | zero =>
    intro k hk r a b l3 l4 hr4 hr5 hr8 hr6 hr7 hkp
    have hk2 : k = N := by omega
    subst hk2
    refine ⟨r, a, b, l3, l4, ⟨hr4, hr5, hr8, hr6, hr7⟩, hkp, fun res hr => ?_⟩
    refine mz_go 5 (c' := (9, [some (.ref 65), some (.int f), some (.int (nI k)), l3, l4], [.int (m 66 0), .int (nI k)], mz_set (mz_set (mz_set m 65 r) 70 a) 71 b)) rfl ?_
    rw [h0]
    refine mz_go 1 (c' := (if (nI k) ≤ (nI k) then 96 else 12, [some (.ref 65), some (.int f), some (.int (nI k)), l3, l4], [], mz_set (mz_set (mz_set m 65 r) 70 a) 71 b)) rfl ?_
    refine mz_ifT (show ((nI k) ≤ (nI k)) from (sm_leN rfl rfl (show k ≤ k by omega) (show k < 2 ^ 31 by omega))) ?_
    exact hr
  | succ n ih =>
    intro k hk r a b l3 l4 hr4 hr5 hr8 hr6 hr7 hkp
    have hbk := hb k (by omega)
    have hfn := sm_far_N hbk.2.1 hbk.2.2.1 hx hy
    obtain ⟨a2, b2, E1⟩ := ct_pull (w := w) (m := mz_set (mz_set (mz_set m 65 r) 70 a) 71 b) hw2 hr2 (show k < N by omega) hr4 hr5 hr8 hx hy
    obtain ⟨U, hU⟩ : ∃ U, (sm_uv w f x y u v t k).1 = U := ⟨_, rfl⟩
    obtain ⟨V, hV⟩ : ∃ V, (sm_uv w f x y u v t k).2 = V := ⟨_, rfl⟩
    obtain ⟨F, hF⟩ : ∃ F, sm_far (w 4 k) (w 5 k) x y = F := ⟨_, rfl⟩
    obtain ⟨q, hq⟩ : ∃ q, sm_pull w k x y t = q := ⟨_, rfl⟩
    obtain ⟨px, hpx⟩ : ∃ p, w 4 k = p := ⟨_, rfl⟩
    obtain ⟨py, hpy⟩ : ∃ p, w 5 k = p := ⟨_, rfl⟩
    rw [hU] at hr6
    rw [hV] at hr7
    rw [hF] at hfn
    have hby := sm_by hfn
    have e1 : (sm_uv w f x y u v t (k + 1)).1 = U + (16 * px - x) * q / (16 * (F + 1)) / f := by
      subst hq hF hU hpx
      rfl
    have e2 : (sm_uv w f x y u v t (k + 1)).2 = V + (16 * py - y) * q / (16 * (F + 1)) / f := by
      subst hq hF hV hpy
      rfl
    obtain ⟨r', a', b', o3, o4, hh, hkp', E⟩ := ih (k + 1) (by omega) ((mz_up (mz_up (mz_set (mz_set (mz_set (mz_set (mz_set m 65 r) 70 a) 71 b) 70 a2) 71 b2) 65 6 (U + (((((16 * px) - x) * q) / (16 * (F + 1))) / f))) 65 7 (V + (((((16 * py) - y) * q) / (16 * (F + 1))) / f))) 65) ((mz_up (mz_up (mz_set (mz_set (mz_set (mz_set (mz_set m 65 r) 70 a) 71 b) 70 a2) 71 b2) 65 6 (U + (((((16 * px) - x) * q) / (16 * (F + 1))) / f))) 65 7 (V + (((((16 * py) - y) * q) / (16 * (F + 1))) / f))) 70) ((mz_up (mz_up (mz_set (mz_set (mz_set (mz_set (mz_set m 65 r) 70 a) 71 b) 70 a2) 71 b2) 65 6 (U + (((((16 * px) - x) * q) / (16 * (F + 1))) / f))) 65 7 (V + (((((16 * py) - y) * q) / (16 * (F + 1))) / f))) 71) (some (.int q)) (some (.int (16 * (F + 1)))) hr4 hr5 hr8 e1.symm e2.symm (fun i hi => by
      rw [mz_up_eq, if_neg (by omega), mz_up_eq, if_neg (by omega)]
      exact hkp i hi)
    rw [nI_succ k, ← sm_of3 (m := m) (m' := mz_up (mz_up (mz_set (mz_set (mz_set (mz_set (mz_set m 65 r) 70 a) 71 b) 70 a2) 71 b2) 65 6 (U + (((((16 * px) - x) * q) / (16 * (F + 1))) / f))) 65 7 (V + (((((16 * py) - y) * q) / (16 * (F + 1))) / f))) (fun i h1 h2 h3 => by simp only [mz_up_ne h1, mz_set_ne h1, mz_set_ne h2, mz_set_ne h3])] at E
    refine ⟨r', a', b', o3, o4, hh, hkp', fun res hr => ?_⟩
    replace E := E res hr
    refine mz_go 5 (c' := (9, [some (.ref 65), some (.int f), some (.int (nI k)), l3, l4], [.int (m 66 0), .int (nI k)], mz_set (mz_set (mz_set m 65 r) 70 a) 71 b)) rfl ?_
    rw [h0]
    refine mz_go 1 (c' := (if (nI N) ≤ (nI k) then 96 else 12, [some (.ref 65), some (.int f), some (.int (nI k)), l3, l4], [], mz_set (mz_set (mz_set m 65 r) 70 a) 71 b)) rfl ?_
    refine mz_ifF (show ¬ ((nI N) ≤ (nI k)) from (sm_nleN rfl rfl (show k < N by omega) (show N < 2 ^ 31 by omega))) ?_
    refine mz_go 2 (c' := (14, [some (.ref 65), some (.int f), some (.int (nI k)), l3, l4], [.int (nI k), .ref 65], mz_set (mz_set (mz_set m 65 r) 70 a) 71 b)) rfl ?_
    refine mz_doQ (R := mz_r150) (as := [.ref 65, .int (nI k)]) (rest := []) (r1 := some (.int (sm_pull w k x y t))) (m1 := mz_set (mz_set (mz_set (mz_set (mz_set m 65 r) 70 a) 71 b) 70 a2) 71 b2) mz_t150 mz_v150_65 rfl rfl rfl rfl rfl (E1.deep (by decide)) ?_
    rw [hq]
    refine mz_go 4 (c' := (22, [some (.ref 65), some (.int f), some (.int (nI k)), some (.int q), l4], [.int (nI k), .ref 65, .int 16], mz_set (mz_set (mz_set (mz_set (mz_set m 65 r) 70 a) 71 b) 70 a2) 71 b2)) rfl ?_
    refine mz_doQ (R := mz_r147) (as := [.ref 65, .int (nI k)]) (rest := [.int 16]) (r1 := some (.int (sm_far (w 4 k) (w 5 k) x y))) (m1 := mz_set (mz_set (mz_set (mz_set (mz_set m 65 r) 70 a) 71 b) 70 a2) 71 b2) mz_t147 mz_v147_65 rfl rfl rfl rfl rfl ((ct_farx (w := w) (m := mz_set (mz_set (mz_set (mz_set (mz_set m 65 r) 70 a) 71 b) 70 a2) 71 b2) hr2 (show k < 6 by omega) hr4 hr5).deep (by decide)) ?_
    rw [hF]
    refine mz_go 7 (c' := (35, [some (.ref 65), some (.int f), some (.int (nI k)), some (.int q), some (.int (16 * (F + 1)))], [.int (r 6), .ref 65], mz_set (mz_set (mz_set (mz_set (mz_set m 65 r) 70 a) 71 b) 70 a2) 71 b2)) rfl ?_
    rw [hr6]
    refine mz_go 4 (c' := (40, [some (.ref 65), some (.int f), some (.int (nI k)), some (.int q), some (.int (16 * (F + 1)))], [.int 1, .int (nI k), .ref 65, .int 16, .int U, .ref 65], mz_set (mz_set (mz_set (mz_set (mz_set m 65 r) 70 a) 71 b) 70 a2) 71 b2)) rfl ?_
    refine mz_doQ (R := mz_r133) (as := [.ref 65, .int (nI k), .int 1]) (rest := [.int 16, .int U, .ref 65]) (r1 := some (.int (w 4 k))) (m1 := mz_set (mz_set (mz_set (mz_set (mz_set m 65 r) 70 a) 71 b) 70 a2) 71 b2) mz_t133 mz_v133_65 rfl rfl rfl rfl rfl ((ct_its1 (w := w) (m := mz_set (mz_set (mz_set (mz_set (mz_set m 65 r) 70 a) 71 b) 70 a2) 71 b2) hr2 (show k < 6 by omega)).deep (by decide)) ?_
    rw [hpx]
    refine mz_go 3 (c' := (48, [some (.ref 65), some (.int f), some (.int (nI k)), some (.int q), some (.int (16 * (F + 1)))], [.int (r 4), .int (16 * px), .int U, .ref 65], mz_set (mz_set (mz_set (mz_set (mz_set m 65 r) 70 a) 71 b) 70 a2) 71 b2)) rfl ?_
    rw [hr4]
    refine mz_go 4 (c' := (53, [some (.ref 65), some (.int f), some (.int (nI k)), some (.int q), some (.int (16 * (F + 1)))], [.int (16 * (F + 1)), .int (((16 * px) - x) * q), .int U, .ref 65], mz_set (mz_set (mz_set (mz_set (mz_set m 65 r) 70 a) 71 b) 70 a2) 71 b2)) rfl ?_
    refine mz_div (c' := (54, [some (.ref 65), some (.int f), some (.int (nI k)), some (.int q), some (.int (16 * (F + 1)))], [.int ((((16 * px) - x) * q) / (16 * (F + 1))), .int U, .ref 65], mz_set (mz_set (mz_set (mz_set (mz_set m 65 r) 70 a) 71 b) 70 a2) 71 b2)) rfl hby.1 ?_
    refine mz_go 1 (c' := (55, [some (.ref 65), some (.int f), some (.int (nI k)), some (.int q), some (.int (16 * (F + 1)))], [.int f, .int ((((16 * px) - x) * q) / (16 * (F + 1))), .int U, .ref 65], mz_set (mz_set (mz_set (mz_set (mz_set m 65 r) 70 a) 71 b) 70 a2) 71 b2)) rfl ?_
    refine mz_div (c' := (56, [some (.ref 65), some (.int f), some (.int (nI k)), some (.int q), some (.int (16 * (F + 1)))], [.int (((((16 * px) - x) * q) / (16 * (F + 1))) / f), .int U, .ref 65], mz_set (mz_set (mz_set (mz_set (mz_set m 65 r) 70 a) 71 b) 70 a2) 71 b2)) rfl hf ?_
    refine mz_go 5 (c' := (65, [some (.ref 65), some (.int f), some (.int (nI k)), some (.int q), some (.int (16 * (F + 1)))], [.int (r 7), .ref 65], mz_up (mz_set (mz_set (mz_set (mz_set (mz_set m 65 r) 70 a) 71 b) 70 a2) 71 b2) 65 6 (U + (((((16 * px) - x) * q) / (16 * (F + 1))) / f)))) rfl ?_
    rw [hr7]
    refine mz_go 4 (c' := (70, [some (.ref 65), some (.int f), some (.int (nI k)), some (.int q), some (.int (16 * (F + 1)))], [.int 2, .int (nI k), .ref 65, .int 16, .int V, .ref 65], mz_up (mz_set (mz_set (mz_set (mz_set (mz_set m 65 r) 70 a) 71 b) 70 a2) 71 b2) 65 6 (U + (((((16 * px) - x) * q) / (16 * (F + 1))) / f)))) rfl ?_
    refine mz_doQ (R := mz_r133) (as := [.ref 65, .int (nI k), .int 2]) (rest := [.int 16, .int V, .ref 65]) (r1 := some (.int (w 5 k))) (m1 := mz_up (mz_set (mz_set (mz_set (mz_set (mz_set m 65 r) 70 a) 71 b) 70 a2) 71 b2) 65 6 (U + (((((16 * px) - x) * q) / (16 * (F + 1))) / f))) mz_t133 mz_v133_65 rfl rfl rfl rfl rfl ((ct_its2 (w := w) (m := mz_up (mz_set (mz_set (mz_set (mz_set (mz_set m 65 r) 70 a) 71 b) 70 a2) 71 b2) 65 6 (U + (((((16 * px) - x) * q) / (16 * (F + 1))) / f))) hr2 (show k < 6 by omega)).deep (by decide)) ?_
    rw [hpy]
    refine mz_go 3 (c' := (78, [some (.ref 65), some (.int f), some (.int (nI k)), some (.int q), some (.int (16 * (F + 1)))], [.int (r 5), .int (16 * py), .int V, .ref 65], mz_up (mz_set (mz_set (mz_set (mz_set (mz_set m 65 r) 70 a) 71 b) 70 a2) 71 b2) 65 6 (U + (((((16 * px) - x) * q) / (16 * (F + 1))) / f)))) rfl ?_
    rw [hr5]
    refine mz_go 4 (c' := (83, [some (.ref 65), some (.int f), some (.int (nI k)), some (.int q), some (.int (16 * (F + 1)))], [.int (16 * (F + 1)), .int (((16 * py) - y) * q), .int V, .ref 65], mz_up (mz_set (mz_set (mz_set (mz_set (mz_set m 65 r) 70 a) 71 b) 70 a2) 71 b2) 65 6 (U + (((((16 * px) - x) * q) / (16 * (F + 1))) / f)))) rfl ?_
    refine mz_div (c' := (84, [some (.ref 65), some (.int f), some (.int (nI k)), some (.int q), some (.int (16 * (F + 1)))], [.int ((((16 * py) - y) * q) / (16 * (F + 1))), .int V, .ref 65], mz_up (mz_set (mz_set (mz_set (mz_set (mz_set m 65 r) 70 a) 71 b) 70 a2) 71 b2) 65 6 (U + (((((16 * px) - x) * q) / (16 * (F + 1))) / f)))) rfl hby.1 ?_
    refine mz_go 1 (c' := (85, [some (.ref 65), some (.int f), some (.int (nI k)), some (.int q), some (.int (16 * (F + 1)))], [.int f, .int ((((16 * py) - y) * q) / (16 * (F + 1))), .int V, .ref 65], mz_up (mz_set (mz_set (mz_set (mz_set (mz_set m 65 r) 70 a) 71 b) 70 a2) 71 b2) 65 6 (U + (((((16 * px) - x) * q) / (16 * (F + 1))) / f)))) rfl ?_
    refine mz_div (c' := (86, [some (.ref 65), some (.int f), some (.int (nI k)), some (.int q), some (.int (16 * (F + 1)))], [.int (((((16 * py) - y) * q) / (16 * (F + 1))) / f), .int V, .ref 65], mz_up (mz_set (mz_set (mz_set (mz_set (mz_set m 65 r) 70 a) 71 b) 70 a2) 71 b2) 65 6 (U + (((((16 * px) - x) * q) / (16 * (F + 1))) / f)))) rfl hf ?_
    refine mz_go 4 (c' := (2, [some (.ref 65), some (.int f), some (.int ((nI k) + 1)), some (.int q), some (.int (16 * (F + 1)))], [], mz_up (mz_up (mz_set (mz_set (mz_set (mz_set (mz_set m 65 r) 70 a) 71 b) 70 a2) 71 b2) 65 6 (U + (((((16 * px) - x) * q) / (16 * (F + 1))) / f))) 65 7 (V + (((((16 * py) - y) * q) / (16 * (F + 1))) / f)))) rfl ?_
    exact E
set_option maxHeartbeats 4000000 in
set_option maxRecDepth 100000 in
theorem ct_tick {w m : mz_M} {N : Nat} (hw : sm_W w N) (hr : sm_HR w (m 66)) {f : Int32} (hfi : f = 1 ∨ f = 2 ∨ f = 4) {B : Nat → Int32} (hB : sm_like (fun k => m 65 (4 + k)) B) (hx : sm_B 1600 (B 0)) (hy : sm_B 1600 (B 1)) : ∃ r a b, sm_like (fun k => r (4 + k)) (sm_tick w f B) ∧ (∀ k, k < 4 ∨ 8 < k → r k = m 65 k) ∧ mz_Me 30 mz_r152 [.ref 65, .int f] m none (mz_set (mz_set (mz_set m 65 r) 70 a) 71 b) := by
  have hw2 := hw
  have hr2 := hr
  obtain ⟨hN, h4, hb, hx0, hx1⟩ := hw
  obtain ⟨hr0, hrk, hrr, ht0, ht1, ht2⟩ := hr
  have h0 : m 66 0 = nI N := hr0.trans h4
  have hcn := sm_cntN hN h4
  have h70 : m 66 10 = w 7 0 := hrr 0 (by decide)
  have hf : ¬ f = 0 := by
    rcases hfi with rfl | rfl | rfl <;> decide
  obtain ⟨r', a', b', o3, o4, hh, hkp, E1⟩ := ct_tickl hw2 hr2 (u := B 2) (v := B 3) (t := B 4) hx hy hf N 0 (by omega) (m 65) (m 70) (m 71) none none hB.1 hB.2.1 hB.2.2.2.2 hB.2.2.1 hB.2.2.2.1 (fun _ _ => rfl)
  have hid : mz_set (mz_set (mz_set m 65 (m 65)) 70 (m 70)) 71 (m 71) = m := by rw [sm_id, sm_id, sm_id]
  rw [hid] at E1
  obtain ⟨p1, hp1⟩ : ∃ p, (sm_uv w f (B 0) (B 1) (B 2) (B 3) (B 4) N).1 = p := ⟨_, rfl⟩
  obtain ⟨p2, hp2⟩ : ∃ p, (sm_uv w f (B 0) (B 1) (B 2) (B 3) (B 4) N).2 = p := ⟨_, rfl⟩
  have hh2 : r' 6 = p1 := hh.2.2.2.1.trans hp1
  have hh3 : r' 7 = p2 := hh.2.2.2.2.trans hp2
  obtain ⟨gu, hgu⟩ : ∃ p, sm_gu w f B = p := ⟨_, rfl⟩
  obtain ⟨gv, hgv⟩ : ∃ p, sm_gv w f B = p := ⟨_, rfl⟩
  have egu : p1 - (B 0 * w 7 0 / 1600 / f) = gu := by
    rw [← hgu, ← hp1, ← hcn]
    rfl
  have egv : p2 - (B 1 * w 7 0 / 1600 / f) = gv := by
    rw [← hgv, ← hp2, ← hcn]
    rfl
  obtain ⟨rb, hrb⟩ : ∃ p, sm_rb w f B = p := ⟨_, rfl⟩
  obtain ⟨ru, eru⟩ : ∃ p, gu - (gu * rb / 100 / f) = p := ⟨_, rfl⟩
  obtain ⟨rv, erv⟩ : ∃ p, gv - (gv * rb / 100 / f) = p := ⟨_, rfl⟩
  obtain ⟨X, eX⟩ : ∃ p, B 0 + ru / f = p := ⟨_, rfl⟩
  obtain ⟨Y, eY⟩ : ∃ p, B 1 + rv / f = p := ⟨_, rfl⟩
  obtain ⟨a3, b3, E3⟩ := ct_rub (w := w) (m := mz_up (mz_up (mz_set (mz_set (mz_set m 65 r') 70 a') 71 b') 65 6 gu) 65 7 gv) hw2 hr2 hh.1 hh.2.1 hh.2.2.1 (u := gu) (v := gv) rfl rfl
  have E3e : sm_rub w (B 0) (B 1) gu gv (B 4) = rb := by
    rw [← hrb, ← hgu, ← hgv]
    rfl
  rw [E3e] at E3
  have g0 : sm_tick w f B = fun k => if k = 4 then B 4 + 1 else sm_gof f (sm_bob (B 0) (B 1) ru rv (B 4)) k := by
    unfold sm_tick sm_ru
    rw [hrb, hgu, hgv, eru, erv]
  by_cases c1 : sm_held X (-1600) 1600 = X
  · by_cases c2 : sm_held Y (-1600) 1600 = Y
    · refine ⟨(mz_up (mz_up (mz_up (mz_up (mz_up (mz_up (mz_up (mz_set (mz_set (mz_up (mz_up (mz_set (mz_set (mz_set m 65 r') 70 a') 71 b') 65 6 gu) 65 7 gv) 70 a3) 71 b3) 65 6 ru) 65 7 rv) 65 4 (sm_held X (-1600) 1600)) 65 5 (sm_held Y (-1600) 1600)) 65 6 ru) 65 7 rv) 65 8 ((B 4) + 1)) 65, (mz_up (mz_up (mz_up (mz_up (mz_up (mz_up (mz_up (mz_set (mz_set (mz_up (mz_up (mz_set (mz_set (mz_set m 65 r') 70 a') 71 b') 65 6 gu) 65 7 gv) 70 a3) 71 b3) 65 6 ru) 65 7 rv) 65 4 (sm_held X (-1600) 1600)) 65 5 (sm_held Y (-1600) 1600)) 65 6 ru) 65 7 rv) 65 8 ((B 4) + 1)) 70, (mz_up (mz_up (mz_up (mz_up (mz_up (mz_up (mz_up (mz_set (mz_set (mz_up (mz_up (mz_set (mz_set (mz_set m 65 r') 70 a') 71 b') 65 6 gu) 65 7 gv) 70 a3) 71 b3) 65 6 ru) 65 7 rv) 65 4 (sm_held X (-1600) 1600)) 65 5 (sm_held Y (-1600) 1600)) 65 6 ru) 65 7 rv) 65 8 ((B 4) + 1)) 71, ?_, ?_, ?_⟩
      · rw [g0]
        exact sm_tkL eX eY rfl rfl (by rw [if_pos c1]; rfl) (by rw [if_pos c2]; rfl) rfl
      · intro i hi
        simp only [mz_up_eq]
        simp only [show i ≠ 4 by omega, show i ≠ 5 by omega, show i ≠ 6 by omega, show i ≠ 7 by omega, show i ≠ 8 by omega, if_false]
        rw [mz_set_ne (show (65 : Nat) ≠ 71 by decide), mz_set_ne (show (65 : Nat) ≠ 70 by decide), mz_up_eq, if_neg (by omega), mz_up_eq, if_neg (by omega)]
        exact hkp i hi
      · rw [← sm_of3 (m := m) (m' := mz_up (mz_up (mz_up (mz_up (mz_up (mz_up (mz_up (mz_set (mz_set (mz_up (mz_up (mz_set (mz_set (mz_set m 65 r') 70 a') 71 b') 65 6 gu) 65 7 gv) 70 a3) 71 b3) 65 6 ru) 65 7 rv) 65 4 (sm_held X (-1600) 1600)) 65 5 (sm_held Y (-1600) 1600)) 65 6 ru) 65 7 rv) 65 8 ((B 4) + 1)) (fun i h1 h2 h3 => by simp only [mz_up_ne h1, mz_set_ne h1, mz_set_ne h2, mz_set_ne h3])]
        refine ⟨?_, rfl⟩
        refine mz_go 2 (c' := (2, [some (.ref 65), some (.int f), some (.int (nI 0)), none, none], [], m)) rfl ?_
        refine E1 _ ?_
        refine mz_go 3 (c' := (101, [some (.ref 65), some (.int f), some (.int (nI N)), o3, o4], [.int (r' 6), .ref 65], mz_set (mz_set (mz_set m 65 r') 70 a') 71 b')) rfl ?_
        rw [hh2]
        refine mz_go 2 (c' := (105, [some (.ref 65), some (.int f), some (.int (nI N)), o3, o4], [.int (r' 4), .int p1, .ref 65], mz_set (mz_set (mz_set m 65 r') 70 a') 71 b')) rfl ?_
        rw [hh.1]
        refine mz_go 4 (c' := (112, [some (.ref 65), some (.int f), some (.int (nI N)), o3, o4], [.int (m 66 10), .int (B 0), .int p1, .ref 65], mz_set (mz_set (mz_set m 65 r') 70 a') 71 b')) rfl ?_
        rw [h70]
        refine mz_go 4 (c' := (118, [some (.ref 65), some (.int f), some (.int (nI N)), o3, o4], [.int f, .int (((B 0) * (w 7 0)) / 1600), .int p1, .ref 65], mz_set (mz_set (mz_set m 65 r') 70 a') 71 b')) rfl ?_
        refine mz_div (c' := (119, [some (.ref 65), some (.int f), some (.int (nI N)), o3, o4], [.int ((((B 0) * (w 7 0)) / 1600) / f), .int p1, .ref 65], mz_set (mz_set (mz_set m 65 r') 70 a') 71 b')) rfl hf ?_
        refine mz_go 1 (c' := (120, [some (.ref 65), some (.int f), some (.int (nI N)), o3, o4], [.int (p1 - ((((B 0) * (w 7 0)) / 1600) / f)), .ref 65], mz_set (mz_set (mz_set m 65 r') 70 a') 71 b')) rfl ?_
        rw [egu]
        refine mz_go 4 (c' := (128, [some (.ref 65), some (.int f), some (.int (nI N)), o3, o4], [.int (r' 7), .ref 65], mz_up (mz_set (mz_set (mz_set m 65 r') 70 a') 71 b') 65 6 gu)) rfl ?_
        rw [hh3]
        refine mz_go 2 (c' := (132, [some (.ref 65), some (.int f), some (.int (nI N)), o3, o4], [.int (r' 5), .int p2, .ref 65], mz_up (mz_set (mz_set (mz_set m 65 r') 70 a') 71 b') 65 6 gu)) rfl ?_
        rw [hh.2.1]
        refine mz_go 4 (c' := (139, [some (.ref 65), some (.int f), some (.int (nI N)), o3, o4], [.int (m 66 10), .int (B 1), .int p2, .ref 65], mz_up (mz_set (mz_set (mz_set m 65 r') 70 a') 71 b') 65 6 gu)) rfl ?_
        rw [h70]
        refine mz_go 4 (c' := (145, [some (.ref 65), some (.int f), some (.int (nI N)), o3, o4], [.int f, .int (((B 1) * (w 7 0)) / 1600), .int p2, .ref 65], mz_up (mz_set (mz_set (mz_set m 65 r') 70 a') 71 b') 65 6 gu)) rfl ?_
        refine mz_div (c' := (146, [some (.ref 65), some (.int f), some (.int (nI N)), o3, o4], [.int ((((B 1) * (w 7 0)) / 1600) / f), .int p2, .ref 65], mz_up (mz_set (mz_set (mz_set m 65 r') 70 a') 71 b') 65 6 gu)) rfl hf ?_
        refine mz_go 1 (c' := (147, [some (.ref 65), some (.int f), some (.int (nI N)), o3, o4], [.int (p2 - ((((B 1) * (w 7 0)) / 1600) / f)), .ref 65], mz_up (mz_set (mz_set (mz_set m 65 r') 70 a') 71 b') 65 6 gu)) rfl ?_
        rw [egv]
        refine mz_go 2 (c' := (151, [some (.ref 65), some (.int f), some (.int (nI N)), o3, o4], [.ref 65], mz_up (mz_up (mz_set (mz_set (mz_set m 65 r') 70 a') 71 b') 65 6 gu) 65 7 gv)) rfl ?_
        refine mz_doQ (R := mz_r151) (as := [.ref 65]) (rest := []) (r1 := some (.int rb)) (m1 := mz_set (mz_set (mz_up (mz_up (mz_set (mz_set (mz_set m 65 r') 70 a') 71 b') 65 6 gu) 65 7 gv) 70 a3) 71 b3) mz_t151 mz_v151_65 rfl rfl rfl rfl rfl (E3.deep (by decide)) ?_
        refine mz_go 11 (c' := (170, [some (.ref 65), some (.int f), some (.int rb), o3, o4], [.int f, .int ((gu * rb) / 100), .int gu, .ref 65], mz_set (mz_set (mz_up (mz_up (mz_set (mz_set (mz_set m 65 r') 70 a') 71 b') 65 6 gu) 65 7 gv) 70 a3) 71 b3)) rfl ?_
        refine mz_div (c' := (171, [some (.ref 65), some (.int f), some (.int rb), o3, o4], [.int (((gu * rb) / 100) / f), .int gu, .ref 65], mz_set (mz_set (mz_up (mz_up (mz_set (mz_set (mz_set m 65 r') 70 a') 71 b') 65 6 gu) 65 7 gv) 70 a3) 71 b3)) rfl hf ?_
        refine mz_go 1 (c' := (172, [some (.ref 65), some (.int f), some (.int rb), o3, o4], [.int (gu - (((gu * rb) / 100) / f)), .ref 65], mz_set (mz_set (mz_up (mz_up (mz_set (mz_set (mz_set m 65 r') 70 a') 71 b') 65 6 gu) 65 7 gv) 70 a3) 71 b3)) rfl ?_
        rw [eru]
        refine mz_go 11 (c' := (190, [some (.ref 65), some (.int f), some (.int rb), o3, o4], [.int f, .int ((gv * rb) / 100), .int gv, .ref 65], mz_up (mz_set (mz_set (mz_up (mz_up (mz_set (mz_set (mz_set m 65 r') 70 a') 71 b') 65 6 gu) 65 7 gv) 70 a3) 71 b3) 65 6 ru)) rfl ?_
        refine mz_div (c' := (191, [some (.ref 65), some (.int f), some (.int rb), o3, o4], [.int (((gv * rb) / 100) / f), .int gv, .ref 65], mz_up (mz_set (mz_set (mz_up (mz_up (mz_set (mz_set (mz_set m 65 r') 70 a') 71 b') 65 6 gu) 65 7 gv) 70 a3) 71 b3) 65 6 ru)) rfl hf ?_
        refine mz_go 1 (c' := (192, [some (.ref 65), some (.int f), some (.int rb), o3, o4], [.int (gv - (((gv * rb) / 100) / f)), .ref 65], mz_up (mz_set (mz_set (mz_up (mz_up (mz_set (mz_set (mz_set m 65 r') 70 a') 71 b') 65 6 gu) 65 7 gv) 70 a3) 71 b3) 65 6 ru)) rfl ?_
        rw [erv]
        refine mz_go 3 (c' := (199, [some (.ref 65), some (.int f), some (.int rb), o3, o4], [.int (r' 4)], mz_up (mz_up (mz_set (mz_set (mz_up (mz_up (mz_set (mz_set (mz_set m 65 r') 70 a') 71 b') 65 6 gu) 65 7 gv) 70 a3) 71 b3) 65 6 ru) 65 7 rv)) rfl ?_
        rw [hh.1]
        refine mz_go 3 (c' := (204, [some (.ref 65), some (.int f), some (.int rb), o3, o4], [.int f, .int ru, .int (B 0)], mz_up (mz_up (mz_set (mz_set (mz_up (mz_up (mz_set (mz_set (mz_set m 65 r') 70 a') 71 b') 65 6 gu) 65 7 gv) 70 a3) 71 b3) 65 6 ru) 65 7 rv)) rfl ?_
        refine mz_div (c' := (205, [some (.ref 65), some (.int f), some (.int rb), o3, o4], [.int (ru / f), .int (B 0)], mz_up (mz_up (mz_set (mz_set (mz_up (mz_up (mz_set (mz_set (mz_set m 65 r') 70 a') 71 b') 65 6 gu) 65 7 gv) 70 a3) 71 b3) 65 6 ru) 65 7 rv)) rfl hf ?_
        refine mz_go 1 (c' := (206, [some (.ref 65), some (.int f), some (.int rb), o3, o4], [.int ((B 0) + (ru / f))], mz_up (mz_up (mz_set (mz_set (mz_up (mz_up (mz_set (mz_set (mz_set m 65 r') 70 a') 71 b') 65 6 gu) 65 7 gv) 70 a3) 71 b3) 65 6 ru) 65 7 rv)) rfl ?_
        rw [eX]
        refine mz_go 3 (c' := (211, [some (.ref 65), some (.int f), some (.int rb), some (.int X), o4], [.int (r' 5)], mz_up (mz_up (mz_set (mz_set (mz_up (mz_up (mz_set (mz_set (mz_set m 65 r') 70 a') 71 b') 65 6 gu) 65 7 gv) 70 a3) 71 b3) 65 6 ru) 65 7 rv)) rfl ?_
        rw [hh.2.1]
        refine mz_go 3 (c' := (216, [some (.ref 65), some (.int f), some (.int rb), some (.int X), o4], [.int f, .int rv, .int (B 1)], mz_up (mz_up (mz_set (mz_set (mz_up (mz_up (mz_set (mz_set (mz_set m 65 r') 70 a') 71 b') 65 6 gu) 65 7 gv) 70 a3) 71 b3) 65 6 ru) 65 7 rv)) rfl ?_
        refine mz_div (c' := (217, [some (.ref 65), some (.int f), some (.int rb), some (.int X), o4], [.int (rv / f), .int (B 1)], mz_up (mz_up (mz_set (mz_set (mz_up (mz_up (mz_set (mz_set (mz_set m 65 r') 70 a') 71 b') 65 6 gu) 65 7 gv) 70 a3) 71 b3) 65 6 ru) 65 7 rv)) rfl hf ?_
        refine mz_go 1 (c' := (218, [some (.ref 65), some (.int f), some (.int rb), some (.int X), o4], [.int ((B 1) + (rv / f))], mz_up (mz_up (mz_set (mz_set (mz_up (mz_up (mz_set (mz_set (mz_set m 65 r') 70 a') 71 b') 65 6 gu) 65 7 gv) 70 a3) 71 b3) 65 6 ru) 65 7 rv)) rfl ?_
        rw [eY]
        refine mz_go 5 (c' := (228, [some (.ref 65), some (.int f), some (.int rb), some (.int X), some (.int Y)], [.int 1600, .int (-1600), .int X, .ref 65], mz_up (mz_up (mz_set (mz_set (mz_up (mz_up (mz_set (mz_set (mz_set m 65 r') 70 a') 71 b') 65 6 gu) 65 7 gv) 70 a3) 71 b3) 65 6 ru) 65 7 rv)) rfl ?_
        refine mz_doQ (R := mz_r130) (as := [.int X, .int (-1600), .int 1600]) (rest := [.ref 65]) (r1 := some (.int (sm_held X (-1600) 1600))) (m1 := mz_up (mz_up (mz_set (mz_set (mz_up (mz_up (mz_set (mz_set (mz_set m 65 r') 70 a') 71 b') 65 6 gu) 65 7 gv) 70 a3) 71 b3) 65 6 ru) 65 7 rv) mz_t130 mz_v130 rfl rfl rfl rfl rfl ((ct_held (m := mz_up (mz_up (mz_set (mz_set (mz_up (mz_up (mz_set (mz_set (mz_set m 65 r') 70 a') 71 b') 65 6 gu) 65 7 gv) 70 a3) 71 b3) 65 6 ru) 65 7 rv) X (-1600) 1600).deep (by decide)) ?_
        refine mz_go 5 (c' := (243, [some (.ref 65), some (.int f), some (.int rb), some (.int X), some (.int Y)], [.int 1600, .int (-1600), .int Y, .ref 65], mz_up (mz_up (mz_up (mz_set (mz_set (mz_up (mz_up (mz_set (mz_set (mz_set m 65 r') 70 a') 71 b') 65 6 gu) 65 7 gv) 70 a3) 71 b3) 65 6 ru) 65 7 rv) 65 4 (sm_held X (-1600) 1600))) rfl ?_
        refine mz_doQ (R := mz_r130) (as := [.int Y, .int (-1600), .int 1600]) (rest := [.ref 65]) (r1 := some (.int (sm_held Y (-1600) 1600))) (m1 := mz_up (mz_up (mz_up (mz_set (mz_set (mz_up (mz_up (mz_set (mz_set (mz_set m 65 r') 70 a') 71 b') 65 6 gu) 65 7 gv) 70 a3) 71 b3) 65 6 ru) 65 7 rv) 65 4 (sm_held X (-1600) 1600)) mz_t130 mz_v130 rfl rfl rfl rfl rfl ((ct_held (m := mz_up (mz_up (mz_up (mz_set (mz_set (mz_up (mz_up (mz_set (mz_set (mz_set m 65 r') 70 a') 71 b') 65 6 gu) 65 7 gv) 70 a3) 71 b3) 65 6 ru) 65 7 rv) 65 4 (sm_held X (-1600) 1600)) Y (-1600) 1600).deep (by decide)) ?_
        refine mz_go 6 (c' := (if (sm_held X (-1600) 1600) = X then 258 else 265, [some (.ref 65), some (.int f), some (.int rb), some (.int X), some (.int Y)], [.ref 65], mz_up (mz_up (mz_up (mz_up (mz_set (mz_set (mz_up (mz_up (mz_set (mz_set (mz_set m 65 r') 70 a') 71 b') 65 6 gu) 65 7 gv) 70 a3) 71 b3) 65 6 ru) 65 7 rv) 65 4 (sm_held X (-1600) 1600)) 65 5 (sm_held Y (-1600) 1600))) rfl ?_
        refine mz_ifT c1 ?_
        refine mz_go 9 (c' := (if (sm_held Y (-1600) 1600) = Y then 279 else 286, [some (.ref 65), some (.int f), some (.int rb), some (.int X), some (.int Y)], [.ref 65], mz_up (mz_up (mz_up (mz_up (mz_up (mz_set (mz_set (mz_up (mz_up (mz_set (mz_set (mz_set m 65 r') 70 a') 71 b') 65 6 gu) 65 7 gv) 70 a3) 71 b3) 65 6 ru) 65 7 rv) 65 4 (sm_held X (-1600) 1600)) 65 5 (sm_held Y (-1600) 1600)) 65 6 ru)) rfl ?_
        refine mz_ifT c2 ?_
        refine mz_go 7 (c' := (295, [some (.ref 65), some (.int f), some (.int rb), some (.int X), some (.int Y)], [.int (r' 8), .ref 65], mz_up (mz_up (mz_up (mz_up (mz_up (mz_up (mz_set (mz_set (mz_up (mz_up (mz_set (mz_set (mz_set m 65 r') 70 a') 71 b') 65 6 gu) 65 7 gv) 70 a3) 71 b3) 65 6 ru) 65 7 rv) 65 4 (sm_held X (-1600) 1600)) 65 5 (sm_held Y (-1600) 1600)) 65 6 ru) 65 7 rv)) rfl ?_
        rw [hh.2.2.1]
        refine mz_go 3 (c' := (300, [some (.ref 65), some (.int f), some (.int rb), some (.int X), some (.int Y)], [], mz_up (mz_up (mz_up (mz_up (mz_up (mz_up (mz_up (mz_set (mz_set (mz_up (mz_up (mz_set (mz_set (mz_set m 65 r') 70 a') 71 b') 65 6 gu) 65 7 gv) 70 a3) 71 b3) 65 6 ru) 65 7 rv) 65 4 (sm_held X (-1600) 1600)) 65 5 (sm_held Y (-1600) 1600)) 65 6 ru) 65 7 rv) 65 8 ((B 4) + 1))) rfl ?_
        exact mz_ret rfl
    · refine ⟨(mz_up (mz_up (mz_up (mz_up (mz_up (mz_up (mz_up (mz_set (mz_set (mz_up (mz_up (mz_set (mz_set (mz_set m 65 r') 70 a') 71 b') 65 6 gu) 65 7 gv) 70 a3) 71 b3) 65 6 ru) 65 7 rv) 65 4 (sm_held X (-1600) 1600)) 65 5 (sm_held Y (-1600) 1600)) 65 6 ru) 65 7 0) 65 8 ((B 4) + 1)) 65, (mz_up (mz_up (mz_up (mz_up (mz_up (mz_up (mz_up (mz_set (mz_set (mz_up (mz_up (mz_set (mz_set (mz_set m 65 r') 70 a') 71 b') 65 6 gu) 65 7 gv) 70 a3) 71 b3) 65 6 ru) 65 7 rv) 65 4 (sm_held X (-1600) 1600)) 65 5 (sm_held Y (-1600) 1600)) 65 6 ru) 65 7 0) 65 8 ((B 4) + 1)) 70, (mz_up (mz_up (mz_up (mz_up (mz_up (mz_up (mz_up (mz_set (mz_set (mz_up (mz_up (mz_set (mz_set (mz_set m 65 r') 70 a') 71 b') 65 6 gu) 65 7 gv) 70 a3) 71 b3) 65 6 ru) 65 7 rv) 65 4 (sm_held X (-1600) 1600)) 65 5 (sm_held Y (-1600) 1600)) 65 6 ru) 65 7 0) 65 8 ((B 4) + 1)) 71, ?_, ?_, ?_⟩
      · rw [g0]
        exact sm_tkL eX eY rfl rfl (by rw [if_pos c1]; rfl) (by rw [if_neg c2]; rfl) rfl
      · intro i hi
        simp only [mz_up_eq]
        simp only [show i ≠ 4 by omega, show i ≠ 5 by omega, show i ≠ 6 by omega, show i ≠ 7 by omega, show i ≠ 8 by omega, if_false]
        rw [mz_set_ne (show (65 : Nat) ≠ 71 by decide), mz_set_ne (show (65 : Nat) ≠ 70 by decide), mz_up_eq, if_neg (by omega), mz_up_eq, if_neg (by omega)]
        exact hkp i hi
      · rw [← sm_of3 (m := m) (m' := mz_up (mz_up (mz_up (mz_up (mz_up (mz_up (mz_up (mz_set (mz_set (mz_up (mz_up (mz_set (mz_set (mz_set m 65 r') 70 a') 71 b') 65 6 gu) 65 7 gv) 70 a3) 71 b3) 65 6 ru) 65 7 rv) 65 4 (sm_held X (-1600) 1600)) 65 5 (sm_held Y (-1600) 1600)) 65 6 ru) 65 7 0) 65 8 ((B 4) + 1)) (fun i h1 h2 h3 => by simp only [mz_up_ne h1, mz_set_ne h1, mz_set_ne h2, mz_set_ne h3])]
        refine ⟨?_, rfl⟩
        refine mz_go 2 (c' := (2, [some (.ref 65), some (.int f), some (.int (nI 0)), none, none], [], m)) rfl ?_
        refine E1 _ ?_
        refine mz_go 3 (c' := (101, [some (.ref 65), some (.int f), some (.int (nI N)), o3, o4], [.int (r' 6), .ref 65], mz_set (mz_set (mz_set m 65 r') 70 a') 71 b')) rfl ?_
        rw [hh2]
        refine mz_go 2 (c' := (105, [some (.ref 65), some (.int f), some (.int (nI N)), o3, o4], [.int (r' 4), .int p1, .ref 65], mz_set (mz_set (mz_set m 65 r') 70 a') 71 b')) rfl ?_
        rw [hh.1]
        refine mz_go 4 (c' := (112, [some (.ref 65), some (.int f), some (.int (nI N)), o3, o4], [.int (m 66 10), .int (B 0), .int p1, .ref 65], mz_set (mz_set (mz_set m 65 r') 70 a') 71 b')) rfl ?_
        rw [h70]
        refine mz_go 4 (c' := (118, [some (.ref 65), some (.int f), some (.int (nI N)), o3, o4], [.int f, .int (((B 0) * (w 7 0)) / 1600), .int p1, .ref 65], mz_set (mz_set (mz_set m 65 r') 70 a') 71 b')) rfl ?_
        refine mz_div (c' := (119, [some (.ref 65), some (.int f), some (.int (nI N)), o3, o4], [.int ((((B 0) * (w 7 0)) / 1600) / f), .int p1, .ref 65], mz_set (mz_set (mz_set m 65 r') 70 a') 71 b')) rfl hf ?_
        refine mz_go 1 (c' := (120, [some (.ref 65), some (.int f), some (.int (nI N)), o3, o4], [.int (p1 - ((((B 0) * (w 7 0)) / 1600) / f)), .ref 65], mz_set (mz_set (mz_set m 65 r') 70 a') 71 b')) rfl ?_
        rw [egu]
        refine mz_go 4 (c' := (128, [some (.ref 65), some (.int f), some (.int (nI N)), o3, o4], [.int (r' 7), .ref 65], mz_up (mz_set (mz_set (mz_set m 65 r') 70 a') 71 b') 65 6 gu)) rfl ?_
        rw [hh3]
        refine mz_go 2 (c' := (132, [some (.ref 65), some (.int f), some (.int (nI N)), o3, o4], [.int (r' 5), .int p2, .ref 65], mz_up (mz_set (mz_set (mz_set m 65 r') 70 a') 71 b') 65 6 gu)) rfl ?_
        rw [hh.2.1]
        refine mz_go 4 (c' := (139, [some (.ref 65), some (.int f), some (.int (nI N)), o3, o4], [.int (m 66 10), .int (B 1), .int p2, .ref 65], mz_up (mz_set (mz_set (mz_set m 65 r') 70 a') 71 b') 65 6 gu)) rfl ?_
        rw [h70]
        refine mz_go 4 (c' := (145, [some (.ref 65), some (.int f), some (.int (nI N)), o3, o4], [.int f, .int (((B 1) * (w 7 0)) / 1600), .int p2, .ref 65], mz_up (mz_set (mz_set (mz_set m 65 r') 70 a') 71 b') 65 6 gu)) rfl ?_
        refine mz_div (c' := (146, [some (.ref 65), some (.int f), some (.int (nI N)), o3, o4], [.int ((((B 1) * (w 7 0)) / 1600) / f), .int p2, .ref 65], mz_up (mz_set (mz_set (mz_set m 65 r') 70 a') 71 b') 65 6 gu)) rfl hf ?_
        refine mz_go 1 (c' := (147, [some (.ref 65), some (.int f), some (.int (nI N)), o3, o4], [.int (p2 - ((((B 1) * (w 7 0)) / 1600) / f)), .ref 65], mz_up (mz_set (mz_set (mz_set m 65 r') 70 a') 71 b') 65 6 gu)) rfl ?_
        rw [egv]
        refine mz_go 2 (c' := (151, [some (.ref 65), some (.int f), some (.int (nI N)), o3, o4], [.ref 65], mz_up (mz_up (mz_set (mz_set (mz_set m 65 r') 70 a') 71 b') 65 6 gu) 65 7 gv)) rfl ?_
        refine mz_doQ (R := mz_r151) (as := [.ref 65]) (rest := []) (r1 := some (.int rb)) (m1 := mz_set (mz_set (mz_up (mz_up (mz_set (mz_set (mz_set m 65 r') 70 a') 71 b') 65 6 gu) 65 7 gv) 70 a3) 71 b3) mz_t151 mz_v151_65 rfl rfl rfl rfl rfl (E3.deep (by decide)) ?_
        refine mz_go 11 (c' := (170, [some (.ref 65), some (.int f), some (.int rb), o3, o4], [.int f, .int ((gu * rb) / 100), .int gu, .ref 65], mz_set (mz_set (mz_up (mz_up (mz_set (mz_set (mz_set m 65 r') 70 a') 71 b') 65 6 gu) 65 7 gv) 70 a3) 71 b3)) rfl ?_
        refine mz_div (c' := (171, [some (.ref 65), some (.int f), some (.int rb), o3, o4], [.int (((gu * rb) / 100) / f), .int gu, .ref 65], mz_set (mz_set (mz_up (mz_up (mz_set (mz_set (mz_set m 65 r') 70 a') 71 b') 65 6 gu) 65 7 gv) 70 a3) 71 b3)) rfl hf ?_
        refine mz_go 1 (c' := (172, [some (.ref 65), some (.int f), some (.int rb), o3, o4], [.int (gu - (((gu * rb) / 100) / f)), .ref 65], mz_set (mz_set (mz_up (mz_up (mz_set (mz_set (mz_set m 65 r') 70 a') 71 b') 65 6 gu) 65 7 gv) 70 a3) 71 b3)) rfl ?_
        rw [eru]
        refine mz_go 11 (c' := (190, [some (.ref 65), some (.int f), some (.int rb), o3, o4], [.int f, .int ((gv * rb) / 100), .int gv, .ref 65], mz_up (mz_set (mz_set (mz_up (mz_up (mz_set (mz_set (mz_set m 65 r') 70 a') 71 b') 65 6 gu) 65 7 gv) 70 a3) 71 b3) 65 6 ru)) rfl ?_
        refine mz_div (c' := (191, [some (.ref 65), some (.int f), some (.int rb), o3, o4], [.int (((gv * rb) / 100) / f), .int gv, .ref 65], mz_up (mz_set (mz_set (mz_up (mz_up (mz_set (mz_set (mz_set m 65 r') 70 a') 71 b') 65 6 gu) 65 7 gv) 70 a3) 71 b3) 65 6 ru)) rfl hf ?_
        refine mz_go 1 (c' := (192, [some (.ref 65), some (.int f), some (.int rb), o3, o4], [.int (gv - (((gv * rb) / 100) / f)), .ref 65], mz_up (mz_set (mz_set (mz_up (mz_up (mz_set (mz_set (mz_set m 65 r') 70 a') 71 b') 65 6 gu) 65 7 gv) 70 a3) 71 b3) 65 6 ru)) rfl ?_
        rw [erv]
        refine mz_go 3 (c' := (199, [some (.ref 65), some (.int f), some (.int rb), o3, o4], [.int (r' 4)], mz_up (mz_up (mz_set (mz_set (mz_up (mz_up (mz_set (mz_set (mz_set m 65 r') 70 a') 71 b') 65 6 gu) 65 7 gv) 70 a3) 71 b3) 65 6 ru) 65 7 rv)) rfl ?_
        rw [hh.1]
        refine mz_go 3 (c' := (204, [some (.ref 65), some (.int f), some (.int rb), o3, o4], [.int f, .int ru, .int (B 0)], mz_up (mz_up (mz_set (mz_set (mz_up (mz_up (mz_set (mz_set (mz_set m 65 r') 70 a') 71 b') 65 6 gu) 65 7 gv) 70 a3) 71 b3) 65 6 ru) 65 7 rv)) rfl ?_
        refine mz_div (c' := (205, [some (.ref 65), some (.int f), some (.int rb), o3, o4], [.int (ru / f), .int (B 0)], mz_up (mz_up (mz_set (mz_set (mz_up (mz_up (mz_set (mz_set (mz_set m 65 r') 70 a') 71 b') 65 6 gu) 65 7 gv) 70 a3) 71 b3) 65 6 ru) 65 7 rv)) rfl hf ?_
        refine mz_go 1 (c' := (206, [some (.ref 65), some (.int f), some (.int rb), o3, o4], [.int ((B 0) + (ru / f))], mz_up (mz_up (mz_set (mz_set (mz_up (mz_up (mz_set (mz_set (mz_set m 65 r') 70 a') 71 b') 65 6 gu) 65 7 gv) 70 a3) 71 b3) 65 6 ru) 65 7 rv)) rfl ?_
        rw [eX]
        refine mz_go 3 (c' := (211, [some (.ref 65), some (.int f), some (.int rb), some (.int X), o4], [.int (r' 5)], mz_up (mz_up (mz_set (mz_set (mz_up (mz_up (mz_set (mz_set (mz_set m 65 r') 70 a') 71 b') 65 6 gu) 65 7 gv) 70 a3) 71 b3) 65 6 ru) 65 7 rv)) rfl ?_
        rw [hh.2.1]
        refine mz_go 3 (c' := (216, [some (.ref 65), some (.int f), some (.int rb), some (.int X), o4], [.int f, .int rv, .int (B 1)], mz_up (mz_up (mz_set (mz_set (mz_up (mz_up (mz_set (mz_set (mz_set m 65 r') 70 a') 71 b') 65 6 gu) 65 7 gv) 70 a3) 71 b3) 65 6 ru) 65 7 rv)) rfl ?_
        refine mz_div (c' := (217, [some (.ref 65), some (.int f), some (.int rb), some (.int X), o4], [.int (rv / f), .int (B 1)], mz_up (mz_up (mz_set (mz_set (mz_up (mz_up (mz_set (mz_set (mz_set m 65 r') 70 a') 71 b') 65 6 gu) 65 7 gv) 70 a3) 71 b3) 65 6 ru) 65 7 rv)) rfl hf ?_
        refine mz_go 1 (c' := (218, [some (.ref 65), some (.int f), some (.int rb), some (.int X), o4], [.int ((B 1) + (rv / f))], mz_up (mz_up (mz_set (mz_set (mz_up (mz_up (mz_set (mz_set (mz_set m 65 r') 70 a') 71 b') 65 6 gu) 65 7 gv) 70 a3) 71 b3) 65 6 ru) 65 7 rv)) rfl ?_
        rw [eY]
        refine mz_go 5 (c' := (228, [some (.ref 65), some (.int f), some (.int rb), some (.int X), some (.int Y)], [.int 1600, .int (-1600), .int X, .ref 65], mz_up (mz_up (mz_set (mz_set (mz_up (mz_up (mz_set (mz_set (mz_set m 65 r') 70 a') 71 b') 65 6 gu) 65 7 gv) 70 a3) 71 b3) 65 6 ru) 65 7 rv)) rfl ?_
        refine mz_doQ (R := mz_r130) (as := [.int X, .int (-1600), .int 1600]) (rest := [.ref 65]) (r1 := some (.int (sm_held X (-1600) 1600))) (m1 := mz_up (mz_up (mz_set (mz_set (mz_up (mz_up (mz_set (mz_set (mz_set m 65 r') 70 a') 71 b') 65 6 gu) 65 7 gv) 70 a3) 71 b3) 65 6 ru) 65 7 rv) mz_t130 mz_v130 rfl rfl rfl rfl rfl ((ct_held (m := mz_up (mz_up (mz_set (mz_set (mz_up (mz_up (mz_set (mz_set (mz_set m 65 r') 70 a') 71 b') 65 6 gu) 65 7 gv) 70 a3) 71 b3) 65 6 ru) 65 7 rv) X (-1600) 1600).deep (by decide)) ?_
        refine mz_go 5 (c' := (243, [some (.ref 65), some (.int f), some (.int rb), some (.int X), some (.int Y)], [.int 1600, .int (-1600), .int Y, .ref 65], mz_up (mz_up (mz_up (mz_set (mz_set (mz_up (mz_up (mz_set (mz_set (mz_set m 65 r') 70 a') 71 b') 65 6 gu) 65 7 gv) 70 a3) 71 b3) 65 6 ru) 65 7 rv) 65 4 (sm_held X (-1600) 1600))) rfl ?_
        refine mz_doQ (R := mz_r130) (as := [.int Y, .int (-1600), .int 1600]) (rest := [.ref 65]) (r1 := some (.int (sm_held Y (-1600) 1600))) (m1 := mz_up (mz_up (mz_up (mz_set (mz_set (mz_up (mz_up (mz_set (mz_set (mz_set m 65 r') 70 a') 71 b') 65 6 gu) 65 7 gv) 70 a3) 71 b3) 65 6 ru) 65 7 rv) 65 4 (sm_held X (-1600) 1600)) mz_t130 mz_v130 rfl rfl rfl rfl rfl ((ct_held (m := mz_up (mz_up (mz_up (mz_set (mz_set (mz_up (mz_up (mz_set (mz_set (mz_set m 65 r') 70 a') 71 b') 65 6 gu) 65 7 gv) 70 a3) 71 b3) 65 6 ru) 65 7 rv) 65 4 (sm_held X (-1600) 1600)) Y (-1600) 1600).deep (by decide)) ?_
        refine mz_go 6 (c' := (if (sm_held X (-1600) 1600) = X then 258 else 265, [some (.ref 65), some (.int f), some (.int rb), some (.int X), some (.int Y)], [.ref 65], mz_up (mz_up (mz_up (mz_up (mz_set (mz_set (mz_up (mz_up (mz_set (mz_set (mz_set m 65 r') 70 a') 71 b') 65 6 gu) 65 7 gv) 70 a3) 71 b3) 65 6 ru) 65 7 rv) 65 4 (sm_held X (-1600) 1600)) 65 5 (sm_held Y (-1600) 1600))) rfl ?_
        refine mz_ifT c1 ?_
        refine mz_go 9 (c' := (if (sm_held Y (-1600) 1600) = Y then 279 else 286, [some (.ref 65), some (.int f), some (.int rb), some (.int X), some (.int Y)], [.ref 65], mz_up (mz_up (mz_up (mz_up (mz_up (mz_set (mz_set (mz_up (mz_up (mz_set (mz_set (mz_set m 65 r') 70 a') 71 b') 65 6 gu) 65 7 gv) 70 a3) 71 b3) 65 6 ru) 65 7 rv) 65 4 (sm_held X (-1600) 1600)) 65 5 (sm_held Y (-1600) 1600)) 65 6 ru)) rfl ?_
        refine mz_ifF c2 ?_
        refine mz_go 5 (c' := (295, [some (.ref 65), some (.int f), some (.int rb), some (.int X), some (.int Y)], [.int (r' 8), .ref 65], mz_up (mz_up (mz_up (mz_up (mz_up (mz_up (mz_set (mz_set (mz_up (mz_up (mz_set (mz_set (mz_set m 65 r') 70 a') 71 b') 65 6 gu) 65 7 gv) 70 a3) 71 b3) 65 6 ru) 65 7 rv) 65 4 (sm_held X (-1600) 1600)) 65 5 (sm_held Y (-1600) 1600)) 65 6 ru) 65 7 0)) rfl ?_
        rw [hh.2.2.1]
        refine mz_go 3 (c' := (300, [some (.ref 65), some (.int f), some (.int rb), some (.int X), some (.int Y)], [], mz_up (mz_up (mz_up (mz_up (mz_up (mz_up (mz_up (mz_set (mz_set (mz_up (mz_up (mz_set (mz_set (mz_set m 65 r') 70 a') 71 b') 65 6 gu) 65 7 gv) 70 a3) 71 b3) 65 6 ru) 65 7 rv) 65 4 (sm_held X (-1600) 1600)) 65 5 (sm_held Y (-1600) 1600)) 65 6 ru) 65 7 0) 65 8 ((B 4) + 1))) rfl ?_
        exact mz_ret rfl
  · by_cases c2 : sm_held Y (-1600) 1600 = Y
    · refine ⟨(mz_up (mz_up (mz_up (mz_up (mz_up (mz_up (mz_up (mz_set (mz_set (mz_up (mz_up (mz_set (mz_set (mz_set m 65 r') 70 a') 71 b') 65 6 gu) 65 7 gv) 70 a3) 71 b3) 65 6 ru) 65 7 rv) 65 4 (sm_held X (-1600) 1600)) 65 5 (sm_held Y (-1600) 1600)) 65 6 0) 65 7 rv) 65 8 ((B 4) + 1)) 65, (mz_up (mz_up (mz_up (mz_up (mz_up (mz_up (mz_up (mz_set (mz_set (mz_up (mz_up (mz_set (mz_set (mz_set m 65 r') 70 a') 71 b') 65 6 gu) 65 7 gv) 70 a3) 71 b3) 65 6 ru) 65 7 rv) 65 4 (sm_held X (-1600) 1600)) 65 5 (sm_held Y (-1600) 1600)) 65 6 0) 65 7 rv) 65 8 ((B 4) + 1)) 70, (mz_up (mz_up (mz_up (mz_up (mz_up (mz_up (mz_up (mz_set (mz_set (mz_up (mz_up (mz_set (mz_set (mz_set m 65 r') 70 a') 71 b') 65 6 gu) 65 7 gv) 70 a3) 71 b3) 65 6 ru) 65 7 rv) 65 4 (sm_held X (-1600) 1600)) 65 5 (sm_held Y (-1600) 1600)) 65 6 0) 65 7 rv) 65 8 ((B 4) + 1)) 71, ?_, ?_, ?_⟩
      · rw [g0]
        exact sm_tkL eX eY rfl rfl (by rw [if_neg c1]; rfl) (by rw [if_pos c2]; rfl) rfl
      · intro i hi
        simp only [mz_up_eq]
        simp only [show i ≠ 4 by omega, show i ≠ 5 by omega, show i ≠ 6 by omega, show i ≠ 7 by omega, show i ≠ 8 by omega, if_false]
        rw [mz_set_ne (show (65 : Nat) ≠ 71 by decide), mz_set_ne (show (65 : Nat) ≠ 70 by decide), mz_up_eq, if_neg (by omega), mz_up_eq, if_neg (by omega)]
        exact hkp i hi
      · rw [← sm_of3 (m := m) (m' := mz_up (mz_up (mz_up (mz_up (mz_up (mz_up (mz_up (mz_set (mz_set (mz_up (mz_up (mz_set (mz_set (mz_set m 65 r') 70 a') 71 b') 65 6 gu) 65 7 gv) 70 a3) 71 b3) 65 6 ru) 65 7 rv) 65 4 (sm_held X (-1600) 1600)) 65 5 (sm_held Y (-1600) 1600)) 65 6 0) 65 7 rv) 65 8 ((B 4) + 1)) (fun i h1 h2 h3 => by simp only [mz_up_ne h1, mz_set_ne h1, mz_set_ne h2, mz_set_ne h3])]
        refine ⟨?_, rfl⟩
        refine mz_go 2 (c' := (2, [some (.ref 65), some (.int f), some (.int (nI 0)), none, none], [], m)) rfl ?_
        refine E1 _ ?_
        refine mz_go 3 (c' := (101, [some (.ref 65), some (.int f), some (.int (nI N)), o3, o4], [.int (r' 6), .ref 65], mz_set (mz_set (mz_set m 65 r') 70 a') 71 b')) rfl ?_
        rw [hh2]
        refine mz_go 2 (c' := (105, [some (.ref 65), some (.int f), some (.int (nI N)), o3, o4], [.int (r' 4), .int p1, .ref 65], mz_set (mz_set (mz_set m 65 r') 70 a') 71 b')) rfl ?_
        rw [hh.1]
        refine mz_go 4 (c' := (112, [some (.ref 65), some (.int f), some (.int (nI N)), o3, o4], [.int (m 66 10), .int (B 0), .int p1, .ref 65], mz_set (mz_set (mz_set m 65 r') 70 a') 71 b')) rfl ?_
        rw [h70]
        refine mz_go 4 (c' := (118, [some (.ref 65), some (.int f), some (.int (nI N)), o3, o4], [.int f, .int (((B 0) * (w 7 0)) / 1600), .int p1, .ref 65], mz_set (mz_set (mz_set m 65 r') 70 a') 71 b')) rfl ?_
        refine mz_div (c' := (119, [some (.ref 65), some (.int f), some (.int (nI N)), o3, o4], [.int ((((B 0) * (w 7 0)) / 1600) / f), .int p1, .ref 65], mz_set (mz_set (mz_set m 65 r') 70 a') 71 b')) rfl hf ?_
        refine mz_go 1 (c' := (120, [some (.ref 65), some (.int f), some (.int (nI N)), o3, o4], [.int (p1 - ((((B 0) * (w 7 0)) / 1600) / f)), .ref 65], mz_set (mz_set (mz_set m 65 r') 70 a') 71 b')) rfl ?_
        rw [egu]
        refine mz_go 4 (c' := (128, [some (.ref 65), some (.int f), some (.int (nI N)), o3, o4], [.int (r' 7), .ref 65], mz_up (mz_set (mz_set (mz_set m 65 r') 70 a') 71 b') 65 6 gu)) rfl ?_
        rw [hh3]
        refine mz_go 2 (c' := (132, [some (.ref 65), some (.int f), some (.int (nI N)), o3, o4], [.int (r' 5), .int p2, .ref 65], mz_up (mz_set (mz_set (mz_set m 65 r') 70 a') 71 b') 65 6 gu)) rfl ?_
        rw [hh.2.1]
        refine mz_go 4 (c' := (139, [some (.ref 65), some (.int f), some (.int (nI N)), o3, o4], [.int (m 66 10), .int (B 1), .int p2, .ref 65], mz_up (mz_set (mz_set (mz_set m 65 r') 70 a') 71 b') 65 6 gu)) rfl ?_
        rw [h70]
        refine mz_go 4 (c' := (145, [some (.ref 65), some (.int f), some (.int (nI N)), o3, o4], [.int f, .int (((B 1) * (w 7 0)) / 1600), .int p2, .ref 65], mz_up (mz_set (mz_set (mz_set m 65 r') 70 a') 71 b') 65 6 gu)) rfl ?_
        refine mz_div (c' := (146, [some (.ref 65), some (.int f), some (.int (nI N)), o3, o4], [.int ((((B 1) * (w 7 0)) / 1600) / f), .int p2, .ref 65], mz_up (mz_set (mz_set (mz_set m 65 r') 70 a') 71 b') 65 6 gu)) rfl hf ?_
        refine mz_go 1 (c' := (147, [some (.ref 65), some (.int f), some (.int (nI N)), o3, o4], [.int (p2 - ((((B 1) * (w 7 0)) / 1600) / f)), .ref 65], mz_up (mz_set (mz_set (mz_set m 65 r') 70 a') 71 b') 65 6 gu)) rfl ?_
        rw [egv]
        refine mz_go 2 (c' := (151, [some (.ref 65), some (.int f), some (.int (nI N)), o3, o4], [.ref 65], mz_up (mz_up (mz_set (mz_set (mz_set m 65 r') 70 a') 71 b') 65 6 gu) 65 7 gv)) rfl ?_
        refine mz_doQ (R := mz_r151) (as := [.ref 65]) (rest := []) (r1 := some (.int rb)) (m1 := mz_set (mz_set (mz_up (mz_up (mz_set (mz_set (mz_set m 65 r') 70 a') 71 b') 65 6 gu) 65 7 gv) 70 a3) 71 b3) mz_t151 mz_v151_65 rfl rfl rfl rfl rfl (E3.deep (by decide)) ?_
        refine mz_go 11 (c' := (170, [some (.ref 65), some (.int f), some (.int rb), o3, o4], [.int f, .int ((gu * rb) / 100), .int gu, .ref 65], mz_set (mz_set (mz_up (mz_up (mz_set (mz_set (mz_set m 65 r') 70 a') 71 b') 65 6 gu) 65 7 gv) 70 a3) 71 b3)) rfl ?_
        refine mz_div (c' := (171, [some (.ref 65), some (.int f), some (.int rb), o3, o4], [.int (((gu * rb) / 100) / f), .int gu, .ref 65], mz_set (mz_set (mz_up (mz_up (mz_set (mz_set (mz_set m 65 r') 70 a') 71 b') 65 6 gu) 65 7 gv) 70 a3) 71 b3)) rfl hf ?_
        refine mz_go 1 (c' := (172, [some (.ref 65), some (.int f), some (.int rb), o3, o4], [.int (gu - (((gu * rb) / 100) / f)), .ref 65], mz_set (mz_set (mz_up (mz_up (mz_set (mz_set (mz_set m 65 r') 70 a') 71 b') 65 6 gu) 65 7 gv) 70 a3) 71 b3)) rfl ?_
        rw [eru]
        refine mz_go 11 (c' := (190, [some (.ref 65), some (.int f), some (.int rb), o3, o4], [.int f, .int ((gv * rb) / 100), .int gv, .ref 65], mz_up (mz_set (mz_set (mz_up (mz_up (mz_set (mz_set (mz_set m 65 r') 70 a') 71 b') 65 6 gu) 65 7 gv) 70 a3) 71 b3) 65 6 ru)) rfl ?_
        refine mz_div (c' := (191, [some (.ref 65), some (.int f), some (.int rb), o3, o4], [.int (((gv * rb) / 100) / f), .int gv, .ref 65], mz_up (mz_set (mz_set (mz_up (mz_up (mz_set (mz_set (mz_set m 65 r') 70 a') 71 b') 65 6 gu) 65 7 gv) 70 a3) 71 b3) 65 6 ru)) rfl hf ?_
        refine mz_go 1 (c' := (192, [some (.ref 65), some (.int f), some (.int rb), o3, o4], [.int (gv - (((gv * rb) / 100) / f)), .ref 65], mz_up (mz_set (mz_set (mz_up (mz_up (mz_set (mz_set (mz_set m 65 r') 70 a') 71 b') 65 6 gu) 65 7 gv) 70 a3) 71 b3) 65 6 ru)) rfl ?_
        rw [erv]
        refine mz_go 3 (c' := (199, [some (.ref 65), some (.int f), some (.int rb), o3, o4], [.int (r' 4)], mz_up (mz_up (mz_set (mz_set (mz_up (mz_up (mz_set (mz_set (mz_set m 65 r') 70 a') 71 b') 65 6 gu) 65 7 gv) 70 a3) 71 b3) 65 6 ru) 65 7 rv)) rfl ?_
        rw [hh.1]
        refine mz_go 3 (c' := (204, [some (.ref 65), some (.int f), some (.int rb), o3, o4], [.int f, .int ru, .int (B 0)], mz_up (mz_up (mz_set (mz_set (mz_up (mz_up (mz_set (mz_set (mz_set m 65 r') 70 a') 71 b') 65 6 gu) 65 7 gv) 70 a3) 71 b3) 65 6 ru) 65 7 rv)) rfl ?_
        refine mz_div (c' := (205, [some (.ref 65), some (.int f), some (.int rb), o3, o4], [.int (ru / f), .int (B 0)], mz_up (mz_up (mz_set (mz_set (mz_up (mz_up (mz_set (mz_set (mz_set m 65 r') 70 a') 71 b') 65 6 gu) 65 7 gv) 70 a3) 71 b3) 65 6 ru) 65 7 rv)) rfl hf ?_
        refine mz_go 1 (c' := (206, [some (.ref 65), some (.int f), some (.int rb), o3, o4], [.int ((B 0) + (ru / f))], mz_up (mz_up (mz_set (mz_set (mz_up (mz_up (mz_set (mz_set (mz_set m 65 r') 70 a') 71 b') 65 6 gu) 65 7 gv) 70 a3) 71 b3) 65 6 ru) 65 7 rv)) rfl ?_
        rw [eX]
        refine mz_go 3 (c' := (211, [some (.ref 65), some (.int f), some (.int rb), some (.int X), o4], [.int (r' 5)], mz_up (mz_up (mz_set (mz_set (mz_up (mz_up (mz_set (mz_set (mz_set m 65 r') 70 a') 71 b') 65 6 gu) 65 7 gv) 70 a3) 71 b3) 65 6 ru) 65 7 rv)) rfl ?_
        rw [hh.2.1]
        refine mz_go 3 (c' := (216, [some (.ref 65), some (.int f), some (.int rb), some (.int X), o4], [.int f, .int rv, .int (B 1)], mz_up (mz_up (mz_set (mz_set (mz_up (mz_up (mz_set (mz_set (mz_set m 65 r') 70 a') 71 b') 65 6 gu) 65 7 gv) 70 a3) 71 b3) 65 6 ru) 65 7 rv)) rfl ?_
        refine mz_div (c' := (217, [some (.ref 65), some (.int f), some (.int rb), some (.int X), o4], [.int (rv / f), .int (B 1)], mz_up (mz_up (mz_set (mz_set (mz_up (mz_up (mz_set (mz_set (mz_set m 65 r') 70 a') 71 b') 65 6 gu) 65 7 gv) 70 a3) 71 b3) 65 6 ru) 65 7 rv)) rfl hf ?_
        refine mz_go 1 (c' := (218, [some (.ref 65), some (.int f), some (.int rb), some (.int X), o4], [.int ((B 1) + (rv / f))], mz_up (mz_up (mz_set (mz_set (mz_up (mz_up (mz_set (mz_set (mz_set m 65 r') 70 a') 71 b') 65 6 gu) 65 7 gv) 70 a3) 71 b3) 65 6 ru) 65 7 rv)) rfl ?_
        rw [eY]
        refine mz_go 5 (c' := (228, [some (.ref 65), some (.int f), some (.int rb), some (.int X), some (.int Y)], [.int 1600, .int (-1600), .int X, .ref 65], mz_up (mz_up (mz_set (mz_set (mz_up (mz_up (mz_set (mz_set (mz_set m 65 r') 70 a') 71 b') 65 6 gu) 65 7 gv) 70 a3) 71 b3) 65 6 ru) 65 7 rv)) rfl ?_
        refine mz_doQ (R := mz_r130) (as := [.int X, .int (-1600), .int 1600]) (rest := [.ref 65]) (r1 := some (.int (sm_held X (-1600) 1600))) (m1 := mz_up (mz_up (mz_set (mz_set (mz_up (mz_up (mz_set (mz_set (mz_set m 65 r') 70 a') 71 b') 65 6 gu) 65 7 gv) 70 a3) 71 b3) 65 6 ru) 65 7 rv) mz_t130 mz_v130 rfl rfl rfl rfl rfl ((ct_held (m := mz_up (mz_up (mz_set (mz_set (mz_up (mz_up (mz_set (mz_set (mz_set m 65 r') 70 a') 71 b') 65 6 gu) 65 7 gv) 70 a3) 71 b3) 65 6 ru) 65 7 rv) X (-1600) 1600).deep (by decide)) ?_
        refine mz_go 5 (c' := (243, [some (.ref 65), some (.int f), some (.int rb), some (.int X), some (.int Y)], [.int 1600, .int (-1600), .int Y, .ref 65], mz_up (mz_up (mz_up (mz_set (mz_set (mz_up (mz_up (mz_set (mz_set (mz_set m 65 r') 70 a') 71 b') 65 6 gu) 65 7 gv) 70 a3) 71 b3) 65 6 ru) 65 7 rv) 65 4 (sm_held X (-1600) 1600))) rfl ?_
        refine mz_doQ (R := mz_r130) (as := [.int Y, .int (-1600), .int 1600]) (rest := [.ref 65]) (r1 := some (.int (sm_held Y (-1600) 1600))) (m1 := mz_up (mz_up (mz_up (mz_set (mz_set (mz_up (mz_up (mz_set (mz_set (mz_set m 65 r') 70 a') 71 b') 65 6 gu) 65 7 gv) 70 a3) 71 b3) 65 6 ru) 65 7 rv) 65 4 (sm_held X (-1600) 1600)) mz_t130 mz_v130 rfl rfl rfl rfl rfl ((ct_held (m := mz_up (mz_up (mz_up (mz_set (mz_set (mz_up (mz_up (mz_set (mz_set (mz_set m 65 r') 70 a') 71 b') 65 6 gu) 65 7 gv) 70 a3) 71 b3) 65 6 ru) 65 7 rv) 65 4 (sm_held X (-1600) 1600)) Y (-1600) 1600).deep (by decide)) ?_
        refine mz_go 6 (c' := (if (sm_held X (-1600) 1600) = X then 258 else 265, [some (.ref 65), some (.int f), some (.int rb), some (.int X), some (.int Y)], [.ref 65], mz_up (mz_up (mz_up (mz_up (mz_set (mz_set (mz_up (mz_up (mz_set (mz_set (mz_set m 65 r') 70 a') 71 b') 65 6 gu) 65 7 gv) 70 a3) 71 b3) 65 6 ru) 65 7 rv) 65 4 (sm_held X (-1600) 1600)) 65 5 (sm_held Y (-1600) 1600))) rfl ?_
        refine mz_ifF c1 ?_
        refine mz_go 7 (c' := (if (sm_held Y (-1600) 1600) = Y then 279 else 286, [some (.ref 65), some (.int f), some (.int rb), some (.int X), some (.int Y)], [.ref 65], mz_up (mz_up (mz_up (mz_up (mz_up (mz_set (mz_set (mz_up (mz_up (mz_set (mz_set (mz_set m 65 r') 70 a') 71 b') 65 6 gu) 65 7 gv) 70 a3) 71 b3) 65 6 ru) 65 7 rv) 65 4 (sm_held X (-1600) 1600)) 65 5 (sm_held Y (-1600) 1600)) 65 6 0)) rfl ?_
        refine mz_ifT c2 ?_
        refine mz_go 7 (c' := (295, [some (.ref 65), some (.int f), some (.int rb), some (.int X), some (.int Y)], [.int (r' 8), .ref 65], mz_up (mz_up (mz_up (mz_up (mz_up (mz_up (mz_set (mz_set (mz_up (mz_up (mz_set (mz_set (mz_set m 65 r') 70 a') 71 b') 65 6 gu) 65 7 gv) 70 a3) 71 b3) 65 6 ru) 65 7 rv) 65 4 (sm_held X (-1600) 1600)) 65 5 (sm_held Y (-1600) 1600)) 65 6 0) 65 7 rv)) rfl ?_
        rw [hh.2.2.1]
        refine mz_go 3 (c' := (300, [some (.ref 65), some (.int f), some (.int rb), some (.int X), some (.int Y)], [], mz_up (mz_up (mz_up (mz_up (mz_up (mz_up (mz_up (mz_set (mz_set (mz_up (mz_up (mz_set (mz_set (mz_set m 65 r') 70 a') 71 b') 65 6 gu) 65 7 gv) 70 a3) 71 b3) 65 6 ru) 65 7 rv) 65 4 (sm_held X (-1600) 1600)) 65 5 (sm_held Y (-1600) 1600)) 65 6 0) 65 7 rv) 65 8 ((B 4) + 1))) rfl ?_
        exact mz_ret rfl
    · refine ⟨(mz_up (mz_up (mz_up (mz_up (mz_up (mz_up (mz_up (mz_set (mz_set (mz_up (mz_up (mz_set (mz_set (mz_set m 65 r') 70 a') 71 b') 65 6 gu) 65 7 gv) 70 a3) 71 b3) 65 6 ru) 65 7 rv) 65 4 (sm_held X (-1600) 1600)) 65 5 (sm_held Y (-1600) 1600)) 65 6 0) 65 7 0) 65 8 ((B 4) + 1)) 65, (mz_up (mz_up (mz_up (mz_up (mz_up (mz_up (mz_up (mz_set (mz_set (mz_up (mz_up (mz_set (mz_set (mz_set m 65 r') 70 a') 71 b') 65 6 gu) 65 7 gv) 70 a3) 71 b3) 65 6 ru) 65 7 rv) 65 4 (sm_held X (-1600) 1600)) 65 5 (sm_held Y (-1600) 1600)) 65 6 0) 65 7 0) 65 8 ((B 4) + 1)) 70, (mz_up (mz_up (mz_up (mz_up (mz_up (mz_up (mz_up (mz_set (mz_set (mz_up (mz_up (mz_set (mz_set (mz_set m 65 r') 70 a') 71 b') 65 6 gu) 65 7 gv) 70 a3) 71 b3) 65 6 ru) 65 7 rv) 65 4 (sm_held X (-1600) 1600)) 65 5 (sm_held Y (-1600) 1600)) 65 6 0) 65 7 0) 65 8 ((B 4) + 1)) 71, ?_, ?_, ?_⟩
      · rw [g0]
        exact sm_tkL eX eY rfl rfl (by rw [if_neg c1]; rfl) (by rw [if_neg c2]; rfl) rfl
      · intro i hi
        simp only [mz_up_eq]
        simp only [show i ≠ 4 by omega, show i ≠ 5 by omega, show i ≠ 6 by omega, show i ≠ 7 by omega, show i ≠ 8 by omega, if_false]
        rw [mz_set_ne (show (65 : Nat) ≠ 71 by decide), mz_set_ne (show (65 : Nat) ≠ 70 by decide), mz_up_eq, if_neg (by omega), mz_up_eq, if_neg (by omega)]
        exact hkp i hi
      · rw [← sm_of3 (m := m) (m' := mz_up (mz_up (mz_up (mz_up (mz_up (mz_up (mz_up (mz_set (mz_set (mz_up (mz_up (mz_set (mz_set (mz_set m 65 r') 70 a') 71 b') 65 6 gu) 65 7 gv) 70 a3) 71 b3) 65 6 ru) 65 7 rv) 65 4 (sm_held X (-1600) 1600)) 65 5 (sm_held Y (-1600) 1600)) 65 6 0) 65 7 0) 65 8 ((B 4) + 1)) (fun i h1 h2 h3 => by simp only [mz_up_ne h1, mz_set_ne h1, mz_set_ne h2, mz_set_ne h3])]
        refine ⟨?_, rfl⟩
        refine mz_go 2 (c' := (2, [some (.ref 65), some (.int f), some (.int (nI 0)), none, none], [], m)) rfl ?_
        refine E1 _ ?_
        refine mz_go 3 (c' := (101, [some (.ref 65), some (.int f), some (.int (nI N)), o3, o4], [.int (r' 6), .ref 65], mz_set (mz_set (mz_set m 65 r') 70 a') 71 b')) rfl ?_
        rw [hh2]
        refine mz_go 2 (c' := (105, [some (.ref 65), some (.int f), some (.int (nI N)), o3, o4], [.int (r' 4), .int p1, .ref 65], mz_set (mz_set (mz_set m 65 r') 70 a') 71 b')) rfl ?_
        rw [hh.1]
        refine mz_go 4 (c' := (112, [some (.ref 65), some (.int f), some (.int (nI N)), o3, o4], [.int (m 66 10), .int (B 0), .int p1, .ref 65], mz_set (mz_set (mz_set m 65 r') 70 a') 71 b')) rfl ?_
        rw [h70]
        refine mz_go 4 (c' := (118, [some (.ref 65), some (.int f), some (.int (nI N)), o3, o4], [.int f, .int (((B 0) * (w 7 0)) / 1600), .int p1, .ref 65], mz_set (mz_set (mz_set m 65 r') 70 a') 71 b')) rfl ?_
        refine mz_div (c' := (119, [some (.ref 65), some (.int f), some (.int (nI N)), o3, o4], [.int ((((B 0) * (w 7 0)) / 1600) / f), .int p1, .ref 65], mz_set (mz_set (mz_set m 65 r') 70 a') 71 b')) rfl hf ?_
        refine mz_go 1 (c' := (120, [some (.ref 65), some (.int f), some (.int (nI N)), o3, o4], [.int (p1 - ((((B 0) * (w 7 0)) / 1600) / f)), .ref 65], mz_set (mz_set (mz_set m 65 r') 70 a') 71 b')) rfl ?_
        rw [egu]
        refine mz_go 4 (c' := (128, [some (.ref 65), some (.int f), some (.int (nI N)), o3, o4], [.int (r' 7), .ref 65], mz_up (mz_set (mz_set (mz_set m 65 r') 70 a') 71 b') 65 6 gu)) rfl ?_
        rw [hh3]
        refine mz_go 2 (c' := (132, [some (.ref 65), some (.int f), some (.int (nI N)), o3, o4], [.int (r' 5), .int p2, .ref 65], mz_up (mz_set (mz_set (mz_set m 65 r') 70 a') 71 b') 65 6 gu)) rfl ?_
        rw [hh.2.1]
        refine mz_go 4 (c' := (139, [some (.ref 65), some (.int f), some (.int (nI N)), o3, o4], [.int (m 66 10), .int (B 1), .int p2, .ref 65], mz_up (mz_set (mz_set (mz_set m 65 r') 70 a') 71 b') 65 6 gu)) rfl ?_
        rw [h70]
        refine mz_go 4 (c' := (145, [some (.ref 65), some (.int f), some (.int (nI N)), o3, o4], [.int f, .int (((B 1) * (w 7 0)) / 1600), .int p2, .ref 65], mz_up (mz_set (mz_set (mz_set m 65 r') 70 a') 71 b') 65 6 gu)) rfl ?_
        refine mz_div (c' := (146, [some (.ref 65), some (.int f), some (.int (nI N)), o3, o4], [.int ((((B 1) * (w 7 0)) / 1600) / f), .int p2, .ref 65], mz_up (mz_set (mz_set (mz_set m 65 r') 70 a') 71 b') 65 6 gu)) rfl hf ?_
        refine mz_go 1 (c' := (147, [some (.ref 65), some (.int f), some (.int (nI N)), o3, o4], [.int (p2 - ((((B 1) * (w 7 0)) / 1600) / f)), .ref 65], mz_up (mz_set (mz_set (mz_set m 65 r') 70 a') 71 b') 65 6 gu)) rfl ?_
        rw [egv]
        refine mz_go 2 (c' := (151, [some (.ref 65), some (.int f), some (.int (nI N)), o3, o4], [.ref 65], mz_up (mz_up (mz_set (mz_set (mz_set m 65 r') 70 a') 71 b') 65 6 gu) 65 7 gv)) rfl ?_
        refine mz_doQ (R := mz_r151) (as := [.ref 65]) (rest := []) (r1 := some (.int rb)) (m1 := mz_set (mz_set (mz_up (mz_up (mz_set (mz_set (mz_set m 65 r') 70 a') 71 b') 65 6 gu) 65 7 gv) 70 a3) 71 b3) mz_t151 mz_v151_65 rfl rfl rfl rfl rfl (E3.deep (by decide)) ?_
        refine mz_go 11 (c' := (170, [some (.ref 65), some (.int f), some (.int rb), o3, o4], [.int f, .int ((gu * rb) / 100), .int gu, .ref 65], mz_set (mz_set (mz_up (mz_up (mz_set (mz_set (mz_set m 65 r') 70 a') 71 b') 65 6 gu) 65 7 gv) 70 a3) 71 b3)) rfl ?_
        refine mz_div (c' := (171, [some (.ref 65), some (.int f), some (.int rb), o3, o4], [.int (((gu * rb) / 100) / f), .int gu, .ref 65], mz_set (mz_set (mz_up (mz_up (mz_set (mz_set (mz_set m 65 r') 70 a') 71 b') 65 6 gu) 65 7 gv) 70 a3) 71 b3)) rfl hf ?_
        refine mz_go 1 (c' := (172, [some (.ref 65), some (.int f), some (.int rb), o3, o4], [.int (gu - (((gu * rb) / 100) / f)), .ref 65], mz_set (mz_set (mz_up (mz_up (mz_set (mz_set (mz_set m 65 r') 70 a') 71 b') 65 6 gu) 65 7 gv) 70 a3) 71 b3)) rfl ?_
        rw [eru]
        refine mz_go 11 (c' := (190, [some (.ref 65), some (.int f), some (.int rb), o3, o4], [.int f, .int ((gv * rb) / 100), .int gv, .ref 65], mz_up (mz_set (mz_set (mz_up (mz_up (mz_set (mz_set (mz_set m 65 r') 70 a') 71 b') 65 6 gu) 65 7 gv) 70 a3) 71 b3) 65 6 ru)) rfl ?_
        refine mz_div (c' := (191, [some (.ref 65), some (.int f), some (.int rb), o3, o4], [.int (((gv * rb) / 100) / f), .int gv, .ref 65], mz_up (mz_set (mz_set (mz_up (mz_up (mz_set (mz_set (mz_set m 65 r') 70 a') 71 b') 65 6 gu) 65 7 gv) 70 a3) 71 b3) 65 6 ru)) rfl hf ?_
        refine mz_go 1 (c' := (192, [some (.ref 65), some (.int f), some (.int rb), o3, o4], [.int (gv - (((gv * rb) / 100) / f)), .ref 65], mz_up (mz_set (mz_set (mz_up (mz_up (mz_set (mz_set (mz_set m 65 r') 70 a') 71 b') 65 6 gu) 65 7 gv) 70 a3) 71 b3) 65 6 ru)) rfl ?_
        rw [erv]
        refine mz_go 3 (c' := (199, [some (.ref 65), some (.int f), some (.int rb), o3, o4], [.int (r' 4)], mz_up (mz_up (mz_set (mz_set (mz_up (mz_up (mz_set (mz_set (mz_set m 65 r') 70 a') 71 b') 65 6 gu) 65 7 gv) 70 a3) 71 b3) 65 6 ru) 65 7 rv)) rfl ?_
        rw [hh.1]
        refine mz_go 3 (c' := (204, [some (.ref 65), some (.int f), some (.int rb), o3, o4], [.int f, .int ru, .int (B 0)], mz_up (mz_up (mz_set (mz_set (mz_up (mz_up (mz_set (mz_set (mz_set m 65 r') 70 a') 71 b') 65 6 gu) 65 7 gv) 70 a3) 71 b3) 65 6 ru) 65 7 rv)) rfl ?_
        refine mz_div (c' := (205, [some (.ref 65), some (.int f), some (.int rb), o3, o4], [.int (ru / f), .int (B 0)], mz_up (mz_up (mz_set (mz_set (mz_up (mz_up (mz_set (mz_set (mz_set m 65 r') 70 a') 71 b') 65 6 gu) 65 7 gv) 70 a3) 71 b3) 65 6 ru) 65 7 rv)) rfl hf ?_
        refine mz_go 1 (c' := (206, [some (.ref 65), some (.int f), some (.int rb), o3, o4], [.int ((B 0) + (ru / f))], mz_up (mz_up (mz_set (mz_set (mz_up (mz_up (mz_set (mz_set (mz_set m 65 r') 70 a') 71 b') 65 6 gu) 65 7 gv) 70 a3) 71 b3) 65 6 ru) 65 7 rv)) rfl ?_
        rw [eX]
        refine mz_go 3 (c' := (211, [some (.ref 65), some (.int f), some (.int rb), some (.int X), o4], [.int (r' 5)], mz_up (mz_up (mz_set (mz_set (mz_up (mz_up (mz_set (mz_set (mz_set m 65 r') 70 a') 71 b') 65 6 gu) 65 7 gv) 70 a3) 71 b3) 65 6 ru) 65 7 rv)) rfl ?_
        rw [hh.2.1]
        refine mz_go 3 (c' := (216, [some (.ref 65), some (.int f), some (.int rb), some (.int X), o4], [.int f, .int rv, .int (B 1)], mz_up (mz_up (mz_set (mz_set (mz_up (mz_up (mz_set (mz_set (mz_set m 65 r') 70 a') 71 b') 65 6 gu) 65 7 gv) 70 a3) 71 b3) 65 6 ru) 65 7 rv)) rfl ?_
        refine mz_div (c' := (217, [some (.ref 65), some (.int f), some (.int rb), some (.int X), o4], [.int (rv / f), .int (B 1)], mz_up (mz_up (mz_set (mz_set (mz_up (mz_up (mz_set (mz_set (mz_set m 65 r') 70 a') 71 b') 65 6 gu) 65 7 gv) 70 a3) 71 b3) 65 6 ru) 65 7 rv)) rfl hf ?_
        refine mz_go 1 (c' := (218, [some (.ref 65), some (.int f), some (.int rb), some (.int X), o4], [.int ((B 1) + (rv / f))], mz_up (mz_up (mz_set (mz_set (mz_up (mz_up (mz_set (mz_set (mz_set m 65 r') 70 a') 71 b') 65 6 gu) 65 7 gv) 70 a3) 71 b3) 65 6 ru) 65 7 rv)) rfl ?_
        rw [eY]
        refine mz_go 5 (c' := (228, [some (.ref 65), some (.int f), some (.int rb), some (.int X), some (.int Y)], [.int 1600, .int (-1600), .int X, .ref 65], mz_up (mz_up (mz_set (mz_set (mz_up (mz_up (mz_set (mz_set (mz_set m 65 r') 70 a') 71 b') 65 6 gu) 65 7 gv) 70 a3) 71 b3) 65 6 ru) 65 7 rv)) rfl ?_
        refine mz_doQ (R := mz_r130) (as := [.int X, .int (-1600), .int 1600]) (rest := [.ref 65]) (r1 := some (.int (sm_held X (-1600) 1600))) (m1 := mz_up (mz_up (mz_set (mz_set (mz_up (mz_up (mz_set (mz_set (mz_set m 65 r') 70 a') 71 b') 65 6 gu) 65 7 gv) 70 a3) 71 b3) 65 6 ru) 65 7 rv) mz_t130 mz_v130 rfl rfl rfl rfl rfl ((ct_held (m := mz_up (mz_up (mz_set (mz_set (mz_up (mz_up (mz_set (mz_set (mz_set m 65 r') 70 a') 71 b') 65 6 gu) 65 7 gv) 70 a3) 71 b3) 65 6 ru) 65 7 rv) X (-1600) 1600).deep (by decide)) ?_
        refine mz_go 5 (c' := (243, [some (.ref 65), some (.int f), some (.int rb), some (.int X), some (.int Y)], [.int 1600, .int (-1600), .int Y, .ref 65], mz_up (mz_up (mz_up (mz_set (mz_set (mz_up (mz_up (mz_set (mz_set (mz_set m 65 r') 70 a') 71 b') 65 6 gu) 65 7 gv) 70 a3) 71 b3) 65 6 ru) 65 7 rv) 65 4 (sm_held X (-1600) 1600))) rfl ?_
        refine mz_doQ (R := mz_r130) (as := [.int Y, .int (-1600), .int 1600]) (rest := [.ref 65]) (r1 := some (.int (sm_held Y (-1600) 1600))) (m1 := mz_up (mz_up (mz_up (mz_set (mz_set (mz_up (mz_up (mz_set (mz_set (mz_set m 65 r') 70 a') 71 b') 65 6 gu) 65 7 gv) 70 a3) 71 b3) 65 6 ru) 65 7 rv) 65 4 (sm_held X (-1600) 1600)) mz_t130 mz_v130 rfl rfl rfl rfl rfl ((ct_held (m := mz_up (mz_up (mz_up (mz_set (mz_set (mz_up (mz_up (mz_set (mz_set (mz_set m 65 r') 70 a') 71 b') 65 6 gu) 65 7 gv) 70 a3) 71 b3) 65 6 ru) 65 7 rv) 65 4 (sm_held X (-1600) 1600)) Y (-1600) 1600).deep (by decide)) ?_
        refine mz_go 6 (c' := (if (sm_held X (-1600) 1600) = X then 258 else 265, [some (.ref 65), some (.int f), some (.int rb), some (.int X), some (.int Y)], [.ref 65], mz_up (mz_up (mz_up (mz_up (mz_set (mz_set (mz_up (mz_up (mz_set (mz_set (mz_set m 65 r') 70 a') 71 b') 65 6 gu) 65 7 gv) 70 a3) 71 b3) 65 6 ru) 65 7 rv) 65 4 (sm_held X (-1600) 1600)) 65 5 (sm_held Y (-1600) 1600))) rfl ?_
        refine mz_ifF c1 ?_
        refine mz_go 7 (c' := (if (sm_held Y (-1600) 1600) = Y then 279 else 286, [some (.ref 65), some (.int f), some (.int rb), some (.int X), some (.int Y)], [.ref 65], mz_up (mz_up (mz_up (mz_up (mz_up (mz_set (mz_set (mz_up (mz_up (mz_set (mz_set (mz_set m 65 r') 70 a') 71 b') 65 6 gu) 65 7 gv) 70 a3) 71 b3) 65 6 ru) 65 7 rv) 65 4 (sm_held X (-1600) 1600)) 65 5 (sm_held Y (-1600) 1600)) 65 6 0)) rfl ?_
        refine mz_ifF c2 ?_
        refine mz_go 5 (c' := (295, [some (.ref 65), some (.int f), some (.int rb), some (.int X), some (.int Y)], [.int (r' 8), .ref 65], mz_up (mz_up (mz_up (mz_up (mz_up (mz_up (mz_set (mz_set (mz_up (mz_up (mz_set (mz_set (mz_set m 65 r') 70 a') 71 b') 65 6 gu) 65 7 gv) 70 a3) 71 b3) 65 6 ru) 65 7 rv) 65 4 (sm_held X (-1600) 1600)) 65 5 (sm_held Y (-1600) 1600)) 65 6 0) 65 7 0)) rfl ?_
        rw [hh.2.2.1]
        refine mz_go 3 (c' := (300, [some (.ref 65), some (.int f), some (.int rb), some (.int X), some (.int Y)], [], mz_up (mz_up (mz_up (mz_up (mz_up (mz_up (mz_up (mz_set (mz_set (mz_up (mz_up (mz_set (mz_set (mz_set m 65 r') 70 a') 71 b') 65 6 gu) 65 7 gv) 70 a3) 71 b3) 65 6 ru) 65 7 rv) 65 4 (sm_held X (-1600) 1600)) 65 5 (sm_held Y (-1600) 1600)) 65 6 0) 65 7 0) 65 8 ((B 4) + 1))) rfl ?_
        exact mz_ret rfl
