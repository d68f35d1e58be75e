theorem sm_dec1 (d : Nat) : nI (d + 1) + (-1) = nI d := by rw [sm_dec, nI_pred]
theorem sm_chs0 : ∀ j, j < 3 → ∃ e, e < 128 ∧ sm_ch0 j = nI e := by
  intro j hj
  rcases (show j = 0 ∨ j = 1 ∨ j = 2 by omega) with rfl | rfl | rfl
  · exact ⟨114, by decide, rfl⟩
  · exact ⟨115, by decide, rfl⟩
  · exact ⟨110, by decide, rfl⟩
theorem sm_chs1 : ∀ j, j < 3 → ∃ e, e < 128 ∧ sm_ch1 j = nI e := by
  intro j hj
  rcases (show j = 0 ∨ j = 1 ∨ j = 2 by omega) with rfl | rfl | rfl
  · exact ⟨118, by decide, rfl⟩
  · exact ⟨114, by decide, rfl⟩
  · exact ⟨110, by decide, rfl⟩
theorem sm_chs2 : ∀ j, j < 5 → ∃ e, e < 128 ∧ sm_ch2 j = nI e := by
  intro j hj
  rcases (show j = 0 ∨ j = 1 ∨ j = 2 ∨ j = 3 ∨ j = 4 by omega) with rfl | rfl | rfl | rfl | rfl
  · exact ⟨99, by decide, rfl⟩
  · exact ⟨108, by decide, rfl⟩
  · exact ⟨120, by decide, rfl⟩
  · exact ⟨121, by decide, rfl⟩
  · exact ⟨101, by decide, rfl⟩
set_option maxHeartbeats 4000000 in
set_option maxRecDepth 100000 in
theorem ct_evl0 {w m : mz_M} {T c : Nat} (hT : w 10 2 = nI T) (hw : sm_wf T c (w 11) (w 12)) (hc : c ≤ 5) (ht : sm_TR w (m 66) 10 170 sm_ch0) (hch : ∀ j, j < c → ∃ e, e < 128 ∧ sm_ch0 j = nI e) (nm : Nat → Int32) (hn : ∀ j, j < c → m 70 (sm_ch0 j).toNatClampNeg = nm j) : ∀ n k : Nat, k + n = T → ∀ (g : Nat → Int32) (l5 l6 : Option Value), (∀ j, j < sm_dp (w 11) k → g j = sm_st (w 11) (w 12) nm k j) → ∃ g', mz_Ex 10 mz_k173 (14, [some (.ref 65), some (.int 0), some (.int 170), some (.int (nI (sm_dp (w 11) k))), some (.int (nI k)), l5, l6], [], mz_set m 71 g) (some (.int (sm_ev T (w 11) (w 12) nm)), mz_set m 71 g') := by
  have hT60 := hw.1
  have hT2 : m 66 170 = nI T := ht.1.trans hT
  have hcl : (w 10 2).toNatClampNeg = T := by rw [hT, nI_clamp (by omega)]
  intro n
  induction n with
  | zero =>
    intro k hk g l5 l6 hg
    have hk2 : k = T := by omega
    subst hk2
    have hd := hw.2.1
    rw [hd]
    refine ⟨g, ?_⟩
    refine mz_go 5 (c' := (22, [some (.ref 65), some (.int 0), some (.int 170), some (.int (nI 1)), some (.int (nI k)), l5, l6], [.int (m 66 170), .int (nI k)], mz_set m 71 g)) rfl ?_
    rw [hT2]
    refine mz_go 1 (c' := (if (nI k) ≤ (nI k) then 164 else 25, [some (.ref 65), some (.int 0), some (.int 170), some (.int (nI 1)), some (.int (nI k)), l5, l6], [], mz_set m 71 g)) rfl ?_
    refine mz_ifT (show ((nI k) ≤ (nI k)) from (sm_leN rfl rfl (show k ≤ k by omega) (show k < 2 ^ 31 by omega))) ?_
    refine mz_go 4 (c' := (170, [some (.ref 65), some (.int 0), some (.int 170), some (.int (nI 1)), some (.int (nI k)), l5, l6], [.int (g 0)], mz_set m 71 g)) rfl ?_
    rw [hg 0 (by rw [hd]; decide)]
    exact mz_ret rfl
  | succ n ih =>
    intro k hk g l5 l6 hg
    have hwk := hw.2.2 k (by omega)
    have hdk := sm_dp_le (w 11) k
    obtain ⟨k0, k1, k2, k3⟩ := ht.2 k (by omega)
    obtain ⟨d, hd⟩ : ∃ d, sm_dp (w 11) k = d := ⟨_, rfl⟩
    rw [hd] at hg hdk ⊢
    rcases hwk with h0 | ⟨h0, j, hj, hv⟩ | ⟨h0, hd1⟩ | ⟨h0, hd1⟩
    · have ha : m 66 (171 + (2 * k)) = 0 := (k0 h0).1
      have hb : m 66 (172 + (2 * k)) = w 12 k := (k0 h0).2
      have e1 : sm_dp (w 11) (k + 1) = d + 1 := by
        show (if _ then _ else if _ then _ else _) = _
        simp [h0, hd]
      have e2 : sm_st (w 11) (w 12) nm (k + 1) = sm_upd (sm_st (w 11) (w 12) nm k) (d) (w 12 k) := by
        show (if w 11 k = 0 then _ else if w 11 k = 1 then _ else if w 11 k = 33 then _ else _) = _
        rw [if_pos h0, hd]
      obtain ⟨g', E⟩ := ih (k + 1) (by omega) (sm_upd g (d) (w 12 k)) (some (.int (0))) (some (.int (w 12 k))) (by
        rw [e1, e2]
        exact sm_upd_eq (fun j hj hne => hg j (by omega)))
      rw [e1, nI_succ k, nI_succ d, ← sm_up_set] at E
      refine ⟨g', ?_⟩
      refine mz_go 5 (c' := (22, [some (.ref 65), some (.int 0), some (.int 170), some (.int (nI d)), some (.int (nI k)), l5, l6], [.int (m 66 170), .int (nI k)], mz_set m 71 g)) rfl ?_
      rw [hT2]
      refine mz_go 1 (c' := (if (nI T) ≤ (nI k) then 164 else 25, [some (.ref 65), some (.int 0), some (.int 170), some (.int (nI d)), some (.int (nI k)), l5, l6], [], mz_set m 71 g)) rfl ?_
      refine mz_ifF (show ¬ ((nI T) ≤ (nI k)) from (sm_nleN rfl rfl (show k < T by omega) (show T < 2 ^ 31 by omega))) ?_
      refine mz_go 9 (c' := (37, [some (.ref 65), some (.int 0), some (.int 170), some (.int (nI d)), some (.int (nI k)), l5, l6], [.int (171 + (2 * (nI k))), .ref 66], mz_set m 71 g)) rfl ?_
      refine mz_arr (c' := (38, [some (.ref 65), some (.int 0), some (.int 170), some (.int (nI d)), some (.int (nI k)), l5, l6], [.int (m 66 ((171 + (2 * (nI k))).toNatClampNeg))], mz_set m 71 g)) rfl (show mz_in (171 + (2 * (nI k))) 650 = true from sm_inN (sm_addN rfl (sm_mulN rfl rfl)) (show (171 + (2 * k)) < 650 by omega) (by decide)) ?_
      rw [show (171 + (2 * (nI k)) : Int32).toNatClampNeg = (171 + (2 * k)) from sm_clN (sm_addN rfl (sm_mulN rfl rfl)) (show (171 + (2 * k)) < 2 ^ 31 by omega)]
      rw [ha]
      refine mz_go 10 (c' := (52, [some (.ref 65), some (.int 0), some (.int 170), some (.int (nI d)), some (.int (nI k)), some (.int 0), l6], [.int (172 + (2 * (nI k))), .ref 66], mz_set m 71 g)) rfl ?_
      refine mz_arr (c' := (53, [some (.ref 65), some (.int 0), some (.int 170), some (.int (nI d)), some (.int (nI k)), some (.int 0), l6], [.int (m 66 ((172 + (2 * (nI k))).toNatClampNeg))], mz_set m 71 g)) rfl (show mz_in (172 + (2 * (nI k))) 650 = true from sm_inN (sm_addN rfl (sm_mulN rfl rfl)) (show (172 + (2 * k)) < 650 by omega) (by decide)) ?_
      rw [show (172 + (2 * (nI k)) : Int32).toNatClampNeg = (172 + (2 * k)) from sm_clN (sm_addN rfl (sm_mulN rfl rfl)) (show (172 + (2 * k)) < 2 ^ 31 by omega)]
      rw [hb]
      refine mz_go 10 (c' := (88, [some (.ref 65), some (.int 0), some (.int 170), some (.int (nI d)), some (.int (nI k)), some (.int 0), some (.int (w 12 k))], [.int (w 12 k), .int (nI d), .ref 71], mz_set m 71 g)) rfl ?_
      refine mz_arr (c' := (89, [some (.ref 65), some (.int 0), some (.int 170), some (.int (nI d)), some (.int (nI k)), some (.int 0), some (.int (w 12 k))], [], mz_up (mz_set m 71 g) 71 ((nI d).toNatClampNeg) (w 12 k))) rfl (show mz_in (nI d) 64 = true from sm_inN rfl (show d < 64 by omega) (by decide)) ?_
      rw [show (nI d : Int32).toNatClampNeg = d from sm_clN rfl (show d < 2 ^ 31 by omega)]
      refine mz_go 4 (c' := (14, [some (.ref 65), some (.int 0), some (.int 170), some (.int ((nI d) + 1)), some (.int ((nI k) + 1)), some (.int 0), some (.int (w 12 k))], [], mz_up (mz_set m 71 g) 71 d (w 12 k))) rfl ?_
      exact E
    · obtain ⟨e, he, hce⟩ := hch j hj
      have ha : m 66 (171 + (2 * k)) = 1 := (k1 h0).1
      have hb : m 66 (172 + (2 * k)) = nI e := by
        rw [show m 66 (172 + (2 * k)) = sm_ch0 (w 12 k).toNatClampNeg from (k1 h0).2, hv, nI_clamp (by omega), hce]
      have hne : m 70 e = nm j := by
        rw [← hn j hj, hce, nI_clamp (by omega)]
      have e1 : sm_dp (w 11) (k + 1) = d + 1 := by
        show (if _ then _ else if _ then _ else _) = _
        simp [h0, hd]
      have e2 : sm_st (w 11) (w 12) nm (k + 1) = sm_upd (sm_st (w 11) (w 12) nm k) (d) (nm j) := by
        show (if w 11 k = 0 then _ else if w 11 k = 1 then _ else if w 11 k = 33 then _ else _) = _
        rw [h0, if_neg (by decide), if_pos rfl, hd, hv, nI_clamp (by omega)]
      obtain ⟨g', E⟩ := ih (k + 1) (by omega) (sm_upd g (d) (nm j)) (some (.int (1))) (some (.int (nI e))) (by
        rw [e1, e2]
        exact sm_upd_eq (fun j hj hne => hg j (by omega)))
      rw [e1, nI_succ k, nI_succ d, ← sm_up_set] at E
      refine ⟨g', ?_⟩
      refine mz_go 5 (c' := (22, [some (.ref 65), some (.int 0), some (.int 170), some (.int (nI d)), some (.int (nI k)), l5, l6], [.int (m 66 170), .int (nI k)], mz_set m 71 g)) rfl ?_
      rw [hT2]
      refine mz_go 1 (c' := (if (nI T) ≤ (nI k) then 164 else 25, [some (.ref 65), some (.int 0), some (.int 170), some (.int (nI d)), some (.int (nI k)), l5, l6], [], mz_set m 71 g)) rfl ?_
      refine mz_ifF (show ¬ ((nI T) ≤ (nI k)) from (sm_nleN rfl rfl (show k < T by omega) (show T < 2 ^ 31 by omega))) ?_
      refine mz_go 9 (c' := (37, [some (.ref 65), some (.int 0), some (.int 170), some (.int (nI d)), some (.int (nI k)), l5, l6], [.int (171 + (2 * (nI k))), .ref 66], mz_set m 71 g)) rfl ?_
      refine mz_arr (c' := (38, [some (.ref 65), some (.int 0), some (.int 170), some (.int (nI d)), some (.int (nI k)), l5, l6], [.int (m 66 ((171 + (2 * (nI k))).toNatClampNeg))], mz_set m 71 g)) rfl (show mz_in (171 + (2 * (nI k))) 650 = true from sm_inN (sm_addN rfl (sm_mulN rfl rfl)) (show (171 + (2 * k)) < 650 by omega) (by decide)) ?_
      rw [show (171 + (2 * (nI k)) : Int32).toNatClampNeg = (171 + (2 * k)) from sm_clN (sm_addN rfl (sm_mulN rfl rfl)) (show (171 + (2 * k)) < 2 ^ 31 by omega)]
      rw [ha]
      refine mz_go 10 (c' := (52, [some (.ref 65), some (.int 0), some (.int 170), some (.int (nI d)), some (.int (nI k)), some (.int 1), l6], [.int (172 + (2 * (nI k))), .ref 66], mz_set m 71 g)) rfl ?_
      refine mz_arr (c' := (53, [some (.ref 65), some (.int 0), some (.int 170), some (.int (nI d)), some (.int (nI k)), some (.int 1), l6], [.int (m 66 ((172 + (2 * (nI k))).toNatClampNeg))], mz_set m 71 g)) rfl (show mz_in (172 + (2 * (nI k))) 650 = true from sm_inN (sm_addN rfl (sm_mulN rfl rfl)) (show (172 + (2 * k)) < 650 by omega) (by decide)) ?_
      rw [show (172 + (2 * (nI k)) : Int32).toNatClampNeg = (172 + (2 * k)) from sm_clN (sm_addN rfl (sm_mulN rfl rfl)) (show (172 + (2 * k)) < 2 ^ 31 by omega)]
      rw [hb]
      refine mz_go 14 (c' := (87, [some (.ref 65), some (.int 0), some (.int 170), some (.int (nI d)), some (.int (nI k)), some (.int 1), some (.int (nI e))], [.int (nI e), .ref 70, .int (nI d), .ref 71], mz_set m 71 g)) rfl ?_
      refine mz_arr (c' := (88, [some (.ref 65), some (.int 0), some (.int 170), some (.int (nI d)), some (.int (nI k)), some (.int 1), some (.int (nI e))], [.int (m 70 ((nI e).toNatClampNeg)), .int (nI d), .ref 71], mz_set m 71 g)) rfl (show mz_in (nI e) 128 = true from sm_inN rfl (show e < 128 by omega) (by decide)) ?_
      rw [show (nI e : Int32).toNatClampNeg = e from sm_clN rfl (show e < 2 ^ 31 by omega)]
      rw [hne]
      refine mz_arr (c' := (89, [some (.ref 65), some (.int 0), some (.int 170), some (.int (nI d)), some (.int (nI k)), some (.int 1), some (.int (nI e))], [], mz_up (mz_set m 71 g) 71 ((nI d).toNatClampNeg) (nm j))) rfl (show mz_in (nI d) 64 = true from sm_inN rfl (show d < 64 by omega) (by decide)) ?_
      rw [show (nI d : Int32).toNatClampNeg = d from sm_clN rfl (show d < 2 ^ 31 by omega)]
      refine mz_go 4 (c' := (14, [some (.ref 65), some (.int 0), some (.int 170), some (.int ((nI d) + 1)), some (.int ((nI k) + 1)), some (.int 1), some (.int (nI e))], [], mz_up (mz_set m 71 g) 71 d (nm j))) rfl ?_
      exact E
    · have ha : m 66 (171 + (2 * k)) = 2 := k2 h0
      obtain ⟨d, rfl⟩ : ∃ c, d = c + 1 := ⟨d - 1, by omega⟩
      by_cases hc : g d = 0
      · have e1 : sm_dp (w 11) (k + 1) = d + 1 := by
          show (if _ then _ else if _ then _ else _) = _
          simp [h0, hd]
        have e2 : sm_st (w 11) (w 12) nm (k + 1) = sm_upd (sm_st (w 11) (w 12) nm k) (d) (1) := by
          show (if w 11 k = 0 then _ else if w 11 k = 1 then _ else if w 11 k = 33 then _ else _) = _
          rw [h0, if_neg (by decide), if_neg (by decide), if_pos rfl, hd, Nat.add_sub_cancel, ← hg d (by omega)]
          simp [sm_bI, hc]
        obtain ⟨g', E⟩ := ih (k + 1) (by omega) (sm_upd g (d) (1)) (some (.int (2))) (some (.int (m 66 (172 + (2 * k))))) (by
          rw [e1, e2]
          exact sm_upd_eq (fun j hj hne => hg j (by omega)))
        rw [e1, nI_succ k, ← sm_up_set] at E
        refine ⟨g', ?_⟩
        refine mz_go 5 (c' := (22, [some (.ref 65), some (.int 0), some (.int 170), some (.int (nI (d + 1))), some (.int (nI k)), l5, l6], [.int (m 66 170), .int (nI k)], mz_set m 71 g)) rfl ?_
        rw [hT2]
        refine mz_go 1 (c' := (if (nI T) ≤ (nI k) then 164 else 25, [some (.ref 65), some (.int 0), some (.int 170), some (.int (nI (d + 1))), some (.int (nI k)), l5, l6], [], mz_set m 71 g)) rfl ?_
        refine mz_ifF (show ¬ ((nI T) ≤ (nI k)) from (sm_nleN rfl rfl (show k < T by omega) (show T < 2 ^ 31 by omega))) ?_
        refine mz_go 9 (c' := (37, [some (.ref 65), some (.int 0), some (.int 170), some (.int (nI (d + 1))), some (.int (nI k)), l5, l6], [.int (171 + (2 * (nI k))), .ref 66], mz_set m 71 g)) rfl ?_
        refine mz_arr (c' := (38, [some (.ref 65), some (.int 0), some (.int 170), some (.int (nI (d + 1))), some (.int (nI k)), l5, l6], [.int (m 66 ((171 + (2 * (nI k))).toNatClampNeg))], mz_set m 71 g)) rfl (show mz_in (171 + (2 * (nI k))) 650 = true from sm_inN (sm_addN rfl (sm_mulN rfl rfl)) (show (171 + (2 * k)) < 650 by omega) (by decide)) ?_
        rw [show (171 + (2 * (nI k)) : Int32).toNatClampNeg = (171 + (2 * k)) from sm_clN (sm_addN rfl (sm_mulN rfl rfl)) (show (171 + (2 * k)) < 2 ^ 31 by omega)]
        rw [ha]
        refine mz_go 10 (c' := (52, [some (.ref 65), some (.int 0), some (.int 170), some (.int (nI (d + 1))), some (.int (nI k)), some (.int 2), l6], [.int (172 + (2 * (nI k))), .ref 66], mz_set m 71 g)) rfl ?_
        refine mz_arr (c' := (53, [some (.ref 65), some (.int 0), some (.int 170), some (.int (nI (d + 1))), some (.int (nI k)), some (.int 2), l6], [.int (m 66 ((172 + (2 * (nI k))).toNatClampNeg))], mz_set m 71 g)) rfl (show mz_in (172 + (2 * (nI k))) 650 = true from sm_inN (sm_addN rfl (sm_mulN rfl rfl)) (show (172 + (2 * k)) < 650 by omega) (by decide)) ?_
        rw [show (172 + (2 * (nI k)) : Int32).toNatClampNeg = (172 + (2 * k)) from sm_clN (sm_addN rfl (sm_mulN rfl rfl)) (show (172 + (2 * k)) < 2 ^ 31 by omega)]
        refine mz_go 14 (c' := (108, [some (.ref 65), some (.int 0), some (.int 170), some (.int (nI (d + 1))), some (.int (nI k)), some (.int 2), some (.int (m 66 (172 + (2 * k))))], [.int ((nI (d + 1)) - 1), .ref 71], mz_set m 71 g)) rfl ?_
        rw [nI_pred d]
        refine mz_go 5 (c' := (115, [some (.ref 65), some (.int 0), some (.int 170), some (.int (nI (d + 1))), some (.int (nI k)), some (.int 2), some (.int (m 66 (172 + (2 * k))))], [.int ((nI (d + 1)) - 1), .ref 71, .int (nI d), .ref 71], mz_set m 71 g)) rfl ?_
        rw [nI_pred d]
        refine mz_arr (c' := (116, [some (.ref 65), some (.int 0), some (.int 170), some (.int (nI (d + 1))), some (.int (nI k)), some (.int 2), some (.int (m 66 (172 + (2 * k))))], [.int (g ((nI d).toNatClampNeg)), .int (nI d), .ref 71], mz_set m 71 g)) rfl (show mz_in (nI d) 64 = true from sm_inN rfl (show d < 64 by omega) (by decide)) ?_
        rw [show (nI d : Int32).toNatClampNeg = d from sm_clN rfl (show d < 2 ^ 31 by omega)]
        refine mz_go 1 (c' := (if (g d) = 0 then 119 else 123, [some (.ref 65), some (.int 0), some (.int 170), some (.int (nI (d + 1))), some (.int (nI k)), some (.int 2), some (.int (m 66 (172 + (2 * k))))], [.int (nI d), .ref 71], mz_set m 71 g)) rfl ?_
        refine mz_ifT hc ?_
        refine mz_go 2 (c' := (124, [some (.ref 65), some (.int 0), some (.int 170), some (.int (nI (d + 1))), some (.int (nI k)), some (.int 2), some (.int (m 66 (172 + (2 * k))))], [.int 1, .int (nI d), .ref 71], mz_set m 71 g)) rfl ?_
        refine mz_arr (c' := (125, [some (.ref 65), some (.int 0), some (.int 170), some (.int (nI (d + 1))), some (.int (nI k)), some (.int 2), some (.int (m 66 (172 + (2 * k))))], [], mz_up (mz_set m 71 g) 71 ((nI d).toNatClampNeg) 1)) rfl (show mz_in (nI d) 64 = true from sm_inN rfl (show d < 64 by omega) (by decide)) ?_
        rw [show (nI d : Int32).toNatClampNeg = d from sm_clN rfl (show d < 2 ^ 31 by omega)]
        refine mz_go 3 (c' := (14, [some (.ref 65), some (.int 0), some (.int 170), some (.int (nI (d + 1))), some (.int ((nI k) + 1)), some (.int 2), some (.int (m 66 (172 + (2 * k))))], [], mz_up (mz_set m 71 g) 71 d 1)) rfl ?_
        exact E
      · have e1 : sm_dp (w 11) (k + 1) = d + 1 := by
          show (if _ then _ else if _ then _ else _) = _
          simp [h0, hd]
        have e2 : sm_st (w 11) (w 12) nm (k + 1) = sm_upd (sm_st (w 11) (w 12) nm k) (d) (0) := by
          show (if w 11 k = 0 then _ else if w 11 k = 1 then _ else if w 11 k = 33 then _ else _) = _
          rw [h0, if_neg (by decide), if_neg (by decide), if_pos rfl, hd, Nat.add_sub_cancel, ← hg d (by omega)]
          simp [sm_bI, hc]
        obtain ⟨g', E⟩ := ih (k + 1) (by omega) (sm_upd g (d) (0)) (some (.int (2))) (some (.int (m 66 (172 + (2 * k))))) (by
          rw [e1, e2]
          exact sm_upd_eq (fun j hj hne => hg j (by omega)))
        rw [e1, nI_succ k, ← sm_up_set] at E
        refine ⟨g', ?_⟩
        refine mz_go 5 (c' := (22, [some (.ref 65), some (.int 0), some (.int 170), some (.int (nI (d + 1))), some (.int (nI k)), l5, l6], [.int (m 66 170), .int (nI k)], mz_set m 71 g)) rfl ?_
        rw [hT2]
        refine mz_go 1 (c' := (if (nI T) ≤ (nI k) then 164 else 25, [some (.ref 65), some (.int 0), some (.int 170), some (.int (nI (d + 1))), some (.int (nI k)), l5, l6], [], mz_set m 71 g)) rfl ?_
        refine mz_ifF (show ¬ ((nI T) ≤ (nI k)) from (sm_nleN rfl rfl (show k < T by omega) (show T < 2 ^ 31 by omega))) ?_
        refine mz_go 9 (c' := (37, [some (.ref 65), some (.int 0), some (.int 170), some (.int (nI (d + 1))), some (.int (nI k)), l5, l6], [.int (171 + (2 * (nI k))), .ref 66], mz_set m 71 g)) rfl ?_
        refine mz_arr (c' := (38, [some (.ref 65), some (.int 0), some (.int 170), some (.int (nI (d + 1))), some (.int (nI k)), l5, l6], [.int (m 66 ((171 + (2 * (nI k))).toNatClampNeg))], mz_set m 71 g)) rfl (show mz_in (171 + (2 * (nI k))) 650 = true from sm_inN (sm_addN rfl (sm_mulN rfl rfl)) (show (171 + (2 * k)) < 650 by omega) (by decide)) ?_
        rw [show (171 + (2 * (nI k)) : Int32).toNatClampNeg = (171 + (2 * k)) from sm_clN (sm_addN rfl (sm_mulN rfl rfl)) (show (171 + (2 * k)) < 2 ^ 31 by omega)]
        rw [ha]
        refine mz_go 10 (c' := (52, [some (.ref 65), some (.int 0), some (.int 170), some (.int (nI (d + 1))), some (.int (nI k)), some (.int 2), l6], [.int (172 + (2 * (nI k))), .ref 66], mz_set m 71 g)) rfl ?_
        refine mz_arr (c' := (53, [some (.ref 65), some (.int 0), some (.int 170), some (.int (nI (d + 1))), some (.int (nI k)), some (.int 2), l6], [.int (m 66 ((172 + (2 * (nI k))).toNatClampNeg))], mz_set m 71 g)) rfl (show mz_in (172 + (2 * (nI k))) 650 = true from sm_inN (sm_addN rfl (sm_mulN rfl rfl)) (show (172 + (2 * k)) < 650 by omega) (by decide)) ?_
        rw [show (172 + (2 * (nI k)) : Int32).toNatClampNeg = (172 + (2 * k)) from sm_clN (sm_addN rfl (sm_mulN rfl rfl)) (show (172 + (2 * k)) < 2 ^ 31 by omega)]
        refine mz_go 14 (c' := (108, [some (.ref 65), some (.int 0), some (.int 170), some (.int (nI (d + 1))), some (.int (nI k)), some (.int 2), some (.int (m 66 (172 + (2 * k))))], [.int ((nI (d + 1)) - 1), .ref 71], mz_set m 71 g)) rfl ?_
        rw [nI_pred d]
        refine mz_go 5 (c' := (115, [some (.ref 65), some (.int 0), some (.int 170), some (.int (nI (d + 1))), some (.int (nI k)), some (.int 2), some (.int (m 66 (172 + (2 * k))))], [.int ((nI (d + 1)) - 1), .ref 71, .int (nI d), .ref 71], mz_set m 71 g)) rfl ?_
        rw [nI_pred d]
        refine mz_arr (c' := (116, [some (.ref 65), some (.int 0), some (.int 170), some (.int (nI (d + 1))), some (.int (nI k)), some (.int 2), some (.int (m 66 (172 + (2 * k))))], [.int (g ((nI d).toNatClampNeg)), .int (nI d), .ref 71], mz_set m 71 g)) rfl (show mz_in (nI d) 64 = true from sm_inN rfl (show d < 64 by omega) (by decide)) ?_
        rw [show (nI d : Int32).toNatClampNeg = d from sm_clN rfl (show d < 2 ^ 31 by omega)]
        refine mz_go 1 (c' := (if (g d) = 0 then 119 else 123, [some (.ref 65), some (.int 0), some (.int 170), some (.int (nI (d + 1))), some (.int (nI k)), some (.int 2), some (.int (m 66 (172 + (2 * k))))], [.int (nI d), .ref 71], mz_set m 71 g)) rfl ?_
        refine mz_ifF hc ?_
        refine mz_go 1 (c' := (124, [some (.ref 65), some (.int 0), some (.int 170), some (.int (nI (d + 1))), some (.int (nI k)), some (.int 2), some (.int (m 66 (172 + (2 * k))))], [.int 0, .int (nI d), .ref 71], mz_set m 71 g)) rfl ?_
        refine mz_arr (c' := (125, [some (.ref 65), some (.int 0), some (.int 170), some (.int (nI (d + 1))), some (.int (nI k)), some (.int 2), some (.int (m 66 (172 + (2 * k))))], [], mz_up (mz_set m 71 g) 71 ((nI d).toNatClampNeg) 0)) rfl (show mz_in (nI d) 64 = true from sm_inN rfl (show d < 64 by omega) (by decide)) ?_
        rw [show (nI d : Int32).toNatClampNeg = d from sm_clN rfl (show d < 2 ^ 31 by omega)]
        refine mz_go 3 (c' := (14, [some (.ref 65), some (.int 0), some (.int 170), some (.int (nI (d + 1))), some (.int ((nI k) + 1)), some (.int 2), some (.int (m 66 (172 + (2 * k))))], [], mz_up (mz_set m 71 g) 71 d 0)) rfl ?_
        exact E
    · obtain ⟨d, rfl⟩ : ∃ c, d = c + 2 := ⟨d - 2, by omega⟩
      obtain ⟨n0, n1, n33, n2⟩ := sm_sgn_ne h0
      have ha : m 66 (171 + (2 * k)) = 3 := (k3 h0).1
      have hb : m 66 (172 + (2 * k)) = w 11 k := (k3 h0).2
      have e1 : sm_dp (w 11) (k + 1) = d + 1 := by
        show (if _ then _ else if _ then _ else _) = _
        simp [n0, n1, n33, hd]
      have e2 : sm_st (w 11) (w 12) nm (k + 1) = sm_upd (sm_st (w 11) (w 12) nm k) (d) (sm_op (w 11 k) (g d) (g (d + 1))) := by
        show (if w 11 k = 0 then _ else if w 11 k = 1 then _ else if w 11 k = 33 then _ else _) = _
        rw [if_neg n0, if_neg n1, if_neg n33, hd, hg d (by omega), hg (d + 1) (by omega)]
        rfl
      obtain ⟨g', E⟩ := ih (k + 1) (by omega) (sm_upd g (d) (sm_op (w 11 k) (g d) (g (d + 1)))) (some (.int (3))) (some (.int (w 11 k))) (by
        rw [e1, e2]
        exact sm_upd_eq (fun j hj hne => hg j (by omega)))
      rw [e1, nI_succ k, ← sm_up_set] at E
      refine ⟨g', ?_⟩
      refine mz_go 5 (c' := (22, [some (.ref 65), some (.int 0), some (.int 170), some (.int (nI (d + 2))), some (.int (nI k)), l5, l6], [.int (m 66 170), .int (nI k)], mz_set m 71 g)) rfl ?_
      rw [hT2]
      refine mz_go 1 (c' := (if (nI T) ≤ (nI k) then 164 else 25, [some (.ref 65), some (.int 0), some (.int 170), some (.int (nI (d + 2))), some (.int (nI k)), l5, l6], [], mz_set m 71 g)) rfl ?_
      refine mz_ifF (show ¬ ((nI T) ≤ (nI k)) from (sm_nleN rfl rfl (show k < T by omega) (show T < 2 ^ 31 by omega))) ?_
      refine mz_go 9 (c' := (37, [some (.ref 65), some (.int 0), some (.int 170), some (.int (nI (d + 2))), some (.int (nI k)), l5, l6], [.int (171 + (2 * (nI k))), .ref 66], mz_set m 71 g)) rfl ?_
      refine mz_arr (c' := (38, [some (.ref 65), some (.int 0), some (.int 170), some (.int (nI (d + 2))), some (.int (nI k)), l5, l6], [.int (m 66 ((171 + (2 * (nI k))).toNatClampNeg))], mz_set m 71 g)) rfl (show mz_in (171 + (2 * (nI k))) 650 = true from sm_inN (sm_addN rfl (sm_mulN rfl rfl)) (show (171 + (2 * k)) < 650 by omega) (by decide)) ?_
      rw [show (171 + (2 * (nI k)) : Int32).toNatClampNeg = (171 + (2 * k)) from sm_clN (sm_addN rfl (sm_mulN rfl rfl)) (show (171 + (2 * k)) < 2 ^ 31 by omega)]
      rw [ha]
      refine mz_go 10 (c' := (52, [some (.ref 65), some (.int 0), some (.int 170), some (.int (nI (d + 2))), some (.int (nI k)), some (.int 3), l6], [.int (172 + (2 * (nI k))), .ref 66], mz_set m 71 g)) rfl ?_
      refine mz_arr (c' := (53, [some (.ref 65), some (.int 0), some (.int 170), some (.int (nI (d + 2))), some (.int (nI k)), some (.int 3), l6], [.int (m 66 ((172 + (2 * (nI k))).toNatClampNeg))], mz_set m 71 g)) rfl (show mz_in (172 + (2 * (nI k))) 650 = true from sm_inN (sm_addN rfl (sm_mulN rfl rfl)) (show (172 + (2 * k)) < 650 by omega) (by decide)) ?_
      rw [show (172 + (2 * (nI k)) : Int32).toNatClampNeg = (172 + (2 * k)) from sm_clN (sm_addN rfl (sm_mulN rfl rfl)) (show (172 + (2 * k)) < 2 ^ 31 by omega)]
      rw [hb]
      refine mz_go 13 (c' := (136, [some (.ref 65), some (.int 0), some (.int 170), some (.int ((nI (d + 2)) + (-1))), some (.int (nI k)), some (.int 3), some (.int (w 11 k))], [.int ((nI (d + 2)) + (-1)), .ref 71], mz_set m 71 g)) rfl ?_
      rw [show (nI (d + 2) : Int32) + (-1) = nI (d + 1) from sm_dec1 (d + 1)]
      refine mz_go 2 (c' := (138, [some (.ref 65), some (.int 0), some (.int 170), some (.int (nI (d + 1))), some (.int (nI k)), some (.int 3), some (.int (w 11 k))], [.int ((nI (d + 1)) - 1), .ref 71], mz_set m 71 g)) rfl ?_
      rw [nI_pred d]
      refine mz_go 6 (c' := (147, [some (.ref 65), some (.int 0), some (.int 170), some (.int (nI (d + 1))), some (.int (nI k)), some (.int 3), some (.int (w 11 k))], [.int ((nI (d + 1)) - 1), .ref 71, .int (w 11 k), .int (nI d), .ref 71], mz_set m 71 g)) rfl ?_
      rw [nI_pred d]
      refine mz_arr (c' := (148, [some (.ref 65), some (.int 0), some (.int 170), some (.int (nI (d + 1))), some (.int (nI k)), some (.int 3), some (.int (w 11 k))], [.int (g ((nI d).toNatClampNeg)), .int (w 11 k), .int (nI d), .ref 71], mz_set m 71 g)) rfl (show mz_in (nI d) 64 = true from sm_inN rfl (show d < 64 by omega) (by decide)) ?_
      rw [show (nI d : Int32).toNatClampNeg = d from sm_clN rfl (show d < 2 ^ 31 by omega)]
      refine mz_go 3 (c' := (153, [some (.ref 65), some (.int 0), some (.int 170), some (.int (nI (d + 1))), some (.int (nI k)), some (.int 3), some (.int (w 11 k))], [.int (nI (d + 1)), .ref 71, .int (g d), .int (w 11 k), .int (nI d), .ref 71], mz_set m 71 g)) rfl ?_
      refine mz_arr (c' := (154, [some (.ref 65), some (.int 0), some (.int 170), some (.int (nI (d + 1))), some (.int (nI k)), some (.int 3), some (.int (w 11 k))], [.int (g ((nI (d + 1)).toNatClampNeg)), .int (g d), .int (w 11 k), .int (nI d), .ref 71], mz_set m 71 g)) rfl (show mz_in (nI (d + 1)) 64 = true from sm_inN rfl (show (d + 1) < 64 by omega) (by decide)) ?_
      rw [show (nI (d + 1) : Int32).toNatClampNeg = (d + 1) from sm_clN rfl (show (d + 1) < 2 ^ 31 by omega)]
      refine mz_doQ (R := mz_r172) (as := [.int (w 11 k), .int (g d), .int (g (d + 1))]) (rest := [.int (nI d), .ref 71]) (r1 := some (.int (sm_op (w 11 k) (g d) (g (d + 1))))) (m1 := mz_set m 71 g) mz_t172 mz_v172 rfl rfl rfl rfl rfl ((ct_joined h0 (g d) (g (d + 1))).deep (by decide)) ?_
      refine mz_arr (c' := (158, [some (.ref 65), some (.int 0), some (.int 170), some (.int (nI (d + 1))), some (.int (nI k)), some (.int 3), some (.int (w 11 k))], [], mz_up (mz_set m 71 g) 71 ((nI d).toNatClampNeg) (sm_op (w 11 k) (g d) (g (d + 1))))) rfl (show mz_in (nI d) 64 = true from sm_inN rfl (show d < 64 by omega) (by decide)) ?_
      rw [show (nI d : Int32).toNatClampNeg = d from sm_clN rfl (show d < 2 ^ 31 by omega)]
      refine mz_go 2 (c' := (14, [some (.ref 65), some (.int 0), some (.int 170), some (.int (nI (d + 1))), some (.int ((nI k) + 1)), some (.int 3), some (.int (w 11 k))], [], mz_up (mz_set m 71 g) 71 d (sm_op (w 11 k) (g d) (g (d + 1))))) rfl ?_
      exact E
set_option maxHeartbeats 4000000 in
set_option maxRecDepth 100000 in
theorem ct_ev0 {w m : mz_M} {T c : Nat} (hT : w 10 2 = nI T) (hw : sm_wf T c (w 11) (w 12)) (hc : c ≤ 5) (ht : sm_TR w (m 66) 10 170 sm_ch0) (hch : ∀ j, j < c → ∃ e, e < 128 ∧ sm_ch0 j = nI e) (nm : Nat → Int32) (hn : ∀ j, j < c → m 70 (sm_ch0 j).toNatClampNeg = nm j) : ∃ g', mz_Me 10 mz_r173 [.ref 65, .int 0] m (some (.int (sm_ev T (w 11) (w 12) nm))) (mz_set m 71 g') := by
  obtain ⟨g', E⟩ := ct_evl0 hT hw hc ht hch nm hn T 0 (by omega) (m 71) none none (fun j hj => absurd hj (Nat.not_lt_zero j))
  rw [sm_id] at E
  refine ⟨g', ?_, rfl⟩
  refine mz_go 10 (c' := (14, [some (.ref 65), some (.int 0), some (.int 170), some (.int 0), some (.int 0), none, none], [], m)) rfl ?_
  exact E
set_option maxHeartbeats 4000000 in
set_option maxRecDepth 100000 in
theorem ct_evl1 {w m : mz_M} {T c : Nat} (hT : w 13 2 = nI T) (hw : sm_wf T c (w 14) (w 15)) (hc : c ≤ 5) (ht : sm_TR w (m 66) 13 295 sm_ch1) (hch : ∀ j, j < c → ∃ e, e < 128 ∧ sm_ch1 j = nI e) (nm : Nat → Int32) (hn : ∀ j, j < c → m 70 (sm_ch1 j).toNatClampNeg = nm j) : ∀ n k : Nat, k + n = T → ∀ (g : Nat → Int32) (l5 l6 : Option Value), (∀ j, j < sm_dp (w 14) k → g j = sm_st (w 14) (w 15) nm k j) → ∃ g', mz_Ex 10 mz_k173 (14, [some (.ref 65), some (.int 1), some (.int 295), some (.int (nI (sm_dp (w 14) k))), some (.int (nI k)), l5, l6], [], mz_set m 71 g) (some (.int (sm_ev T (w 14) (w 15) nm)), mz_set m 71 g') := by
  have hT60 := hw.1
  have hT2 : m 66 295 = nI T := ht.1.trans hT
  have hcl : (w 13 2).toNatClampNeg = T := by rw [hT, nI_clamp (by omega)]
  intro n
  induction n with
  | zero =>
    intro k hk g l5 l6 hg
    have hk2 : k = T := by omega
    subst hk2
    have hd := hw.2.1
    rw [hd]
    refine ⟨g, ?_⟩
    refine mz_go 5 (c' := (22, [some (.ref 65), some (.int 1), some (.int 295), some (.int (nI 1)), some (.int (nI k)), l5, l6], [.int (m 66 295), .int (nI k)], mz_set m 71 g)) rfl ?_
    rw [hT2]
    refine mz_go 1 (c' := (if (nI k) ≤ (nI k) then 164 else 25, [some (.ref 65), some (.int 1), some (.int 295), some (.int (nI 1)), some (.int (nI k)), l5, l6], [], mz_set m 71 g)) rfl ?_
    refine mz_ifT (show ((nI k) ≤ (nI k)) from (sm_leN rfl rfl (show k ≤ k by omega) (show k < 2 ^ 31 by omega))) ?_
    refine mz_go 4 (c' := (170, [some (.ref 65), some (.int 1), some (.int 295), some (.int (nI 1)), some (.int (nI k)), l5, l6], [.int (g 0)], mz_set m 71 g)) rfl ?_
    rw [hg 0 (by rw [hd]; decide)]
    exact mz_ret rfl
  | succ n ih =>
    intro k hk g l5 l6 hg
    have hwk := hw.2.2 k (by omega)
    have hdk := sm_dp_le (w 14) k
    obtain ⟨k0, k1, k2, k3⟩ := ht.2 k (by omega)
    obtain ⟨d, hd⟩ : ∃ d, sm_dp (w 14) k = d := ⟨_, rfl⟩
    rw [hd] at hg hdk ⊢
    rcases hwk with h0 | ⟨h0, j, hj, hv⟩ | ⟨h0, hd1⟩ | ⟨h0, hd1⟩
    · have ha : m 66 (296 + (2 * k)) = 0 := (k0 h0).1
      have hb : m 66 (297 + (2 * k)) = w 15 k := (k0 h0).2
      have e1 : sm_dp (w 14) (k + 1) = d + 1 := by
        show (if _ then _ else if _ then _ else _) = _
        simp [h0, hd]
      have e2 : sm_st (w 14) (w 15) nm (k + 1) = sm_upd (sm_st (w 14) (w 15) nm k) (d) (w 15 k) := by
        show (if w 14 k = 0 then _ else if w 14 k = 1 then _ else if w 14 k = 33 then _ else _) = _
        rw [if_pos h0, hd]
      obtain ⟨g', E⟩ := ih (k + 1) (by omega) (sm_upd g (d) (w 15 k)) (some (.int (0))) (some (.int (w 15 k))) (by
        rw [e1, e2]
        exact sm_upd_eq (fun j hj hne => hg j (by omega)))
      rw [e1, nI_succ k, nI_succ d, ← sm_up_set] at E
      refine ⟨g', ?_⟩
      refine mz_go 5 (c' := (22, [some (.ref 65), some (.int 1), some (.int 295), some (.int (nI d)), some (.int (nI k)), l5, l6], [.int (m 66 295), .int (nI k)], mz_set m 71 g)) rfl ?_
      rw [hT2]
      refine mz_go 1 (c' := (if (nI T) ≤ (nI k) then 164 else 25, [some (.ref 65), some (.int 1), some (.int 295), some (.int (nI d)), some (.int (nI k)), l5, l6], [], mz_set m 71 g)) rfl ?_
      refine mz_ifF (show ¬ ((nI T) ≤ (nI k)) from (sm_nleN rfl rfl (show k < T by omega) (show T < 2 ^ 31 by omega))) ?_
      refine mz_go 9 (c' := (37, [some (.ref 65), some (.int 1), some (.int 295), some (.int (nI d)), some (.int (nI k)), l5, l6], [.int (296 + (2 * (nI k))), .ref 66], mz_set m 71 g)) rfl ?_
      refine mz_arr (c' := (38, [some (.ref 65), some (.int 1), some (.int 295), some (.int (nI d)), some (.int (nI k)), l5, l6], [.int (m 66 ((296 + (2 * (nI k))).toNatClampNeg))], mz_set m 71 g)) rfl (show mz_in (296 + (2 * (nI k))) 650 = true from sm_inN (sm_addN rfl (sm_mulN rfl rfl)) (show (296 + (2 * k)) < 650 by omega) (by decide)) ?_
      rw [show (296 + (2 * (nI k)) : Int32).toNatClampNeg = (296 + (2 * k)) from sm_clN (sm_addN rfl (sm_mulN rfl rfl)) (show (296 + (2 * k)) < 2 ^ 31 by omega)]
      rw [ha]
      refine mz_go 10 (c' := (52, [some (.ref 65), some (.int 1), some (.int 295), some (.int (nI d)), some (.int (nI k)), some (.int 0), l6], [.int (297 + (2 * (nI k))), .ref 66], mz_set m 71 g)) rfl ?_
      refine mz_arr (c' := (53, [some (.ref 65), some (.int 1), some (.int 295), some (.int (nI d)), some (.int (nI k)), some (.int 0), l6], [.int (m 66 ((297 + (2 * (nI k))).toNatClampNeg))], mz_set m 71 g)) rfl (show mz_in (297 + (2 * (nI k))) 650 = true from sm_inN (sm_addN rfl (sm_mulN rfl rfl)) (show (297 + (2 * k)) < 650 by omega) (by decide)) ?_
      rw [show (297 + (2 * (nI k)) : Int32).toNatClampNeg = (297 + (2 * k)) from sm_clN (sm_addN rfl (sm_mulN rfl rfl)) (show (297 + (2 * k)) < 2 ^ 31 by omega)]
      rw [hb]
      refine mz_go 10 (c' := (88, [some (.ref 65), some (.int 1), some (.int 295), some (.int (nI d)), some (.int (nI k)), some (.int 0), some (.int (w 15 k))], [.int (w 15 k), .int (nI d), .ref 71], mz_set m 71 g)) rfl ?_
      refine mz_arr (c' := (89, [some (.ref 65), some (.int 1), some (.int 295), some (.int (nI d)), some (.int (nI k)), some (.int 0), some (.int (w 15 k))], [], mz_up (mz_set m 71 g) 71 ((nI d).toNatClampNeg) (w 15 k))) rfl (show mz_in (nI d) 64 = true from sm_inN rfl (show d < 64 by omega) (by decide)) ?_
      rw [show (nI d : Int32).toNatClampNeg = d from sm_clN rfl (show d < 2 ^ 31 by omega)]
      refine mz_go 4 (c' := (14, [some (.ref 65), some (.int 1), some (.int 295), some (.int ((nI d) + 1)), some (.int ((nI k) + 1)), some (.int 0), some (.int (w 15 k))], [], mz_up (mz_set m 71 g) 71 d (w 15 k))) rfl ?_
      exact E
    · obtain ⟨e, he, hce⟩ := hch j hj
      have ha : m 66 (296 + (2 * k)) = 1 := (k1 h0).1
      have hb : m 66 (297 + (2 * k)) = nI e := by
        rw [show m 66 (297 + (2 * k)) = sm_ch1 (w 15 k).toNatClampNeg from (k1 h0).2, hv, nI_clamp (by omega), hce]
      have hne : m 70 e = nm j := by
        rw [← hn j hj, hce, nI_clamp (by omega)]
      have e1 : sm_dp (w 14) (k + 1) = d + 1 := by
        show (if _ then _ else if _ then _ else _) = _
        simp [h0, hd]
      have e2 : sm_st (w 14) (w 15) nm (k + 1) = sm_upd (sm_st (w 14) (w 15) nm k) (d) (nm j) := by
        show (if w 14 k = 0 then _ else if w 14 k = 1 then _ else if w 14 k = 33 then _ else _) = _
        rw [h0, if_neg (by decide), if_pos rfl, hd, hv, nI_clamp (by omega)]
      obtain ⟨g', E⟩ := ih (k + 1) (by omega) (sm_upd g (d) (nm j)) (some (.int (1))) (some (.int (nI e))) (by
        rw [e1, e2]
        exact sm_upd_eq (fun j hj hne => hg j (by omega)))
      rw [e1, nI_succ k, nI_succ d, ← sm_up_set] at E
      refine ⟨g', ?_⟩
      refine mz_go 5 (c' := (22, [some (.ref 65), some (.int 1), some (.int 295), some (.int (nI d)), some (.int (nI k)), l5, l6], [.int (m 66 295), .int (nI k)], mz_set m 71 g)) rfl ?_
      rw [hT2]
      refine mz_go 1 (c' := (if (nI T) ≤ (nI k) then 164 else 25, [some (.ref 65), some (.int 1), some (.int 295), some (.int (nI d)), some (.int (nI k)), l5, l6], [], mz_set m 71 g)) rfl ?_
      refine mz_ifF (show ¬ ((nI T) ≤ (nI k)) from (sm_nleN rfl rfl (show k < T by omega) (show T < 2 ^ 31 by omega))) ?_
      refine mz_go 9 (c' := (37, [some (.ref 65), some (.int 1), some (.int 295), some (.int (nI d)), some (.int (nI k)), l5, l6], [.int (296 + (2 * (nI k))), .ref 66], mz_set m 71 g)) rfl ?_
      refine mz_arr (c' := (38, [some (.ref 65), some (.int 1), some (.int 295), some (.int (nI d)), some (.int (nI k)), l5, l6], [.int (m 66 ((296 + (2 * (nI k))).toNatClampNeg))], mz_set m 71 g)) rfl (show mz_in (296 + (2 * (nI k))) 650 = true from sm_inN (sm_addN rfl (sm_mulN rfl rfl)) (show (296 + (2 * k)) < 650 by omega) (by decide)) ?_
      rw [show (296 + (2 * (nI k)) : Int32).toNatClampNeg = (296 + (2 * k)) from sm_clN (sm_addN rfl (sm_mulN rfl rfl)) (show (296 + (2 * k)) < 2 ^ 31 by omega)]
      rw [ha]
      refine mz_go 10 (c' := (52, [some (.ref 65), some (.int 1), some (.int 295), some (.int (nI d)), some (.int (nI k)), some (.int 1), l6], [.int (297 + (2 * (nI k))), .ref 66], mz_set m 71 g)) rfl ?_
      refine mz_arr (c' := (53, [some (.ref 65), some (.int 1), some (.int 295), some (.int (nI d)), some (.int (nI k)), some (.int 1), l6], [.int (m 66 ((297 + (2 * (nI k))).toNatClampNeg))], mz_set m 71 g)) rfl (show mz_in (297 + (2 * (nI k))) 650 = true from sm_inN (sm_addN rfl (sm_mulN rfl rfl)) (show (297 + (2 * k)) < 650 by omega) (by decide)) ?_
      rw [show (297 + (2 * (nI k)) : Int32).toNatClampNeg = (297 + (2 * k)) from sm_clN (sm_addN rfl (sm_mulN rfl rfl)) (show (297 + (2 * k)) < 2 ^ 31 by omega)]
      rw [hb]
      refine mz_go 14 (c' := (87, [some (.ref 65), some (.int 1), some (.int 295), some (.int (nI d)), some (.int (nI k)), some (.int 1), some (.int (nI e))], [.int (nI e), .ref 70, .int (nI d), .ref 71], mz_set m 71 g)) rfl ?_
      refine mz_arr (c' := (88, [some (.ref 65), some (.int 1), some (.int 295), some (.int (nI d)), some (.int (nI k)), some (.int 1), some (.int (nI e))], [.int (m 70 ((nI e).toNatClampNeg)), .int (nI d), .ref 71], mz_set m 71 g)) rfl (show mz_in (nI e) 128 = true from sm_inN rfl (show e < 128 by omega) (by decide)) ?_
      rw [show (nI e : Int32).toNatClampNeg = e from sm_clN rfl (show e < 2 ^ 31 by omega)]
      rw [hne]
      refine mz_arr (c' := (89, [some (.ref 65), some (.int 1), some (.int 295), some (.int (nI d)), some (.int (nI k)), some (.int 1), some (.int (nI e))], [], mz_up (mz_set m 71 g) 71 ((nI d).toNatClampNeg) (nm j))) rfl (show mz_in (nI d) 64 = true from sm_inN rfl (show d < 64 by omega) (by decide)) ?_
      rw [show (nI d : Int32).toNatClampNeg = d from sm_clN rfl (show d < 2 ^ 31 by omega)]
      refine mz_go 4 (c' := (14, [some (.ref 65), some (.int 1), some (.int 295), some (.int ((nI d) + 1)), some (.int ((nI k) + 1)), some (.int 1), some (.int (nI e))], [], mz_up (mz_set m 71 g) 71 d (nm j))) rfl ?_
      exact E
    · have ha : m 66 (296 + (2 * k)) = 2 := k2 h0
      obtain ⟨d, rfl⟩ : ∃ c, d = c + 1 := ⟨d - 1, by omega⟩
      by_cases hc : g d = 0
      · have e1 : sm_dp (w 14) (k + 1) = d + 1 := by
          show (if _ then _ else if _ then _ else _) = _
          simp [h0, hd]
        have e2 : sm_st (w 14) (w 15) nm (k + 1) = sm_upd (sm_st (w 14) (w 15) nm k) (d) (1) := by
          show (if w 14 k = 0 then _ else if w 14 k = 1 then _ else if w 14 k = 33 then _ else _) = _
          rw [h0, if_neg (by decide), if_neg (by decide), if_pos rfl, hd, Nat.add_sub_cancel, ← hg d (by omega)]
          simp [sm_bI, hc]
        obtain ⟨g', E⟩ := ih (k + 1) (by omega) (sm_upd g (d) (1)) (some (.int (2))) (some (.int (m 66 (297 + (2 * k))))) (by
          rw [e1, e2]
          exact sm_upd_eq (fun j hj hne => hg j (by omega)))
        rw [e1, nI_succ k, ← sm_up_set] at E
        refine ⟨g', ?_⟩
        refine mz_go 5 (c' := (22, [some (.ref 65), some (.int 1), some (.int 295), some (.int (nI (d + 1))), some (.int (nI k)), l5, l6], [.int (m 66 295), .int (nI k)], mz_set m 71 g)) rfl ?_
        rw [hT2]
        refine mz_go 1 (c' := (if (nI T) ≤ (nI k) then 164 else 25, [some (.ref 65), some (.int 1), some (.int 295), some (.int (nI (d + 1))), some (.int (nI k)), l5, l6], [], mz_set m 71 g)) rfl ?_
        refine mz_ifF (show ¬ ((nI T) ≤ (nI k)) from (sm_nleN rfl rfl (show k < T by omega) (show T < 2 ^ 31 by omega))) ?_
        refine mz_go 9 (c' := (37, [some (.ref 65), some (.int 1), some (.int 295), some (.int (nI (d + 1))), some (.int (nI k)), l5, l6], [.int (296 + (2 * (nI k))), .ref 66], mz_set m 71 g)) rfl ?_
        refine mz_arr (c' := (38, [some (.ref 65), some (.int 1), some (.int 295), some (.int (nI (d + 1))), some (.int (nI k)), l5, l6], [.int (m 66 ((296 + (2 * (nI k))).toNatClampNeg))], mz_set m 71 g)) rfl (show mz_in (296 + (2 * (nI k))) 650 = true from sm_inN (sm_addN rfl (sm_mulN rfl rfl)) (show (296 + (2 * k)) < 650 by omega) (by decide)) ?_
        rw [show (296 + (2 * (nI k)) : Int32).toNatClampNeg = (296 + (2 * k)) from sm_clN (sm_addN rfl (sm_mulN rfl rfl)) (show (296 + (2 * k)) < 2 ^ 31 by omega)]
        rw [ha]
        refine mz_go 10 (c' := (52, [some (.ref 65), some (.int 1), some (.int 295), some (.int (nI (d + 1))), some (.int (nI k)), some (.int 2), l6], [.int (297 + (2 * (nI k))), .ref 66], mz_set m 71 g)) rfl ?_
        refine mz_arr (c' := (53, [some (.ref 65), some (.int 1), some (.int 295), some (.int (nI (d + 1))), some (.int (nI k)), some (.int 2), l6], [.int (m 66 ((297 + (2 * (nI k))).toNatClampNeg))], mz_set m 71 g)) rfl (show mz_in (297 + (2 * (nI k))) 650 = true from sm_inN (sm_addN rfl (sm_mulN rfl rfl)) (show (297 + (2 * k)) < 650 by omega) (by decide)) ?_
        rw [show (297 + (2 * (nI k)) : Int32).toNatClampNeg = (297 + (2 * k)) from sm_clN (sm_addN rfl (sm_mulN rfl rfl)) (show (297 + (2 * k)) < 2 ^ 31 by omega)]
        refine mz_go 14 (c' := (108, [some (.ref 65), some (.int 1), some (.int 295), some (.int (nI (d + 1))), some (.int (nI k)), some (.int 2), some (.int (m 66 (297 + (2 * k))))], [.int ((nI (d + 1)) - 1), .ref 71], mz_set m 71 g)) rfl ?_
        rw [nI_pred d]
        refine mz_go 5 (c' := (115, [some (.ref 65), some (.int 1), some (.int 295), some (.int (nI (d + 1))), some (.int (nI k)), some (.int 2), some (.int (m 66 (297 + (2 * k))))], [.int ((nI (d + 1)) - 1), .ref 71, .int (nI d), .ref 71], mz_set m 71 g)) rfl ?_
        rw [nI_pred d]
        refine mz_arr (c' := (116, [some (.ref 65), some (.int 1), some (.int 295), some (.int (nI (d + 1))), some (.int (nI k)), some (.int 2), some (.int (m 66 (297 + (2 * k))))], [.int (g ((nI d).toNatClampNeg)), .int (nI d), .ref 71], mz_set m 71 g)) rfl (show mz_in (nI d) 64 = true from sm_inN rfl (show d < 64 by omega) (by decide)) ?_
        rw [show (nI d : Int32).toNatClampNeg = d from sm_clN rfl (show d < 2 ^ 31 by omega)]
        refine mz_go 1 (c' := (if (g d) = 0 then 119 else 123, [some (.ref 65), some (.int 1), some (.int 295), some (.int (nI (d + 1))), some (.int (nI k)), some (.int 2), some (.int (m 66 (297 + (2 * k))))], [.int (nI d), .ref 71], mz_set m 71 g)) rfl ?_
        refine mz_ifT hc ?_
        refine mz_go 2 (c' := (124, [some (.ref 65), some (.int 1), some (.int 295), some (.int (nI (d + 1))), some (.int (nI k)), some (.int 2), some (.int (m 66 (297 + (2 * k))))], [.int 1, .int (nI d), .ref 71], mz_set m 71 g)) rfl ?_
        refine mz_arr (c' := (125, [some (.ref 65), some (.int 1), some (.int 295), some (.int (nI (d + 1))), some (.int (nI k)), some (.int 2), some (.int (m 66 (297 + (2 * k))))], [], mz_up (mz_set m 71 g) 71 ((nI d).toNatClampNeg) 1)) rfl (show mz_in (nI d) 64 = true from sm_inN rfl (show d < 64 by omega) (by decide)) ?_
        rw [show (nI d : Int32).toNatClampNeg = d from sm_clN rfl (show d < 2 ^ 31 by omega)]
        refine mz_go 3 (c' := (14, [some (.ref 65), some (.int 1), some (.int 295), some (.int (nI (d + 1))), some (.int ((nI k) + 1)), some (.int 2), some (.int (m 66 (297 + (2 * k))))], [], mz_up (mz_set m 71 g) 71 d 1)) rfl ?_
        exact E
      · have e1 : sm_dp (w 14) (k + 1) = d + 1 := by
          show (if _ then _ else if _ then _ else _) = _
          simp [h0, hd]
        have e2 : sm_st (w 14) (w 15) nm (k + 1) = sm_upd (sm_st (w 14) (w 15) nm k) (d) (0) := by
          show (if w 14 k = 0 then _ else if w 14 k = 1 then _ else if w 14 k = 33 then _ else _) = _
          rw [h0, if_neg (by decide), if_neg (by decide), if_pos rfl, hd, Nat.add_sub_cancel, ← hg d (by omega)]
          simp [sm_bI, hc]
        obtain ⟨g', E⟩ := ih (k + 1) (by omega) (sm_upd g (d) (0)) (some (.int (2))) (some (.int (m 66 (297 + (2 * k))))) (by
          rw [e1, e2]
          exact sm_upd_eq (fun j hj hne => hg j (by omega)))
        rw [e1, nI_succ k, ← sm_up_set] at E
        refine ⟨g', ?_⟩
        refine mz_go 5 (c' := (22, [some (.ref 65), some (.int 1), some (.int 295), some (.int (nI (d + 1))), some (.int (nI k)), l5, l6], [.int (m 66 295), .int (nI k)], mz_set m 71 g)) rfl ?_
        rw [hT2]
        refine mz_go 1 (c' := (if (nI T) ≤ (nI k) then 164 else 25, [some (.ref 65), some (.int 1), some (.int 295), some (.int (nI (d + 1))), some (.int (nI k)), l5, l6], [], mz_set m 71 g)) rfl ?_
        refine mz_ifF (show ¬ ((nI T) ≤ (nI k)) from (sm_nleN rfl rfl (show k < T by omega) (show T < 2 ^ 31 by omega))) ?_
        refine mz_go 9 (c' := (37, [some (.ref 65), some (.int 1), some (.int 295), some (.int (nI (d + 1))), some (.int (nI k)), l5, l6], [.int (296 + (2 * (nI k))), .ref 66], mz_set m 71 g)) rfl ?_
        refine mz_arr (c' := (38, [some (.ref 65), some (.int 1), some (.int 295), some (.int (nI (d + 1))), some (.int (nI k)), l5, l6], [.int (m 66 ((296 + (2 * (nI k))).toNatClampNeg))], mz_set m 71 g)) rfl (show mz_in (296 + (2 * (nI k))) 650 = true from sm_inN (sm_addN rfl (sm_mulN rfl rfl)) (show (296 + (2 * k)) < 650 by omega) (by decide)) ?_
        rw [show (296 + (2 * (nI k)) : Int32).toNatClampNeg = (296 + (2 * k)) from sm_clN (sm_addN rfl (sm_mulN rfl rfl)) (show (296 + (2 * k)) < 2 ^ 31 by omega)]
        rw [ha]
        refine mz_go 10 (c' := (52, [some (.ref 65), some (.int 1), some (.int 295), some (.int (nI (d + 1))), some (.int (nI k)), some (.int 2), l6], [.int (297 + (2 * (nI k))), .ref 66], mz_set m 71 g)) rfl ?_
        refine mz_arr (c' := (53, [some (.ref 65), some (.int 1), some (.int 295), some (.int (nI (d + 1))), some (.int (nI k)), some (.int 2), l6], [.int (m 66 ((297 + (2 * (nI k))).toNatClampNeg))], mz_set m 71 g)) rfl (show mz_in (297 + (2 * (nI k))) 650 = true from sm_inN (sm_addN rfl (sm_mulN rfl rfl)) (show (297 + (2 * k)) < 650 by omega) (by decide)) ?_
        rw [show (297 + (2 * (nI k)) : Int32).toNatClampNeg = (297 + (2 * k)) from sm_clN (sm_addN rfl (sm_mulN rfl rfl)) (show (297 + (2 * k)) < 2 ^ 31 by omega)]
        refine mz_go 14 (c' := (108, [some (.ref 65), some (.int 1), some (.int 295), some (.int (nI (d + 1))), some (.int (nI k)), some (.int 2), some (.int (m 66 (297 + (2 * k))))], [.int ((nI (d + 1)) - 1), .ref 71], mz_set m 71 g)) rfl ?_
        rw [nI_pred d]
        refine mz_go 5 (c' := (115, [some (.ref 65), some (.int 1), some (.int 295), some (.int (nI (d + 1))), some (.int (nI k)), some (.int 2), some (.int (m 66 (297 + (2 * k))))], [.int ((nI (d + 1)) - 1), .ref 71, .int (nI d), .ref 71], mz_set m 71 g)) rfl ?_
        rw [nI_pred d]
        refine mz_arr (c' := (116, [some (.ref 65), some (.int 1), some (.int 295), some (.int (nI (d + 1))), some (.int (nI k)), some (.int 2), some (.int (m 66 (297 + (2 * k))))], [.int (g ((nI d).toNatClampNeg)), .int (nI d), .ref 71], mz_set m 71 g)) rfl (show mz_in (nI d) 64 = true from sm_inN rfl (show d < 64 by omega) (by decide)) ?_
        rw [show (nI d : Int32).toNatClampNeg = d from sm_clN rfl (show d < 2 ^ 31 by omega)]
        refine mz_go 1 (c' := (if (g d) = 0 then 119 else 123, [some (.ref 65), some (.int 1), some (.int 295), some (.int (nI (d + 1))), some (.int (nI k)), some (.int 2), some (.int (m 66 (297 + (2 * k))))], [.int (nI d), .ref 71], mz_set m 71 g)) rfl ?_
        refine mz_ifF hc ?_
        refine mz_go 1 (c' := (124, [some (.ref 65), some (.int 1), some (.int 295), some (.int (nI (d + 1))), some (.int (nI k)), some (.int 2), some (.int (m 66 (297 + (2 * k))))], [.int 0, .int (nI d), .ref 71], mz_set m 71 g)) rfl ?_
        refine mz_arr (c' := (125, [some (.ref 65), some (.int 1), some (.int 295), some (.int (nI (d + 1))), some (.int (nI k)), some (.int 2), some (.int (m 66 (297 + (2 * k))))], [], mz_up (mz_set m 71 g) 71 ((nI d).toNatClampNeg) 0)) rfl (show mz_in (nI d) 64 = true from sm_inN rfl (show d < 64 by omega) (by decide)) ?_
        rw [show (nI d : Int32).toNatClampNeg = d from sm_clN rfl (show d < 2 ^ 31 by omega)]
        refine mz_go 3 (c' := (14, [some (.ref 65), some (.int 1), some (.int 295), some (.int (nI (d + 1))), some (.int ((nI k) + 1)), some (.int 2), some (.int (m 66 (297 + (2 * k))))], [], mz_up (mz_set m 71 g) 71 d 0)) rfl ?_
        exact E
    · obtain ⟨d, rfl⟩ : ∃ c, d = c + 2 := ⟨d - 2, by omega⟩
      obtain ⟨n0, n1, n33, n2⟩ := sm_sgn_ne h0
      have ha : m 66 (296 + (2 * k)) = 3 := (k3 h0).1
      have hb : m 66 (297 + (2 * k)) = w 14 k := (k3 h0).2
      have e1 : sm_dp (w 14) (k + 1) = d + 1 := by
        show (if _ then _ else if _ then _ else _) = _
        simp [n0, n1, n33, hd]
      have e2 : sm_st (w 14) (w 15) nm (k + 1) = sm_upd (sm_st (w 14) (w 15) nm k) (d) (sm_op (w 14 k) (g d) (g (d + 1))) := by
        show (if w 14 k = 0 then _ else if w 14 k = 1 then _ else if w 14 k = 33 then _ else _) = _
        rw [if_neg n0, if_neg n1, if_neg n33, hd, hg d (by omega), hg (d + 1) (by omega)]
        rfl
      obtain ⟨g', E⟩ := ih (k + 1) (by omega) (sm_upd g (d) (sm_op (w 14 k) (g d) (g (d + 1)))) (some (.int (3))) (some (.int (w 14 k))) (by
        rw [e1, e2]
        exact sm_upd_eq (fun j hj hne => hg j (by omega)))
      rw [e1, nI_succ k, ← sm_up_set] at E
      refine ⟨g', ?_⟩
      refine mz_go 5 (c' := (22, [some (.ref 65), some (.int 1), some (.int 295), some (.int (nI (d + 2))), some (.int (nI k)), l5, l6], [.int (m 66 295), .int (nI k)], mz_set m 71 g)) rfl ?_
      rw [hT2]
      refine mz_go 1 (c' := (if (nI T) ≤ (nI k) then 164 else 25, [some (.ref 65), some (.int 1), some (.int 295), some (.int (nI (d + 2))), some (.int (nI k)), l5, l6], [], mz_set m 71 g)) rfl ?_
      refine mz_ifF (show ¬ ((nI T) ≤ (nI k)) from (sm_nleN rfl rfl (show k < T by omega) (show T < 2 ^ 31 by omega))) ?_
      refine mz_go 9 (c' := (37, [some (.ref 65), some (.int 1), some (.int 295), some (.int (nI (d + 2))), some (.int (nI k)), l5, l6], [.int (296 + (2 * (nI k))), .ref 66], mz_set m 71 g)) rfl ?_
      refine mz_arr (c' := (38, [some (.ref 65), some (.int 1), some (.int 295), some (.int (nI (d + 2))), some (.int (nI k)), l5, l6], [.int (m 66 ((296 + (2 * (nI k))).toNatClampNeg))], mz_set m 71 g)) rfl (show mz_in (296 + (2 * (nI k))) 650 = true from sm_inN (sm_addN rfl (sm_mulN rfl rfl)) (show (296 + (2 * k)) < 650 by omega) (by decide)) ?_
      rw [show (296 + (2 * (nI k)) : Int32).toNatClampNeg = (296 + (2 * k)) from sm_clN (sm_addN rfl (sm_mulN rfl rfl)) (show (296 + (2 * k)) < 2 ^ 31 by omega)]
      rw [ha]
      refine mz_go 10 (c' := (52, [some (.ref 65), some (.int 1), some (.int 295), some (.int (nI (d + 2))), some (.int (nI k)), some (.int 3), l6], [.int (297 + (2 * (nI k))), .ref 66], mz_set m 71 g)) rfl ?_
      refine mz_arr (c' := (53, [some (.ref 65), some (.int 1), some (.int 295), some (.int (nI (d + 2))), some (.int (nI k)), some (.int 3), l6], [.int (m 66 ((297 + (2 * (nI k))).toNatClampNeg))], mz_set m 71 g)) rfl (show mz_in (297 + (2 * (nI k))) 650 = true from sm_inN (sm_addN rfl (sm_mulN rfl rfl)) (show (297 + (2 * k)) < 650 by omega) (by decide)) ?_
      rw [show (297 + (2 * (nI k)) : Int32).toNatClampNeg = (297 + (2 * k)) from sm_clN (sm_addN rfl (sm_mulN rfl rfl)) (show (297 + (2 * k)) < 2 ^ 31 by omega)]
      rw [hb]
      refine mz_go 13 (c' := (136, [some (.ref 65), some (.int 1), some (.int 295), some (.int ((nI (d + 2)) + (-1))), some (.int (nI k)), some (.int 3), some (.int (w 14 k))], [.int ((nI (d + 2)) + (-1)), .ref 71], mz_set m 71 g)) rfl ?_
      rw [show (nI (d + 2) : Int32) + (-1) = nI (d + 1) from sm_dec1 (d + 1)]
      refine mz_go 2 (c' := (138, [some (.ref 65), some (.int 1), some (.int 295), some (.int (nI (d + 1))), some (.int (nI k)), some (.int 3), some (.int (w 14 k))], [.int ((nI (d + 1)) - 1), .ref 71], mz_set m 71 g)) rfl ?_
      rw [nI_pred d]
      refine mz_go 6 (c' := (147, [some (.ref 65), some (.int 1), some (.int 295), some (.int (nI (d + 1))), some (.int (nI k)), some (.int 3), some (.int (w 14 k))], [.int ((nI (d + 1)) - 1), .ref 71, .int (w 14 k), .int (nI d), .ref 71], mz_set m 71 g)) rfl ?_
      rw [nI_pred d]
      refine mz_arr (c' := (148, [some (.ref 65), some (.int 1), some (.int 295), some (.int (nI (d + 1))), some (.int (nI k)), some (.int 3), some (.int (w 14 k))], [.int (g ((nI d).toNatClampNeg)), .int (w 14 k), .int (nI d), .ref 71], mz_set m 71 g)) rfl (show mz_in (nI d) 64 = true from sm_inN rfl (show d < 64 by omega) (by decide)) ?_
      rw [show (nI d : Int32).toNatClampNeg = d from sm_clN rfl (show d < 2 ^ 31 by omega)]
      refine mz_go 3 (c' := (153, [some (.ref 65), some (.int 1), some (.int 295), some (.int (nI (d + 1))), some (.int (nI k)), some (.int 3), some (.int (w 14 k))], [.int (nI (d + 1)), .ref 71, .int (g d), .int (w 14 k), .int (nI d), .ref 71], mz_set m 71 g)) rfl ?_
      refine mz_arr (c' := (154, [some (.ref 65), some (.int 1), some (.int 295), some (.int (nI (d + 1))), some (.int (nI k)), some (.int 3), some (.int (w 14 k))], [.int (g ((nI (d + 1)).toNatClampNeg)), .int (g d), .int (w 14 k), .int (nI d), .ref 71], mz_set m 71 g)) rfl (show mz_in (nI (d + 1)) 64 = true from sm_inN rfl (show (d + 1) < 64 by omega) (by decide)) ?_
      rw [show (nI (d + 1) : Int32).toNatClampNeg = (d + 1) from sm_clN rfl (show (d + 1) < 2 ^ 31 by omega)]
      refine mz_doQ (R := mz_r172) (as := [.int (w 14 k), .int (g d), .int (g (d + 1))]) (rest := [.int (nI d), .ref 71]) (r1 := some (.int (sm_op (w 14 k) (g d) (g (d + 1))))) (m1 := mz_set m 71 g) mz_t172 mz_v172 rfl rfl rfl rfl rfl ((ct_joined h0 (g d) (g (d + 1))).deep (by decide)) ?_
      refine mz_arr (c' := (158, [some (.ref 65), some (.int 1), some (.int 295), some (.int (nI (d + 1))), some (.int (nI k)), some (.int 3), some (.int (w 14 k))], [], mz_up (mz_set m 71 g) 71 ((nI d).toNatClampNeg) (sm_op (w 14 k) (g d) (g (d + 1))))) rfl (show mz_in (nI d) 64 = true from sm_inN rfl (show d < 64 by omega) (by decide)) ?_
      rw [show (nI d : Int32).toNatClampNeg = d from sm_clN rfl (show d < 2 ^ 31 by omega)]
      refine mz_go 2 (c' := (14, [some (.ref 65), some (.int 1), some (.int 295), some (.int (nI (d + 1))), some (.int ((nI k) + 1)), some (.int 3), some (.int (w 14 k))], [], mz_up (mz_set m 71 g) 71 d (sm_op (w 14 k) (g d) (g (d + 1))))) rfl ?_
      exact E
set_option maxHeartbeats 4000000 in
set_option maxRecDepth 100000 in
theorem ct_ev1 {w m : mz_M} {T c : Nat} (hT : w 13 2 = nI T) (hw : sm_wf T c (w 14) (w 15)) (hc : c ≤ 5) (ht : sm_TR w (m 66) 13 295 sm_ch1) (hch : ∀ j, j < c → ∃ e, e < 128 ∧ sm_ch1 j = nI e) (nm : Nat → Int32) (hn : ∀ j, j < c → m 70 (sm_ch1 j).toNatClampNeg = nm j) : ∃ g', mz_Me 10 mz_r173 [.ref 65, .int 1] m (some (.int (sm_ev T (w 14) (w 15) nm))) (mz_set m 71 g') := by
  obtain ⟨g', E⟩ := ct_evl1 hT hw hc ht hch nm hn T 0 (by omega) (m 71) none none (fun j hj => absurd hj (Nat.not_lt_zero j))
  rw [sm_id] at E
  refine ⟨g', ?_, rfl⟩
  refine mz_go 10 (c' := (14, [some (.ref 65), some (.int 1), some (.int 295), some (.int 0), some (.int 0), none, none], [], m)) rfl ?_
  exact E
set_option maxHeartbeats 4000000 in
set_option maxRecDepth 100000 in
theorem ct_evl2 {w m : mz_M} {T c : Nat} (hT : w 16 2 = nI T) (hw : sm_wf T c (w 17) (w 18)) (hc : c ≤ 5) (ht : sm_TR w (m 66) 16 420 sm_ch2) (hch : ∀ j, j < c → ∃ e, e < 128 ∧ sm_ch2 j = nI e) (nm : Nat → Int32) (hn : ∀ j, j < c → m 70 (sm_ch2 j).toNatClampNeg = nm j) : ∀ n k : Nat, k + n = T → ∀ (g : Nat → Int32) (l5 l6 : Option Value), (∀ j, j < sm_dp (w 17) k → g j = sm_st (w 17) (w 18) nm k j) → ∃ g', mz_Ex 10 mz_k173 (14, [some (.ref 65), some (.int 2), some (.int 420), some (.int (nI (sm_dp (w 17) k))), some (.int (nI k)), l5, l6], [], mz_set m 71 g) (some (.int (sm_ev T (w 17) (w 18) nm)), mz_set m 71 g') := by
  have hT60 := hw.1
  have hT2 : m 66 420 = nI T := ht.1.trans hT
  have hcl : (w 16 2).toNatClampNeg = T := by rw [hT, nI_clamp (by omega)]
  intro n
  induction n with
  | zero =>
    intro k hk g l5 l6 hg
    have hk2 : k = T := by omega
    subst hk2
    have hd := hw.2.1
    rw [hd]
    refine ⟨g, ?_⟩
    refine mz_go 5 (c' := (22, [some (.ref 65), some (.int 2), some (.int 420), some (.int (nI 1)), some (.int (nI k)), l5, l6], [.int (m 66 420), .int (nI k)], mz_set m 71 g)) rfl ?_
    rw [hT2]
    refine mz_go 1 (c' := (if (nI k) ≤ (nI k) then 164 else 25, [some (.ref 65), some (.int 2), some (.int 420), some (.int (nI 1)), some (.int (nI k)), l5, l6], [], mz_set m 71 g)) rfl ?_
    refine mz_ifT (show ((nI k) ≤ (nI k)) from (sm_leN rfl rfl (show k ≤ k by omega) (show k < 2 ^ 31 by omega))) ?_
    refine mz_go 4 (c' := (170, [some (.ref 65), some (.int 2), some (.int 420), some (.int (nI 1)), some (.int (nI k)), l5, l6], [.int (g 0)], mz_set m 71 g)) rfl ?_
    rw [hg 0 (by rw [hd]; decide)]
    exact mz_ret rfl
  | succ n ih =>
    intro k hk g l5 l6 hg
    have hwk := hw.2.2 k (by omega)
    have hdk := sm_dp_le (w 17) k
    obtain ⟨k0, k1, k2, k3⟩ := ht.2 k (by omega)
    obtain ⟨d, hd⟩ : ∃ d, sm_dp (w 17) k = d := ⟨_, rfl⟩
    rw [hd] at hg hdk ⊢
    rcases hwk with h0 | ⟨h0, j, hj, hv⟩ | ⟨h0, hd1⟩ | ⟨h0, hd1⟩
    · have ha : m 66 (421 + (2 * k)) = 0 := (k0 h0).1
      have hb : m 66 (422 + (2 * k)) = w 18 k := (k0 h0).2
      have e1 : sm_dp (w 17) (k + 1) = d + 1 := by
        show (if _ then _ else if _ then _ else _) = _
        simp [h0, hd]
      have e2 : sm_st (w 17) (w 18) nm (k + 1) = sm_upd (sm_st (w 17) (w 18) nm k) (d) (w 18 k) := by
        show (if w 17 k = 0 then _ else if w 17 k = 1 then _ else if w 17 k = 33 then _ else _) = _
        rw [if_pos h0, hd]
      obtain ⟨g', E⟩ := ih (k + 1) (by omega) (sm_upd g (d) (w 18 k)) (some (.int (0))) (some (.int (w 18 k))) (by
        rw [e1, e2]
        exact sm_upd_eq (fun j hj hne => hg j (by omega)))
      rw [e1, nI_succ k, nI_succ d, ← sm_up_set] at E
      refine ⟨g', ?_⟩
      refine mz_go 5 (c' := (22, [some (.ref 65), some (.int 2), some (.int 420), some (.int (nI d)), some (.int (nI k)), l5, l6], [.int (m 66 420), .int (nI k)], mz_set m 71 g)) rfl ?_
      rw [hT2]
      refine mz_go 1 (c' := (if (nI T) ≤ (nI k) then 164 else 25, [some (.ref 65), some (.int 2), some (.int 420), some (.int (nI d)), some (.int (nI k)), l5, l6], [], mz_set m 71 g)) rfl ?_
      refine mz_ifF (show ¬ ((nI T) ≤ (nI k)) from (sm_nleN rfl rfl (show k < T by omega) (show T < 2 ^ 31 by omega))) ?_
      refine mz_go 9 (c' := (37, [some (.ref 65), some (.int 2), some (.int 420), some (.int (nI d)), some (.int (nI k)), l5, l6], [.int (421 + (2 * (nI k))), .ref 66], mz_set m 71 g)) rfl ?_
      refine mz_arr (c' := (38, [some (.ref 65), some (.int 2), some (.int 420), some (.int (nI d)), some (.int (nI k)), l5, l6], [.int (m 66 ((421 + (2 * (nI k))).toNatClampNeg))], mz_set m 71 g)) rfl (show mz_in (421 + (2 * (nI k))) 650 = true from sm_inN (sm_addN rfl (sm_mulN rfl rfl)) (show (421 + (2 * k)) < 650 by omega) (by decide)) ?_
      rw [show (421 + (2 * (nI k)) : Int32).toNatClampNeg = (421 + (2 * k)) from sm_clN (sm_addN rfl (sm_mulN rfl rfl)) (show (421 + (2 * k)) < 2 ^ 31 by omega)]
      rw [ha]
      refine mz_go 10 (c' := (52, [some (.ref 65), some (.int 2), some (.int 420), some (.int (nI d)), some (.int (nI k)), some (.int 0), l6], [.int (422 + (2 * (nI k))), .ref 66], mz_set m 71 g)) rfl ?_
      refine mz_arr (c' := (53, [some (.ref 65), some (.int 2), some (.int 420), some (.int (nI d)), some (.int (nI k)), some (.int 0), l6], [.int (m 66 ((422 + (2 * (nI k))).toNatClampNeg))], mz_set m 71 g)) rfl (show mz_in (422 + (2 * (nI k))) 650 = true from sm_inN (sm_addN rfl (sm_mulN rfl rfl)) (show (422 + (2 * k)) < 650 by omega) (by decide)) ?_
      rw [show (422 + (2 * (nI k)) : Int32).toNatClampNeg = (422 + (2 * k)) from sm_clN (sm_addN rfl (sm_mulN rfl rfl)) (show (422 + (2 * k)) < 2 ^ 31 by omega)]
      rw [hb]
      refine mz_go 10 (c' := (88, [some (.ref 65), some (.int 2), some (.int 420), some (.int (nI d)), some (.int (nI k)), some (.int 0), some (.int (w 18 k))], [.int (w 18 k), .int (nI d), .ref 71], mz_set m 71 g)) rfl ?_
      refine mz_arr (c' := (89, [some (.ref 65), some (.int 2), some (.int 420), some (.int (nI d)), some (.int (nI k)), some (.int 0), some (.int (w 18 k))], [], mz_up (mz_set m 71 g) 71 ((nI d).toNatClampNeg) (w 18 k))) rfl (show mz_in (nI d) 64 = true from sm_inN rfl (show d < 64 by omega) (by decide)) ?_
      rw [show (nI d : Int32).toNatClampNeg = d from sm_clN rfl (show d < 2 ^ 31 by omega)]
      refine mz_go 4 (c' := (14, [some (.ref 65), some (.int 2), some (.int 420), some (.int ((nI d) + 1)), some (.int ((nI k) + 1)), some (.int 0), some (.int (w 18 k))], [], mz_up (mz_set m 71 g) 71 d (w 18 k))) rfl ?_
      exact E
    · obtain ⟨e, he, hce⟩ := hch j hj
      have ha : m 66 (421 + (2 * k)) = 1 := (k1 h0).1
      have hb : m 66 (422 + (2 * k)) = nI e := by
        rw [show m 66 (422 + (2 * k)) = sm_ch2 (w 18 k).toNatClampNeg from (k1 h0).2, hv, nI_clamp (by omega), hce]
      have hne : m 70 e = nm j := by
        rw [← hn j hj, hce, nI_clamp (by omega)]
      have e1 : sm_dp (w 17) (k + 1) = d + 1 := by
        show (if _ then _ else if _ then _ else _) = _
        simp [h0, hd]
      have e2 : sm_st (w 17) (w 18) nm (k + 1) = sm_upd (sm_st (w 17) (w 18) nm k) (d) (nm j) := by
        show (if w 17 k = 0 then _ else if w 17 k = 1 then _ else if w 17 k = 33 then _ else _) = _
        rw [h0, if_neg (by decide), if_pos rfl, hd, hv, nI_clamp (by omega)]
      obtain ⟨g', E⟩ := ih (k + 1) (by omega) (sm_upd g (d) (nm j)) (some (.int (1))) (some (.int (nI e))) (by
        rw [e1, e2]
        exact sm_upd_eq (fun j hj hne => hg j (by omega)))
      rw [e1, nI_succ k, nI_succ d, ← sm_up_set] at E
      refine ⟨g', ?_⟩
      refine mz_go 5 (c' := (22, [some (.ref 65), some (.int 2), some (.int 420), some (.int (nI d)), some (.int (nI k)), l5, l6], [.int (m 66 420), .int (nI k)], mz_set m 71 g)) rfl ?_
      rw [hT2]
      refine mz_go 1 (c' := (if (nI T) ≤ (nI k) then 164 else 25, [some (.ref 65), some (.int 2), some (.int 420), some (.int (nI d)), some (.int (nI k)), l5, l6], [], mz_set m 71 g)) rfl ?_
      refine mz_ifF (show ¬ ((nI T) ≤ (nI k)) from (sm_nleN rfl rfl (show k < T by omega) (show T < 2 ^ 31 by omega))) ?_
      refine mz_go 9 (c' := (37, [some (.ref 65), some (.int 2), some (.int 420), some (.int (nI d)), some (.int (nI k)), l5, l6], [.int (421 + (2 * (nI k))), .ref 66], mz_set m 71 g)) rfl ?_
      refine mz_arr (c' := (38, [some (.ref 65), some (.int 2), some (.int 420), some (.int (nI d)), some (.int (nI k)), l5, l6], [.int (m 66 ((421 + (2 * (nI k))).toNatClampNeg))], mz_set m 71 g)) rfl (show mz_in (421 + (2 * (nI k))) 650 = true from sm_inN (sm_addN rfl (sm_mulN rfl rfl)) (show (421 + (2 * k)) < 650 by omega) (by decide)) ?_
      rw [show (421 + (2 * (nI k)) : Int32).toNatClampNeg = (421 + (2 * k)) from sm_clN (sm_addN rfl (sm_mulN rfl rfl)) (show (421 + (2 * k)) < 2 ^ 31 by omega)]
      rw [ha]
      refine mz_go 10 (c' := (52, [some (.ref 65), some (.int 2), some (.int 420), some (.int (nI d)), some (.int (nI k)), some (.int 1), l6], [.int (422 + (2 * (nI k))), .ref 66], mz_set m 71 g)) rfl ?_
      refine mz_arr (c' := (53, [some (.ref 65), some (.int 2), some (.int 420), some (.int (nI d)), some (.int (nI k)), some (.int 1), l6], [.int (m 66 ((422 + (2 * (nI k))).toNatClampNeg))], mz_set m 71 g)) rfl (show mz_in (422 + (2 * (nI k))) 650 = true from sm_inN (sm_addN rfl (sm_mulN rfl rfl)) (show (422 + (2 * k)) < 650 by omega) (by decide)) ?_
      rw [show (422 + (2 * (nI k)) : Int32).toNatClampNeg = (422 + (2 * k)) from sm_clN (sm_addN rfl (sm_mulN rfl rfl)) (show (422 + (2 * k)) < 2 ^ 31 by omega)]
      rw [hb]
      refine mz_go 14 (c' := (87, [some (.ref 65), some (.int 2), some (.int 420), some (.int (nI d)), some (.int (nI k)), some (.int 1), some (.int (nI e))], [.int (nI e), .ref 70, .int (nI d), .ref 71], mz_set m 71 g)) rfl ?_
      refine mz_arr (c' := (88, [some (.ref 65), some (.int 2), some (.int 420), some (.int (nI d)), some (.int (nI k)), some (.int 1), some (.int (nI e))], [.int (m 70 ((nI e).toNatClampNeg)), .int (nI d), .ref 71], mz_set m 71 g)) rfl (show mz_in (nI e) 128 = true from sm_inN rfl (show e < 128 by omega) (by decide)) ?_
      rw [show (nI e : Int32).toNatClampNeg = e from sm_clN rfl (show e < 2 ^ 31 by omega)]
      rw [hne]
      refine mz_arr (c' := (89, [some (.ref 65), some (.int 2), some (.int 420), some (.int (nI d)), some (.int (nI k)), some (.int 1), some (.int (nI e))], [], mz_up (mz_set m 71 g) 71 ((nI d).toNatClampNeg) (nm j))) rfl (show mz_in (nI d) 64 = true from sm_inN rfl (show d < 64 by omega) (by decide)) ?_
      rw [show (nI d : Int32).toNatClampNeg = d from sm_clN rfl (show d < 2 ^ 31 by omega)]
      refine mz_go 4 (c' := (14, [some (.ref 65), some (.int 2), some (.int 420), some (.int ((nI d) + 1)), some (.int ((nI k) + 1)), some (.int 1), some (.int (nI e))], [], mz_up (mz_set m 71 g) 71 d (nm j))) rfl ?_
      exact E
    · have ha : m 66 (421 + (2 * k)) = 2 := k2 h0
      obtain ⟨d, rfl⟩ : ∃ c, d = c + 1 := ⟨d - 1, by omega⟩
      by_cases hc : g d = 0
      · have e1 : sm_dp (w 17) (k + 1) = d + 1 := by
          show (if _ then _ else if _ then _ else _) = _
          simp [h0, hd]
        have e2 : sm_st (w 17) (w 18) nm (k + 1) = sm_upd (sm_st (w 17) (w 18) nm k) (d) (1) := by
          show (if w 17 k = 0 then _ else if w 17 k = 1 then _ else if w 17 k = 33 then _ else _) = _
          rw [h0, if_neg (by decide), if_neg (by decide), if_pos rfl, hd, Nat.add_sub_cancel, ← hg d (by omega)]
          simp [sm_bI, hc]
        obtain ⟨g', E⟩ := ih (k + 1) (by omega) (sm_upd g (d) (1)) (some (.int (2))) (some (.int (m 66 (422 + (2 * k))))) (by
          rw [e1, e2]
          exact sm_upd_eq (fun j hj hne => hg j (by omega)))
        rw [e1, nI_succ k, ← sm_up_set] at E
        refine ⟨g', ?_⟩
        refine mz_go 5 (c' := (22, [some (.ref 65), some (.int 2), some (.int 420), some (.int (nI (d + 1))), some (.int (nI k)), l5, l6], [.int (m 66 420), .int (nI k)], mz_set m 71 g)) rfl ?_
        rw [hT2]
        refine mz_go 1 (c' := (if (nI T) ≤ (nI k) then 164 else 25, [some (.ref 65), some (.int 2), some (.int 420), some (.int (nI (d + 1))), some (.int (nI k)), l5, l6], [], mz_set m 71 g)) rfl ?_
        refine mz_ifF (show ¬ ((nI T) ≤ (nI k)) from (sm_nleN rfl rfl (show k < T by omega) (show T < 2 ^ 31 by omega))) ?_
        refine mz_go 9 (c' := (37, [some (.ref 65), some (.int 2), some (.int 420), some (.int (nI (d + 1))), some (.int (nI k)), l5, l6], [.int (421 + (2 * (nI k))), .ref 66], mz_set m 71 g)) rfl ?_
        refine mz_arr (c' := (38, [some (.ref 65), some (.int 2), some (.int 420), some (.int (nI (d + 1))), some (.int (nI k)), l5, l6], [.int (m 66 ((421 + (2 * (nI k))).toNatClampNeg))], mz_set m 71 g)) rfl (show mz_in (421 + (2 * (nI k))) 650 = true from sm_inN (sm_addN rfl (sm_mulN rfl rfl)) (show (421 + (2 * k)) < 650 by omega) (by decide)) ?_
        rw [show (421 + (2 * (nI k)) : Int32).toNatClampNeg = (421 + (2 * k)) from sm_clN (sm_addN rfl (sm_mulN rfl rfl)) (show (421 + (2 * k)) < 2 ^ 31 by omega)]
        rw [ha]
        refine mz_go 10 (c' := (52, [some (.ref 65), some (.int 2), some (.int 420), some (.int (nI (d + 1))), some (.int (nI k)), some (.int 2), l6], [.int (422 + (2 * (nI k))), .ref 66], mz_set m 71 g)) rfl ?_
        refine mz_arr (c' := (53, [some (.ref 65), some (.int 2), some (.int 420), some (.int (nI (d + 1))), some (.int (nI k)), some (.int 2), l6], [.int (m 66 ((422 + (2 * (nI k))).toNatClampNeg))], mz_set m 71 g)) rfl (show mz_in (422 + (2 * (nI k))) 650 = true from sm_inN (sm_addN rfl (sm_mulN rfl rfl)) (show (422 + (2 * k)) < 650 by omega) (by decide)) ?_
        rw [show (422 + (2 * (nI k)) : Int32).toNatClampNeg = (422 + (2 * k)) from sm_clN (sm_addN rfl (sm_mulN rfl rfl)) (show (422 + (2 * k)) < 2 ^ 31 by omega)]
        refine mz_go 14 (c' := (108, [some (.ref 65), some (.int 2), some (.int 420), some (.int (nI (d + 1))), some (.int (nI k)), some (.int 2), some (.int (m 66 (422 + (2 * k))))], [.int ((nI (d + 1)) - 1), .ref 71], mz_set m 71 g)) rfl ?_
        rw [nI_pred d]
        refine mz_go 5 (c' := (115, [some (.ref 65), some (.int 2), some (.int 420), some (.int (nI (d + 1))), some (.int (nI k)), some (.int 2), some (.int (m 66 (422 + (2 * k))))], [.int ((nI (d + 1)) - 1), .ref 71, .int (nI d), .ref 71], mz_set m 71 g)) rfl ?_
        rw [nI_pred d]
        refine mz_arr (c' := (116, [some (.ref 65), some (.int 2), some (.int 420), some (.int (nI (d + 1))), some (.int (nI k)), some (.int 2), some (.int (m 66 (422 + (2 * k))))], [.int (g ((nI d).toNatClampNeg)), .int (nI d), .ref 71], mz_set m 71 g)) rfl (show mz_in (nI d) 64 = true from sm_inN rfl (show d < 64 by omega) (by decide)) ?_
        rw [show (nI d : Int32).toNatClampNeg = d from sm_clN rfl (show d < 2 ^ 31 by omega)]
        refine mz_go 1 (c' := (if (g d) = 0 then 119 else 123, [some (.ref 65), some (.int 2), some (.int 420), some (.int (nI (d + 1))), some (.int (nI k)), some (.int 2), some (.int (m 66 (422 + (2 * k))))], [.int (nI d), .ref 71], mz_set m 71 g)) rfl ?_
        refine mz_ifT hc ?_
        refine mz_go 2 (c' := (124, [some (.ref 65), some (.int 2), some (.int 420), some (.int (nI (d + 1))), some (.int (nI k)), some (.int 2), some (.int (m 66 (422 + (2 * k))))], [.int 1, .int (nI d), .ref 71], mz_set m 71 g)) rfl ?_
        refine mz_arr (c' := (125, [some (.ref 65), some (.int 2), some (.int 420), some (.int (nI (d + 1))), some (.int (nI k)), some (.int 2), some (.int (m 66 (422 + (2 * k))))], [], mz_up (mz_set m 71 g) 71 ((nI d).toNatClampNeg) 1)) rfl (show mz_in (nI d) 64 = true from sm_inN rfl (show d < 64 by omega) (by decide)) ?_
        rw [show (nI d : Int32).toNatClampNeg = d from sm_clN rfl (show d < 2 ^ 31 by omega)]
        refine mz_go 3 (c' := (14, [some (.ref 65), some (.int 2), some (.int 420), some (.int (nI (d + 1))), some (.int ((nI k) + 1)), some (.int 2), some (.int (m 66 (422 + (2 * k))))], [], mz_up (mz_set m 71 g) 71 d 1)) rfl ?_
        exact E
      · have e1 : sm_dp (w 17) (k + 1) = d + 1 := by
          show (if _ then _ else if _ then _ else _) = _
          simp [h0, hd]
        have e2 : sm_st (w 17) (w 18) nm (k + 1) = sm_upd (sm_st (w 17) (w 18) nm k) (d) (0) := by
          show (if w 17 k = 0 then _ else if w 17 k = 1 then _ else if w 17 k = 33 then _ else _) = _
          rw [h0, if_neg (by decide), if_neg (by decide), if_pos rfl, hd, Nat.add_sub_cancel, ← hg d (by omega)]
          simp [sm_bI, hc]
        obtain ⟨g', E⟩ := ih (k + 1) (by omega) (sm_upd g (d) (0)) (some (.int (2))) (some (.int (m 66 (422 + (2 * k))))) (by
          rw [e1, e2]
          exact sm_upd_eq (fun j hj hne => hg j (by omega)))
        rw [e1, nI_succ k, ← sm_up_set] at E
        refine ⟨g', ?_⟩
        refine mz_go 5 (c' := (22, [some (.ref 65), some (.int 2), some (.int 420), some (.int (nI (d + 1))), some (.int (nI k)), l5, l6], [.int (m 66 420), .int (nI k)], mz_set m 71 g)) rfl ?_
        rw [hT2]
        refine mz_go 1 (c' := (if (nI T) ≤ (nI k) then 164 else 25, [some (.ref 65), some (.int 2), some (.int 420), some (.int (nI (d + 1))), some (.int (nI k)), l5, l6], [], mz_set m 71 g)) rfl ?_
        refine mz_ifF (show ¬ ((nI T) ≤ (nI k)) from (sm_nleN rfl rfl (show k < T by omega) (show T < 2 ^ 31 by omega))) ?_
        refine mz_go 9 (c' := (37, [some (.ref 65), some (.int 2), some (.int 420), some (.int (nI (d + 1))), some (.int (nI k)), l5, l6], [.int (421 + (2 * (nI k))), .ref 66], mz_set m 71 g)) rfl ?_
        refine mz_arr (c' := (38, [some (.ref 65), some (.int 2), some (.int 420), some (.int (nI (d + 1))), some (.int (nI k)), l5, l6], [.int (m 66 ((421 + (2 * (nI k))).toNatClampNeg))], mz_set m 71 g)) rfl (show mz_in (421 + (2 * (nI k))) 650 = true from sm_inN (sm_addN rfl (sm_mulN rfl rfl)) (show (421 + (2 * k)) < 650 by omega) (by decide)) ?_
        rw [show (421 + (2 * (nI k)) : Int32).toNatClampNeg = (421 + (2 * k)) from sm_clN (sm_addN rfl (sm_mulN rfl rfl)) (show (421 + (2 * k)) < 2 ^ 31 by omega)]
        rw [ha]
        refine mz_go 10 (c' := (52, [some (.ref 65), some (.int 2), some (.int 420), some (.int (nI (d + 1))), some (.int (nI k)), some (.int 2), l6], [.int (422 + (2 * (nI k))), .ref 66], mz_set m 71 g)) rfl ?_
        refine mz_arr (c' := (53, [some (.ref 65), some (.int 2), some (.int 420), some (.int (nI (d + 1))), some (.int (nI k)), some (.int 2), l6], [.int (m 66 ((422 + (2 * (nI k))).toNatClampNeg))], mz_set m 71 g)) rfl (show mz_in (422 + (2 * (nI k))) 650 = true from sm_inN (sm_addN rfl (sm_mulN rfl rfl)) (show (422 + (2 * k)) < 650 by omega) (by decide)) ?_
        rw [show (422 + (2 * (nI k)) : Int32).toNatClampNeg = (422 + (2 * k)) from sm_clN (sm_addN rfl (sm_mulN rfl rfl)) (show (422 + (2 * k)) < 2 ^ 31 by omega)]
        refine mz_go 14 (c' := (108, [some (.ref 65), some (.int 2), some (.int 420), some (.int (nI (d + 1))), some (.int (nI k)), some (.int 2), some (.int (m 66 (422 + (2 * k))))], [.int ((nI (d + 1)) - 1), .ref 71], mz_set m 71 g)) rfl ?_
        rw [nI_pred d]
        refine mz_go 5 (c' := (115, [some (.ref 65), some (.int 2), some (.int 420), some (.int (nI (d + 1))), some (.int (nI k)), some (.int 2), some (.int (m 66 (422 + (2 * k))))], [.int ((nI (d + 1)) - 1), .ref 71, .int (nI d), .ref 71], mz_set m 71 g)) rfl ?_
        rw [nI_pred d]
        refine mz_arr (c' := (116, [some (.ref 65), some (.int 2), some (.int 420), some (.int (nI (d + 1))), some (.int (nI k)), some (.int 2), some (.int (m 66 (422 + (2 * k))))], [.int (g ((nI d).toNatClampNeg)), .int (nI d), .ref 71], mz_set m 71 g)) rfl (show mz_in (nI d) 64 = true from sm_inN rfl (show d < 64 by omega) (by decide)) ?_
        rw [show (nI d : Int32).toNatClampNeg = d from sm_clN rfl (show d < 2 ^ 31 by omega)]
        refine mz_go 1 (c' := (if (g d) = 0 then 119 else 123, [some (.ref 65), some (.int 2), some (.int 420), some (.int (nI (d + 1))), some (.int (nI k)), some (.int 2), some (.int (m 66 (422 + (2 * k))))], [.int (nI d), .ref 71], mz_set m 71 g)) rfl ?_
        refine mz_ifF hc ?_
        refine mz_go 1 (c' := (124, [some (.ref 65), some (.int 2), some (.int 420), some (.int (nI (d + 1))), some (.int (nI k)), some (.int 2), some (.int (m 66 (422 + (2 * k))))], [.int 0, .int (nI d), .ref 71], mz_set m 71 g)) rfl ?_
        refine mz_arr (c' := (125, [some (.ref 65), some (.int 2), some (.int 420), some (.int (nI (d + 1))), some (.int (nI k)), some (.int 2), some (.int (m 66 (422 + (2 * k))))], [], mz_up (mz_set m 71 g) 71 ((nI d).toNatClampNeg) 0)) rfl (show mz_in (nI d) 64 = true from sm_inN rfl (show d < 64 by omega) (by decide)) ?_
        rw [show (nI d : Int32).toNatClampNeg = d from sm_clN rfl (show d < 2 ^ 31 by omega)]
        refine mz_go 3 (c' := (14, [some (.ref 65), some (.int 2), some (.int 420), some (.int (nI (d + 1))), some (.int ((nI k) + 1)), some (.int 2), some (.int (m 66 (422 + (2 * k))))], [], mz_up (mz_set m 71 g) 71 d 0)) rfl ?_
        exact E
    · obtain ⟨d, rfl⟩ : ∃ c, d = c + 2 := ⟨d - 2, by omega⟩
      obtain ⟨n0, n1, n33, n2⟩ := sm_sgn_ne h0
      have ha : m 66 (421 + (2 * k)) = 3 := (k3 h0).1
      have hb : m 66 (422 + (2 * k)) = w 17 k := (k3 h0).2
      have e1 : sm_dp (w 17) (k + 1) = d + 1 := by
        show (if _ then _ else if _ then _ else _) = _
        simp [n0, n1, n33, hd]
      have e2 : sm_st (w 17) (w 18) nm (k + 1) = sm_upd (sm_st (w 17) (w 18) nm k) (d) (sm_op (w 17 k) (g d) (g (d + 1))) := by
        show (if w 17 k = 0 then _ else if w 17 k = 1 then _ else if w 17 k = 33 then _ else _) = _
        rw [if_neg n0, if_neg n1, if_neg n33, hd, hg d (by omega), hg (d + 1) (by omega)]
        rfl
      obtain ⟨g', E⟩ := ih (k + 1) (by omega) (sm_upd g (d) (sm_op (w 17 k) (g d) (g (d + 1)))) (some (.int (3))) (some (.int (w 17 k))) (by
        rw [e1, e2]
        exact sm_upd_eq (fun j hj hne => hg j (by omega)))
      rw [e1, nI_succ k, ← sm_up_set] at E
      refine ⟨g', ?_⟩
      refine mz_go 5 (c' := (22, [some (.ref 65), some (.int 2), some (.int 420), some (.int (nI (d + 2))), some (.int (nI k)), l5, l6], [.int (m 66 420), .int (nI k)], mz_set m 71 g)) rfl ?_
      rw [hT2]
      refine mz_go 1 (c' := (if (nI T) ≤ (nI k) then 164 else 25, [some (.ref 65), some (.int 2), some (.int 420), some (.int (nI (d + 2))), some (.int (nI k)), l5, l6], [], mz_set m 71 g)) rfl ?_
      refine mz_ifF (show ¬ ((nI T) ≤ (nI k)) from (sm_nleN rfl rfl (show k < T by omega) (show T < 2 ^ 31 by omega))) ?_
      refine mz_go 9 (c' := (37, [some (.ref 65), some (.int 2), some (.int 420), some (.int (nI (d + 2))), some (.int (nI k)), l5, l6], [.int (421 + (2 * (nI k))), .ref 66], mz_set m 71 g)) rfl ?_
      refine mz_arr (c' := (38, [some (.ref 65), some (.int 2), some (.int 420), some (.int (nI (d + 2))), some (.int (nI k)), l5, l6], [.int (m 66 ((421 + (2 * (nI k))).toNatClampNeg))], mz_set m 71 g)) rfl (show mz_in (421 + (2 * (nI k))) 650 = true from sm_inN (sm_addN rfl (sm_mulN rfl rfl)) (show (421 + (2 * k)) < 650 by omega) (by decide)) ?_
      rw [show (421 + (2 * (nI k)) : Int32).toNatClampNeg = (421 + (2 * k)) from sm_clN (sm_addN rfl (sm_mulN rfl rfl)) (show (421 + (2 * k)) < 2 ^ 31 by omega)]
      rw [ha]
      refine mz_go 10 (c' := (52, [some (.ref 65), some (.int 2), some (.int 420), some (.int (nI (d + 2))), some (.int (nI k)), some (.int 3), l6], [.int (422 + (2 * (nI k))), .ref 66], mz_set m 71 g)) rfl ?_
      refine mz_arr (c' := (53, [some (.ref 65), some (.int 2), some (.int 420), some (.int (nI (d + 2))), some (.int (nI k)), some (.int 3), l6], [.int (m 66 ((422 + (2 * (nI k))).toNatClampNeg))], mz_set m 71 g)) rfl (show mz_in (422 + (2 * (nI k))) 650 = true from sm_inN (sm_addN rfl (sm_mulN rfl rfl)) (show (422 + (2 * k)) < 650 by omega) (by decide)) ?_
      rw [show (422 + (2 * (nI k)) : Int32).toNatClampNeg = (422 + (2 * k)) from sm_clN (sm_addN rfl (sm_mulN rfl rfl)) (show (422 + (2 * k)) < 2 ^ 31 by omega)]
      rw [hb]
      refine mz_go 13 (c' := (136, [some (.ref 65), some (.int 2), some (.int 420), some (.int ((nI (d + 2)) + (-1))), some (.int (nI k)), some (.int 3), some (.int (w 17 k))], [.int ((nI (d + 2)) + (-1)), .ref 71], mz_set m 71 g)) rfl ?_
      rw [show (nI (d + 2) : Int32) + (-1) = nI (d + 1) from sm_dec1 (d + 1)]
      refine mz_go 2 (c' := (138, [some (.ref 65), some (.int 2), some (.int 420), some (.int (nI (d + 1))), some (.int (nI k)), some (.int 3), some (.int (w 17 k))], [.int ((nI (d + 1)) - 1), .ref 71], mz_set m 71 g)) rfl ?_
      rw [nI_pred d]
      refine mz_go 6 (c' := (147, [some (.ref 65), some (.int 2), some (.int 420), some (.int (nI (d + 1))), some (.int (nI k)), some (.int 3), some (.int (w 17 k))], [.int ((nI (d + 1)) - 1), .ref 71, .int (w 17 k), .int (nI d), .ref 71], mz_set m 71 g)) rfl ?_
      rw [nI_pred d]
      refine mz_arr (c' := (148, [some (.ref 65), some (.int 2), some (.int 420), some (.int (nI (d + 1))), some (.int (nI k)), some (.int 3), some (.int (w 17 k))], [.int (g ((nI d).toNatClampNeg)), .int (w 17 k), .int (nI d), .ref 71], mz_set m 71 g)) rfl (show mz_in (nI d) 64 = true from sm_inN rfl (show d < 64 by omega) (by decide)) ?_
      rw [show (nI d : Int32).toNatClampNeg = d from sm_clN rfl (show d < 2 ^ 31 by omega)]
      refine mz_go 3 (c' := (153, [some (.ref 65), some (.int 2), some (.int 420), some (.int (nI (d + 1))), some (.int (nI k)), some (.int 3), some (.int (w 17 k))], [.int (nI (d + 1)), .ref 71, .int (g d), .int (w 17 k), .int (nI d), .ref 71], mz_set m 71 g)) rfl ?_
      refine mz_arr (c' := (154, [some (.ref 65), some (.int 2), some (.int 420), some (.int (nI (d + 1))), some (.int (nI k)), some (.int 3), some (.int (w 17 k))], [.int (g ((nI (d + 1)).toNatClampNeg)), .int (g d), .int (w 17 k), .int (nI d), .ref 71], mz_set m 71 g)) rfl (show mz_in (nI (d + 1)) 64 = true from sm_inN rfl (show (d + 1) < 64 by omega) (by decide)) ?_
      rw [show (nI (d + 1) : Int32).toNatClampNeg = (d + 1) from sm_clN rfl (show (d + 1) < 2 ^ 31 by omega)]
      refine mz_doQ (R := mz_r172) (as := [.int (w 17 k), .int (g d), .int (g (d + 1))]) (rest := [.int (nI d), .ref 71]) (r1 := some (.int (sm_op (w 17 k) (g d) (g (d + 1))))) (m1 := mz_set m 71 g) mz_t172 mz_v172 rfl rfl rfl rfl rfl ((ct_joined h0 (g d) (g (d + 1))).deep (by decide)) ?_
      refine mz_arr (c' := (158, [some (.ref 65), some (.int 2), some (.int 420), some (.int (nI (d + 1))), some (.int (nI k)), some (.int 3), some (.int (w 17 k))], [], mz_up (mz_set m 71 g) 71 ((nI d).toNatClampNeg) (sm_op (w 17 k) (g d) (g (d + 1))))) rfl (show mz_in (nI d) 64 = true from sm_inN rfl (show d < 64 by omega) (by decide)) ?_
      rw [show (nI d : Int32).toNatClampNeg = d from sm_clN rfl (show d < 2 ^ 31 by omega)]
      refine mz_go 2 (c' := (14, [some (.ref 65), some (.int 2), some (.int 420), some (.int (nI (d + 1))), some (.int ((nI k) + 1)), some (.int 3), some (.int (w 17 k))], [], mz_up (mz_set m 71 g) 71 d (sm_op (w 17 k) (g d) (g (d + 1))))) rfl ?_
      exact E
set_option maxHeartbeats 4000000 in
set_option maxRecDepth 100000 in
theorem ct_ev2 {w m : mz_M} {T c : Nat} (hT : w 16 2 = nI T) (hw : sm_wf T c (w 17) (w 18)) (hc : c ≤ 5) (ht : sm_TR w (m 66) 16 420 sm_ch2) (hch : ∀ j, j < c → ∃ e, e < 128 ∧ sm_ch2 j = nI e) (nm : Nat → Int32) (hn : ∀ j, j < c → m 70 (sm_ch2 j).toNatClampNeg = nm j) : ∃ g', mz_Me 10 mz_r173 [.ref 65, .int 2] m (some (.int (sm_ev T (w 17) (w 18) nm))) (mz_set m 71 g') := by
  obtain ⟨g', E⟩ := ct_evl2 hT hw hc ht hch nm hn T 0 (by omega) (m 71) none none (fun j hj => absurd hj (Nat.not_lt_zero j))
  rw [sm_id] at E
  refine ⟨g', ?_, rfl⟩
  refine mz_go 10 (c' := (14, [some (.ref 65), some (.int 2), some (.int 420), some (.int 0), some (.int 0), none, none], [], m)) rfl ?_
  exact E
