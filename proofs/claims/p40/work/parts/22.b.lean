theorem sm_top (d : Nat) : nI d - 1 + 1 = nI d := Int32.sub_add_cancel _ _
theorem sm_dec (x : Int32) : x + (-1) = x - 1 := (Int32.sub_eq_add_neg x 1).symm
theorem sm_upd_eq {g f : Nat → Int32} {d e : Nat} {v : Int32} (h : ∀ j, j < e → j ≠ d → g j = f j) : ∀ j, j < e → sm_upd g d v j = sm_upd f d v j := by
  intro j hj
  unfold sm_upd
  by_cases h1 : j = d
  · rw [if_pos h1, if_pos h1]
  · rw [if_neg h1, if_neg h1, h j hj h1]
theorem sm_sgn_ne {s : Int32} (h : sm_sgn s = true) : ¬ s = 0 ∧ ¬ s = 1 ∧ ¬ s = 33 ∧ ¬ s = 2 := by
  refine ⟨?_, ?_, ?_, ?_⟩ <;> (intro e; subst e; exact absurd h (by decide))
theorem sm_id52 {m : mz_M} : mz_set m 52 (m 52) = m := by
  funext a b
  unfold mz_set
  by_cases h : a = 52
  · subst h
    rfl
  · rw [beq_eq_false_iff_ne.mpr h]
    rfl
set_option maxHeartbeats 4000000 in
set_option maxRecDepth 100000 in
theorem cs_evl10 {m : mz_M} {T c : Nat} (hT : m 10 2 = nI T) (hw : sm_wf T c (m 11) (m 12)) (hc : c ≤ 5) : ∀ n k : Nat, k + n = T → ∀ (g : Nat → Int32) (l5 l6 : Option Value), (∀ j, j < sm_dp (m 11) k → g j = sm_st (m 11) (m 12) (m 51) k j) → ∃ g', mz_Ex 10 mz_k57 (5, [some (.ref 10), some (.ref 51), some (.ref 52), some (.int (nI (sm_dp (m 11) k) - 1)), some (.int (nI k)), l5, l6], [], mz_set m 52 g) (some (.int (sm_ev T (m 11) (m 12) (m 51))), mz_set m 52 g') := by
  intro n
  induction n with
  | zero =>
    intro k hk g l5 l6 hg
    have hk2 : k = T := by omega
    subst hk2
    have hd := hw.2.1
    have hT60 := hw.1
    rw [hd]
    refine ⟨g, ?_⟩
    refine mz_go 3 (c' := (11, [some (.ref 10), some (.ref 51), some (.ref 52), some (.int (nI 1 - 1)), some (.int (nI k)), l5, l6], [.int (m 10 2), .int (nI k)], mz_set m 52 g)) rfl ?_
    rw [hT]
    refine mz_go 1 (c' := (if (nI k) ≤ (nI k) then 158 else 14, [some (.ref 10), some (.ref 51), some (.ref 52), some (.int (nI 1 - 1)), some (.int (nI k)), l5, l6], [], mz_set m 52 g)) rfl ?_
    refine mz_ifT (show ((nI k) ≤ (nI k)) from (sm_leN rfl rfl (show k ≤ k by omega) (show k < 2 ^ 31 by omega))) ?_
    refine mz_go 2 (c' := (if (nI 1 - 1) < 0 then 168 else 162, [some (.ref 10), some (.ref 51), some (.ref 52), some (.int (nI 1 - 1)), some (.int (nI k)), l5, l6], [], mz_set m 52 g)) rfl ?_
    refine mz_ifF (show ¬ ((nI 1 - 1) < 0) from (sm_nltN (show nI 1 - 1 = nI 0 from by decide) rfl (show 0 ≤ 0 by omega) (show 0 < 2 ^ 31 by omega))) ?_
    refine mz_go 2 (c' := (164, [some (.ref 10), some (.ref 51), some (.ref 52), some (.int (nI 1 - 1)), some (.int (nI k)), l5, l6], [.int (nI 1 - 1), .ref 52], mz_set m 52 g)) rfl ?_
    refine mz_arr (c' := (165, [some (.ref 10), some (.ref 51), some (.ref 52), some (.int (nI 1 - 1)), some (.int (nI k)), l5, l6], [.int (g ((nI 1 - 1).toNatClampNeg))], mz_set m 52 g)) rfl (show mz_in (nI 1 - 1) 60 = true from sm_inN (show nI 1 - 1 = nI 0 from by decide) (show 0 < 60 by omega) (by decide)) ?_
    rw [show (nI 1 - 1 : Int32).toNatClampNeg = 0 from sm_clN (show nI 1 - 1 = nI 0 from by decide) (show 0 < 2 ^ 31 by omega)]
    refine mz_go 1 (c' := (169, [some (.ref 10), some (.ref 51), some (.ref 52), some (.int (nI 1 - 1)), some (.int (nI k)), l5, l6], [.int (g 0)], mz_set m 52 g)) rfl ?_
    rw [hg 0 (by rw [hd]; decide)]
    exact mz_ret rfl
  | succ n ih =>
    intro k hk g l5 l6 hg
    have hwk := hw.2.2 k (by omega)
    have hdk := sm_dp_le (m 11) k
    have hT60 := hw.1
    obtain ⟨d, hd⟩ : ∃ d, sm_dp (m 11) k = d := ⟨_, rfl⟩
    rw [hd] at hg hdk ⊢
    rcases hwk with h0 | ⟨h0, j, hj, hv⟩ | ⟨h0, hd1⟩ | ⟨h0, hd1⟩
    · have e1 : sm_dp (m 11) (k + 1) = d + 1 := by
        show (if _ then _ else if _ then _ else _) = _
        simp [h0, hd]
      have e2 : sm_st (m 11) (m 12) (m 51) (k + 1) = sm_upd (sm_st (m 11) (m 12) (m 51) k) (d) (m 12 k) := by
        show (if m 11 k = 0 then _ else if m 11 k = 1 then _ else if m 11 k = 33 then _ else _) = _
        rw [if_pos h0, hd]
      obtain ⟨g', E⟩ := ih (k + 1) (by omega) (sm_upd g (d) (m 12 k)) (some (.int (0))) (some (.int (m 12 k))) (by
        rw [e1, e2]
        exact sm_upd_eq (fun j hj hne => hg j (by omega)))
      rw [e1, nI_succ k, ← sm_up_set, nI_pred] at E
      refine ⟨g', ?_⟩
      refine mz_go 3 (c' := (11, [some (.ref 10), some (.ref 51), some (.ref 52), some (.int (nI d - 1)), some (.int (nI k)), l5, l6], [.int (m 10 2), .int (nI k)], mz_set m 52 g)) rfl ?_
      rw [hT]
      refine mz_go 1 (c' := (if (nI T) ≤ (nI k) then 158 else 14, [some (.ref 10), some (.ref 51), some (.ref 52), some (.int (nI d - 1)), some (.int (nI k)), l5, l6], [], mz_set m 52 g)) rfl ?_
      refine mz_ifF (show ¬ ((nI T) ≤ (nI k)) from (sm_nleN rfl rfl (show k < T by omega) (show T < 2 ^ 31 by omega))) ?_
      refine mz_go 3 (c' := (if 60 ≤ (nI k) then 158 else 21, [some (.ref 10), some (.ref 51), some (.ref 52), some (.int (nI d - 1)), some (.int (nI k)), l5, l6], [], mz_set m 52 g)) rfl ?_
      refine mz_ifF (show ¬ (60 ≤ (nI k)) from (sm_nleN rfl rfl (show k < 60 by omega) (show 60 < 2 ^ 31 by omega))) ?_
      refine mz_go 3 (c' := (27, [some (.ref 10), some (.ref 51), some (.ref 52), some (.int (nI d - 1)), some (.int (nI k)), l5, l6], [.int (nI k), .ref 11], mz_set m 52 g)) rfl ?_
      refine mz_arr (c' := (28, [some (.ref 10), some (.ref 51), some (.ref 52), some (.int (nI d - 1)), some (.int (nI k)), l5, l6], [.int (m 11 ((nI k).toNatClampNeg))], mz_set m 52 g)) rfl (show mz_in (nI k) 60 = true from sm_inN rfl (show k < 60 by omega) (by decide)) ?_
      rw [show (nI k : Int32).toNatClampNeg = k from sm_clN rfl (show k < 2 ^ 31 by omega)]
      rw [h0]
      refine mz_go 4 (c' := (36, [some (.ref 10), some (.ref 51), some (.ref 52), some (.int (nI d - 1)), some (.int (nI k)), some (.int 0), l6], [.int (nI k), .ref 12], mz_set m 52 g)) rfl ?_
      refine mz_arr (c' := (37, [some (.ref 10), some (.ref 51), some (.ref 52), some (.int (nI d - 1)), some (.int (nI k)), some (.int 0), l6], [.int (m 12 ((nI k).toNatClampNeg))], mz_set m 52 g)) rfl (show mz_in (nI k) 60 = true from sm_inN rfl (show k < 60 by omega) (by decide)) ?_
      rw [show (nI k : Int32).toNatClampNeg = k from sm_clN rfl (show k < 2 ^ 31 by omega)]
      refine mz_go 6 (c' := (53, [some (.ref 10), some (.ref 51), some (.ref 52), some (.int (nI d - 1)), some (.int (nI k)), some (.int 0), some (.int (m 12 k))], [.int ((nI d - 1) + 1)], mz_set m 52 g)) rfl ?_
      rw [sm_top d]
      refine mz_go 3 (c' := (if 60 ≤ (nI d) then 152 else 58, [some (.ref 10), some (.ref 51), some (.ref 52), some (.int (nI d - 1)), some (.int (nI k)), some (.int 0), some (.int (m 12 k))], [], mz_set m 52 g)) rfl ?_
      refine mz_ifF (show ¬ (60 ≤ (nI d)) from (sm_nleN rfl rfl (show d < 60 by omega) (show 60 < 2 ^ 31 by omega))) ?_
      refine mz_go 3 (c' := (63, [some (.ref 10), some (.ref 51), some (.ref 52), some (.int ((nI d - 1) + 1)), some (.int (nI k)), some (.int 0), some (.int (m 12 k))], [.int ((nI d - 1) + 1), .ref 52], mz_set m 52 g)) rfl ?_
      rw [sm_top d]
      refine mz_go 4 (c' := (94, [some (.ref 10), some (.ref 51), some (.ref 52), some (.int (nI d)), some (.int (nI k)), some (.int 0), some (.int (m 12 k))], [.int (m 12 k), .int (nI d), .ref 52], mz_set m 52 g)) rfl ?_
      refine mz_arr (c' := (95, [some (.ref 10), some (.ref 51), some (.ref 52), some (.int (nI d)), some (.int (nI k)), some (.int 0), some (.int (m 12 k))], [], mz_up (mz_set m 52 g) 52 ((nI d).toNatClampNeg) (m 12 k))) rfl (show mz_in (nI d) 60 = true from sm_inN rfl (show d < 60 by omega) (by decide)) ?_
      rw [show (nI d : Int32).toNatClampNeg = d from sm_clN rfl (show d < 2 ^ 31 by omega)]
      refine mz_go 3 (c' := (5, [some (.ref 10), some (.ref 51), some (.ref 52), some (.int (nI d)), some (.int ((nI k) + 1)), some (.int 0), some (.int (m 12 k))], [], mz_up (mz_set m 52 g) 52 d (m 12 k))) rfl ?_
      exact E
    · have e1 : sm_dp (m 11) (k + 1) = d + 1 := by
        show (if _ then _ else if _ then _ else _) = _
        simp [h0, hd]
      have e2 : sm_st (m 11) (m 12) (m 51) (k + 1) = sm_upd (sm_st (m 11) (m 12) (m 51) k) (d) (m 51 j) := by
        show (if m 11 k = 0 then _ else if m 11 k = 1 then _ else if m 11 k = 33 then _ else _) = _
        rw [h0, if_neg (by decide), if_pos rfl, hd, hv, nI_clamp (by omega)]
      obtain ⟨g', E⟩ := ih (k + 1) (by omega) (sm_upd g (d) (m 51 j)) (some (.int (1))) (some (.int (nI j))) (by
        rw [e1, e2]
        exact sm_upd_eq (fun j hj hne => hg j (by omega)))
      rw [e1, nI_succ k, ← sm_up_set, nI_pred] at E
      refine ⟨g', ?_⟩
      refine mz_go 3 (c' := (11, [some (.ref 10), some (.ref 51), some (.ref 52), some (.int (nI d - 1)), some (.int (nI k)), l5, l6], [.int (m 10 2), .int (nI k)], mz_set m 52 g)) rfl ?_
      rw [hT]
      refine mz_go 1 (c' := (if (nI T) ≤ (nI k) then 158 else 14, [some (.ref 10), some (.ref 51), some (.ref 52), some (.int (nI d - 1)), some (.int (nI k)), l5, l6], [], mz_set m 52 g)) rfl ?_
      refine mz_ifF (show ¬ ((nI T) ≤ (nI k)) from (sm_nleN rfl rfl (show k < T by omega) (show T < 2 ^ 31 by omega))) ?_
      refine mz_go 3 (c' := (if 60 ≤ (nI k) then 158 else 21, [some (.ref 10), some (.ref 51), some (.ref 52), some (.int (nI d - 1)), some (.int (nI k)), l5, l6], [], mz_set m 52 g)) rfl ?_
      refine mz_ifF (show ¬ (60 ≤ (nI k)) from (sm_nleN rfl rfl (show k < 60 by omega) (show 60 < 2 ^ 31 by omega))) ?_
      refine mz_go 3 (c' := (27, [some (.ref 10), some (.ref 51), some (.ref 52), some (.int (nI d - 1)), some (.int (nI k)), l5, l6], [.int (nI k), .ref 11], mz_set m 52 g)) rfl ?_
      refine mz_arr (c' := (28, [some (.ref 10), some (.ref 51), some (.ref 52), some (.int (nI d - 1)), some (.int (nI k)), l5, l6], [.int (m 11 ((nI k).toNatClampNeg))], mz_set m 52 g)) rfl (show mz_in (nI k) 60 = true from sm_inN rfl (show k < 60 by omega) (by decide)) ?_
      rw [show (nI k : Int32).toNatClampNeg = k from sm_clN rfl (show k < 2 ^ 31 by omega)]
      rw [h0]
      refine mz_go 4 (c' := (36, [some (.ref 10), some (.ref 51), some (.ref 52), some (.int (nI d - 1)), some (.int (nI k)), some (.int 1), l6], [.int (nI k), .ref 12], mz_set m 52 g)) rfl ?_
      refine mz_arr (c' := (37, [some (.ref 10), some (.ref 51), some (.ref 52), some (.int (nI d - 1)), some (.int (nI k)), some (.int 1), l6], [.int (m 12 ((nI k).toNatClampNeg))], mz_set m 52 g)) rfl (show mz_in (nI k) 60 = true from sm_inN rfl (show k < 60 by omega) (by decide)) ?_
      rw [show (nI k : Int32).toNatClampNeg = k from sm_clN rfl (show k < 2 ^ 31 by omega)]
      rw [hv]
      refine mz_go 9 (c' := (53, [some (.ref 10), some (.ref 51), some (.ref 52), some (.int (nI d - 1)), some (.int (nI k)), some (.int 1), some (.int (nI j))], [.int ((nI d - 1) + 1)], mz_set m 52 g)) rfl ?_
      rw [sm_top d]
      refine mz_go 3 (c' := (if 60 ≤ (nI d) then 152 else 58, [some (.ref 10), some (.ref 51), some (.ref 52), some (.int (nI d - 1)), some (.int (nI k)), some (.int 1), some (.int (nI j))], [], mz_set m 52 g)) rfl ?_
      refine mz_ifF (show ¬ (60 ≤ (nI d)) from (sm_nleN rfl rfl (show d < 60 by omega) (show 60 < 2 ^ 31 by omega))) ?_
      refine mz_go 3 (c' := (63, [some (.ref 10), some (.ref 51), some (.ref 52), some (.int ((nI d - 1) + 1)), some (.int (nI k)), some (.int 1), some (.int (nI j))], [.int ((nI d - 1) + 1), .ref 52], mz_set m 52 g)) rfl ?_
      rw [sm_top d]
      refine mz_go 7 (c' := (79, [some (.ref 10), some (.ref 51), some (.ref 52), some (.int (nI d)), some (.int (nI k)), some (.int 1), some (.int (nI j))], [.int 1, .int 5, .int 0, .int (nI j), .int (nI d), .ref 52], mz_set m 52 g)) rfl ?_
      refine mz_go 1 (c' := (80, [some (.ref 10), some (.ref 51), some (.ref 52), some (.int (nI d)), some (.int (nI k)), some (.int 1), some (.int (nI j))], [.int 4, .int 0, .int (nI j), .int (nI d), .ref 52], mz_set m 52 g)) rfl ?_
      refine mz_doQ (R := mz_r121) (as := [.int (nI j), .int 0, .int 4]) (rest := [.int (nI d), .ref 52]) (r1 := some (.int 1)) (m1 := mz_set m 52 g) mz_t121 mz_v121 rfl rfl rfl rfl rfl ⟨?_, rfl⟩ ?_
      · refine mz_go 3 (c' := (if (nI j) < 0 then 14 else 5, [some (.int (nI j)), some (.int 0), some (.int 4)], [], mz_set m 52 g)) rfl ?_
        refine mz_ifF (show ¬ ((nI j) < 0) from (sm_nltN rfl rfl (show 0 ≤ j by omega) (show j < 2 ^ 31 by omega))) ?_
        refine mz_go 3 (c' := (if 4 < (nI j) then 14 else 10, [some (.int (nI j)), some (.int 0), some (.int 4)], [], mz_set m 52 g)) rfl ?_
        refine mz_ifF (show ¬ (4 < (nI j)) from (sm_nltN rfl rfl (show j ≤ 4 by omega) (show 4 < 2 ^ 31 by omega))) ?_
        refine mz_go 2 (c' := (15, [some (.int (nI j)), some (.int 0), some (.int 4)], [.int 1], mz_set m 52 g)) rfl ?_
        exact mz_ret rfl
      refine mz_go 3 (c' := (89, [some (.ref 10), some (.ref 51), some (.ref 52), some (.int (nI d)), some (.int (nI k)), some (.int 1), some (.int (nI j))], [.int (nI j), .ref 51, .int (nI d), .ref 52], mz_set m 52 g)) rfl ?_
      refine mz_arr (c' := (90, [some (.ref 10), some (.ref 51), some (.ref 52), some (.int (nI d)), some (.int (nI k)), some (.int 1), some (.int (nI j))], [.int (m 51 ((nI j).toNatClampNeg)), .int (nI d), .ref 52], mz_set m 52 g)) rfl (show mz_in (nI j) 5 = true from sm_inN rfl (show j < 5 by omega) (by decide)) ?_
      rw [show (nI j : Int32).toNatClampNeg = j from sm_clN rfl (show j < 2 ^ 31 by omega)]
      refine mz_go 1 (c' := (94, [some (.ref 10), some (.ref 51), some (.ref 52), some (.int (nI d)), some (.int (nI k)), some (.int 1), some (.int (nI j))], [.int (m 51 j), .int (nI d), .ref 52], mz_set m 52 g)) rfl ?_
      refine mz_arr (c' := (95, [some (.ref 10), some (.ref 51), some (.ref 52), some (.int (nI d)), some (.int (nI k)), some (.int 1), some (.int (nI j))], [], mz_up (mz_set m 52 g) 52 ((nI d).toNatClampNeg) (m 51 j))) rfl (show mz_in (nI d) 60 = true from sm_inN rfl (show d < 60 by omega) (by decide)) ?_
      rw [show (nI d : Int32).toNatClampNeg = d from sm_clN rfl (show d < 2 ^ 31 by omega)]
      refine mz_go 3 (c' := (5, [some (.ref 10), some (.ref 51), some (.ref 52), some (.int (nI d)), some (.int ((nI k) + 1)), some (.int 1), some (.int (nI j))], [], mz_up (mz_set m 52 g) 52 d (m 51 j))) rfl ?_
      exact E
    · obtain ⟨d, rfl⟩ : ∃ c, d = c + 1 := ⟨d - 1, by omega⟩
      rw [nI_pred]
      by_cases hc : g d = 0
      · have e1 : sm_dp (m 11) (k + 1) = d + 1 := by
          show (if _ then _ else if _ then _ else _) = _
          simp [h0, hd]
        have e2 : sm_st (m 11) (m 12) (m 51) (k + 1) = sm_upd (sm_st (m 11) (m 12) (m 51) k) (d) (1) := by
          show (if m 11 k = 0 then _ else if m 11 k = 1 then _ else if m 11 k = 33 then _ else _) = _
          rw [h0, if_neg (by decide), if_neg (by decide), if_pos rfl, hd, Nat.add_sub_cancel, ← hg d (by omega)]
          simp [sm_bI, hc]
        obtain ⟨g', E⟩ := ih (k + 1) (by omega) (sm_upd g (d) (1)) (some (.int (33))) (some (.int (m 12 k))) (by
          rw [e1, e2]
          exact sm_upd_eq (fun j hj hne => hg j (by omega)))
        rw [e1, nI_succ k, ← sm_up_set, nI_pred] at E
        refine ⟨g', ?_⟩
        refine mz_go 3 (c' := (11, [some (.ref 10), some (.ref 51), some (.ref 52), some (.int (nI d)), some (.int (nI k)), l5, l6], [.int (m 10 2), .int (nI k)], mz_set m 52 g)) rfl ?_
        rw [hT]
        refine mz_go 1 (c' := (if (nI T) ≤ (nI k) then 158 else 14, [some (.ref 10), some (.ref 51), some (.ref 52), some (.int (nI d)), some (.int (nI k)), l5, l6], [], mz_set m 52 g)) rfl ?_
        refine mz_ifF (show ¬ ((nI T) ≤ (nI k)) from (sm_nleN rfl rfl (show k < T by omega) (show T < 2 ^ 31 by omega))) ?_
        refine mz_go 3 (c' := (if 60 ≤ (nI k) then 158 else 21, [some (.ref 10), some (.ref 51), some (.ref 52), some (.int (nI d)), some (.int (nI k)), l5, l6], [], mz_set m 52 g)) rfl ?_
        refine mz_ifF (show ¬ (60 ≤ (nI k)) from (sm_nleN rfl rfl (show k < 60 by omega) (show 60 < 2 ^ 31 by omega))) ?_
        refine mz_go 3 (c' := (27, [some (.ref 10), some (.ref 51), some (.ref 52), some (.int (nI d)), some (.int (nI k)), l5, l6], [.int (nI k), .ref 11], mz_set m 52 g)) rfl ?_
        refine mz_arr (c' := (28, [some (.ref 10), some (.ref 51), some (.ref 52), some (.int (nI d)), some (.int (nI k)), l5, l6], [.int (m 11 ((nI k).toNatClampNeg))], mz_set m 52 g)) rfl (show mz_in (nI k) 60 = true from sm_inN rfl (show k < 60 by omega) (by decide)) ?_
        rw [show (nI k : Int32).toNatClampNeg = k from sm_clN rfl (show k < 2 ^ 31 by omega)]
        rw [h0]
        refine mz_go 4 (c' := (36, [some (.ref 10), some (.ref 51), some (.ref 52), some (.int (nI d)), some (.int (nI k)), some (.int 33), l6], [.int (nI k), .ref 12], mz_set m 52 g)) rfl ?_
        refine mz_arr (c' := (37, [some (.ref 10), some (.ref 51), some (.ref 52), some (.int (nI d)), some (.int (nI k)), some (.int 33), l6], [.int (m 12 ((nI k).toNatClampNeg))], mz_set m 52 g)) rfl (show mz_in (nI k) 60 = true from sm_inN rfl (show k < 60 by omega) (by decide)) ?_
        rw [show (nI k : Int32).toNatClampNeg = k from sm_clN rfl (show k < 2 ^ 31 by omega)]
        refine mz_go 11 (c' := (if (nI d) < 0 then 152 else 109, [some (.ref 10), some (.ref 51), some (.ref 52), some (.int (nI d)), some (.int (nI k)), some (.int 33), some (.int (m 12 k))], [], mz_set m 52 g)) rfl ?_
        refine mz_ifF (show ¬ ((nI d) < 0) from (sm_nltN rfl rfl (show 0 ≤ d by omega) (show d < 2 ^ 31 by omega))) ?_
        refine mz_go 4 (c' := (113, [some (.ref 10), some (.ref 51), some (.ref 52), some (.int (nI d)), some (.int (nI k)), some (.int 33), some (.int (m 12 k))], [.int (nI d), .ref 52, .int (nI d), .ref 52], mz_set m 52 g)) rfl ?_
        refine mz_arr (c' := (114, [some (.ref 10), some (.ref 51), some (.ref 52), some (.int (nI d)), some (.int (nI k)), some (.int 33), some (.int (m 12 k))], [.int (g ((nI d).toNatClampNeg)), .int (nI d), .ref 52], mz_set m 52 g)) rfl (show mz_in (nI d) 60 = true from sm_inN rfl (show d < 60 by omega) (by decide)) ?_
        rw [show (nI d : Int32).toNatClampNeg = d from sm_clN rfl (show d < 2 ^ 31 by omega)]
        refine mz_go 1 (c' := (if (g d) = 0 then 117 else 121, [some (.ref 10), some (.ref 51), some (.ref 52), some (.int (nI d)), some (.int (nI k)), some (.int 33), some (.int (m 12 k))], [.int (nI d), .ref 52], mz_set m 52 g)) rfl ?_
        refine mz_ifT hc ?_
        refine mz_go 2 (c' := (122, [some (.ref 10), some (.ref 51), some (.ref 52), some (.int (nI d)), some (.int (nI k)), some (.int 33), some (.int (m 12 k))], [.int 1, .int (nI d), .ref 52], mz_set m 52 g)) rfl ?_
        refine mz_arr (c' := (123, [some (.ref 10), some (.ref 51), some (.ref 52), some (.int (nI d)), some (.int (nI k)), some (.int 33), some (.int (m 12 k))], [], mz_up (mz_set m 52 g) 52 ((nI d).toNatClampNeg) 1)) rfl (show mz_in (nI d) 60 = true from sm_inN rfl (show d < 60 by omega) (by decide)) ?_
        rw [show (nI d : Int32).toNatClampNeg = d from sm_clN rfl (show d < 2 ^ 31 by omega)]
        refine mz_go 3 (c' := (5, [some (.ref 10), some (.ref 51), some (.ref 52), some (.int (nI d)), some (.int ((nI k) + 1)), some (.int 33), some (.int (m 12 k))], [], mz_up (mz_set m 52 g) 52 d 1)) rfl ?_
        exact E
      · have e1 : sm_dp (m 11) (k + 1) = d + 1 := by
          show (if _ then _ else if _ then _ else _) = _
          simp [h0, hd]
        have e2 : sm_st (m 11) (m 12) (m 51) (k + 1) = sm_upd (sm_st (m 11) (m 12) (m 51) k) (d) (0) := by
          show (if m 11 k = 0 then _ else if m 11 k = 1 then _ else if m 11 k = 33 then _ else _) = _
          rw [h0, if_neg (by decide), if_neg (by decide), if_pos rfl, hd, Nat.add_sub_cancel, ← hg d (by omega)]
          simp [sm_bI, hc]
        obtain ⟨g', E⟩ := ih (k + 1) (by omega) (sm_upd g (d) (0)) (some (.int (33))) (some (.int (m 12 k))) (by
          rw [e1, e2]
          exact sm_upd_eq (fun j hj hne => hg j (by omega)))
        rw [e1, nI_succ k, ← sm_up_set, nI_pred] at E
        refine ⟨g', ?_⟩
        refine mz_go 3 (c' := (11, [some (.ref 10), some (.ref 51), some (.ref 52), some (.int (nI d)), some (.int (nI k)), l5, l6], [.int (m 10 2), .int (nI k)], mz_set m 52 g)) rfl ?_
        rw [hT]
        refine mz_go 1 (c' := (if (nI T) ≤ (nI k) then 158 else 14, [some (.ref 10), some (.ref 51), some (.ref 52), some (.int (nI d)), some (.int (nI k)), l5, l6], [], mz_set m 52 g)) rfl ?_
        refine mz_ifF (show ¬ ((nI T) ≤ (nI k)) from (sm_nleN rfl rfl (show k < T by omega) (show T < 2 ^ 31 by omega))) ?_
        refine mz_go 3 (c' := (if 60 ≤ (nI k) then 158 else 21, [some (.ref 10), some (.ref 51), some (.ref 52), some (.int (nI d)), some (.int (nI k)), l5, l6], [], mz_set m 52 g)) rfl ?_
        refine mz_ifF (show ¬ (60 ≤ (nI k)) from (sm_nleN rfl rfl (show k < 60 by omega) (show 60 < 2 ^ 31 by omega))) ?_
        refine mz_go 3 (c' := (27, [some (.ref 10), some (.ref 51), some (.ref 52), some (.int (nI d)), some (.int (nI k)), l5, l6], [.int (nI k), .ref 11], mz_set m 52 g)) rfl ?_
        refine mz_arr (c' := (28, [some (.ref 10), some (.ref 51), some (.ref 52), some (.int (nI d)), some (.int (nI k)), l5, l6], [.int (m 11 ((nI k).toNatClampNeg))], mz_set m 52 g)) rfl (show mz_in (nI k) 60 = true from sm_inN rfl (show k < 60 by omega) (by decide)) ?_
        rw [show (nI k : Int32).toNatClampNeg = k from sm_clN rfl (show k < 2 ^ 31 by omega)]
        rw [h0]
        refine mz_go 4 (c' := (36, [some (.ref 10), some (.ref 51), some (.ref 52), some (.int (nI d)), some (.int (nI k)), some (.int 33), l6], [.int (nI k), .ref 12], mz_set m 52 g)) rfl ?_
        refine mz_arr (c' := (37, [some (.ref 10), some (.ref 51), some (.ref 52), some (.int (nI d)), some (.int (nI k)), some (.int 33), l6], [.int (m 12 ((nI k).toNatClampNeg))], mz_set m 52 g)) rfl (show mz_in (nI k) 60 = true from sm_inN rfl (show k < 60 by omega) (by decide)) ?_
        rw [show (nI k : Int32).toNatClampNeg = k from sm_clN rfl (show k < 2 ^ 31 by omega)]
        refine mz_go 11 (c' := (if (nI d) < 0 then 152 else 109, [some (.ref 10), some (.ref 51), some (.ref 52), some (.int (nI d)), some (.int (nI k)), some (.int 33), some (.int (m 12 k))], [], mz_set m 52 g)) rfl ?_
        refine mz_ifF (show ¬ ((nI d) < 0) from (sm_nltN rfl rfl (show 0 ≤ d by omega) (show d < 2 ^ 31 by omega))) ?_
        refine mz_go 4 (c' := (113, [some (.ref 10), some (.ref 51), some (.ref 52), some (.int (nI d)), some (.int (nI k)), some (.int 33), some (.int (m 12 k))], [.int (nI d), .ref 52, .int (nI d), .ref 52], mz_set m 52 g)) rfl ?_
        refine mz_arr (c' := (114, [some (.ref 10), some (.ref 51), some (.ref 52), some (.int (nI d)), some (.int (nI k)), some (.int 33), some (.int (m 12 k))], [.int (g ((nI d).toNatClampNeg)), .int (nI d), .ref 52], mz_set m 52 g)) rfl (show mz_in (nI d) 60 = true from sm_inN rfl (show d < 60 by omega) (by decide)) ?_
        rw [show (nI d : Int32).toNatClampNeg = d from sm_clN rfl (show d < 2 ^ 31 by omega)]
        refine mz_go 1 (c' := (if (g d) = 0 then 117 else 121, [some (.ref 10), some (.ref 51), some (.ref 52), some (.int (nI d)), some (.int (nI k)), some (.int 33), some (.int (m 12 k))], [.int (nI d), .ref 52], mz_set m 52 g)) rfl ?_
        refine mz_ifF hc ?_
        refine mz_go 1 (c' := (122, [some (.ref 10), some (.ref 51), some (.ref 52), some (.int (nI d)), some (.int (nI k)), some (.int 33), some (.int (m 12 k))], [.int 0, .int (nI d), .ref 52], mz_set m 52 g)) rfl ?_
        refine mz_arr (c' := (123, [some (.ref 10), some (.ref 51), some (.ref 52), some (.int (nI d)), some (.int (nI k)), some (.int 33), some (.int (m 12 k))], [], mz_up (mz_set m 52 g) 52 ((nI d).toNatClampNeg) 0)) rfl (show mz_in (nI d) 60 = true from sm_inN rfl (show d < 60 by omega) (by decide)) ?_
        rw [show (nI d : Int32).toNatClampNeg = d from sm_clN rfl (show d < 2 ^ 31 by omega)]
        refine mz_go 3 (c' := (5, [some (.ref 10), some (.ref 51), some (.ref 52), some (.int (nI d)), some (.int ((nI k) + 1)), some (.int 33), some (.int (m 12 k))], [], mz_up (mz_set m 52 g) 52 d 0)) rfl ?_
        exact E
    · obtain ⟨d, rfl⟩ : ∃ c, d = c + 2 := ⟨d - 2, by omega⟩
      obtain ⟨n0, n1, n33, -⟩ := sm_sgn_ne h0
      rw [show nI (d + 2) - 1 = nI (d + 1) from nI_pred (d + 1)]
      have e1 : sm_dp (m 11) (k + 1) = d + 1 := by
        show (if _ then _ else if _ then _ else _) = _
        simp [n0, n1, n33, hd]
      have e2 : sm_st (m 11) (m 12) (m 51) (k + 1) = sm_upd (sm_st (m 11) (m 12) (m 51) k) (d) (sm_op (m 11 k) (g d) (g (d + 1))) := by
        show (if m 11 k = 0 then _ else if m 11 k = 1 then _ else if m 11 k = 33 then _ else _) = _
        rw [if_neg n0, if_neg n1, if_neg n33, hd, hg d (by omega), hg (d + 1) (by omega)]
        rfl
      obtain ⟨g', E⟩ := ih (k + 1) (by omega) (sm_upd g (d) (sm_op (m 11 k) (g d) (g (d + 1)))) (some (.int (m 11 k))) (some (.int (m 12 k))) (by
        rw [e1, e2]
        exact sm_upd_eq (fun j hj hne => hg j (by omega)))
      rw [e1, nI_succ k, ← sm_up_set, ← sm_dec] at E
      refine ⟨g', ?_⟩
      refine mz_go 3 (c' := (11, [some (.ref 10), some (.ref 51), some (.ref 52), some (.int (nI (d + 1))), some (.int (nI k)), l5, l6], [.int (m 10 2), .int (nI k)], mz_set m 52 g)) rfl ?_
      rw [hT]
      refine mz_go 1 (c' := (if (nI T) ≤ (nI k) then 158 else 14, [some (.ref 10), some (.ref 51), some (.ref 52), some (.int (nI (d + 1))), some (.int (nI k)), l5, l6], [], mz_set m 52 g)) rfl ?_
      refine mz_ifF (show ¬ ((nI T) ≤ (nI k)) from (sm_nleN rfl rfl (show k < T by omega) (show T < 2 ^ 31 by omega))) ?_
      refine mz_go 3 (c' := (if 60 ≤ (nI k) then 158 else 21, [some (.ref 10), some (.ref 51), some (.ref 52), some (.int (nI (d + 1))), some (.int (nI k)), l5, l6], [], mz_set m 52 g)) rfl ?_
      refine mz_ifF (show ¬ (60 ≤ (nI k)) from (sm_nleN rfl rfl (show k < 60 by omega) (show 60 < 2 ^ 31 by omega))) ?_
      refine mz_go 3 (c' := (27, [some (.ref 10), some (.ref 51), some (.ref 52), some (.int (nI (d + 1))), some (.int (nI k)), l5, l6], [.int (nI k), .ref 11], mz_set m 52 g)) rfl ?_
      refine mz_arr (c' := (28, [some (.ref 10), some (.ref 51), some (.ref 52), some (.int (nI (d + 1))), some (.int (nI k)), l5, l6], [.int (m 11 ((nI k).toNatClampNeg))], mz_set m 52 g)) rfl (show mz_in (nI k) 60 = true from sm_inN rfl (show k < 60 by omega) (by decide)) ?_
      rw [show (nI k : Int32).toNatClampNeg = k from sm_clN rfl (show k < 2 ^ 31 by omega)]
      refine mz_go 4 (c' := (36, [some (.ref 10), some (.ref 51), some (.ref 52), some (.int (nI (d + 1))), some (.int (nI k)), some (.int (m 11 k)), l6], [.int (nI k), .ref 12], mz_set m 52 g)) rfl ?_
      refine mz_arr (c' := (37, [some (.ref 10), some (.ref 51), some (.ref 52), some (.int (nI (d + 1))), some (.int (nI k)), some (.int (m 11 k)), l6], [.int (m 12 ((nI k).toNatClampNeg))], mz_set m 52 g)) rfl (show mz_in (nI k) 60 = true from sm_inN rfl (show k < 60 by omega) (by decide)) ?_
      rw [show (nI k : Int32).toNatClampNeg = k from sm_clN rfl (show k < 2 ^ 31 by omega)]
      refine mz_go 3 (c' := (if (m 11 k) = 0 then 50 else 44, [some (.ref 10), some (.ref 51), some (.ref 52), some (.int (nI (d + 1))), some (.int (nI k)), some (.int (m 11 k)), some (.int (m 12 k))], [], mz_set m 52 g)) rfl ?_
      refine mz_ifF n0 ?_
      refine mz_go 3 (c' := (if (m 11 k) = 1 then 50 else 98, [some (.ref 10), some (.ref 51), some (.ref 52), some (.int (nI (d + 1))), some (.int (nI k)), some (.int (m 11 k)), some (.int (m 12 k))], [], mz_set m 52 g)) rfl ?_
      refine mz_ifF n1 ?_
      refine mz_go 3 (c' := (if (m 11 k) = 33 then 105 else 126, [some (.ref 10), some (.ref 51), some (.ref 52), some (.int (nI (d + 1))), some (.int (nI k)), some (.int (m 11 k)), some (.int (m 12 k))], [], mz_set m 52 g)) rfl ?_
      refine mz_ifF n33 ?_
      refine mz_go 3 (c' := (if (nI (d + 1)) < 1 then 152 else 131, [some (.ref 10), some (.ref 51), some (.ref 52), some (.int (nI (d + 1))), some (.int (nI k)), some (.int (m 11 k)), some (.int (m 12 k))], [], mz_set m 52 g)) rfl ?_
      refine mz_ifF (show ¬ ((nI (d + 1)) < 1) from (sm_nltN rfl rfl (show 1 ≤ (d + 1) by omega) (show (d + 1) < 2 ^ 31 by omega))) ?_
      refine mz_go 4 (c' := (135, [some (.ref 10), some (.ref 51), some (.ref 52), some (.int (nI (d + 1))), some (.int (nI k)), some (.int (m 11 k)), some (.int (m 12 k))], [.int ((nI (d + 1)) - 1), .ref 52], mz_set m 52 g)) rfl ?_
      rw [nI_pred d]
      refine mz_go 5 (c' := (141, [some (.ref 10), some (.ref 51), some (.ref 52), some (.int (nI (d + 1))), some (.int (nI k)), some (.int (m 11 k)), some (.int (m 12 k))], [.int ((nI (d + 1)) - 1), .ref 52, .int (m 11 k), .int (nI d), .ref 52], mz_set m 52 g)) rfl ?_
      rw [nI_pred d]
      refine mz_arr (c' := (142, [some (.ref 10), some (.ref 51), some (.ref 52), some (.int (nI (d + 1))), some (.int (nI k)), some (.int (m 11 k)), some (.int (m 12 k))], [.int (g ((nI d).toNatClampNeg)), .int (m 11 k), .int (nI d), .ref 52], mz_set m 52 g)) rfl (show mz_in (nI d) 60 = true from sm_inN rfl (show d < 60 by omega) (by decide)) ?_
      rw [show (nI d : Int32).toNatClampNeg = d from sm_clN rfl (show d < 2 ^ 31 by omega)]
      refine mz_go 2 (c' := (144, [some (.ref 10), some (.ref 51), some (.ref 52), some (.int (nI (d + 1))), some (.int (nI k)), some (.int (m 11 k)), some (.int (m 12 k))], [.int (nI (d + 1)), .ref 52, .int (g d), .int (m 11 k), .int (nI d), .ref 52], mz_set m 52 g)) rfl ?_
      refine mz_arr (c' := (145, [some (.ref 10), some (.ref 51), some (.ref 52), some (.int (nI (d + 1))), some (.int (nI k)), some (.int (m 11 k)), some (.int (m 12 k))], [.int (g ((nI (d + 1)).toNatClampNeg)), .int (g d), .int (m 11 k), .int (nI d), .ref 52], mz_set m 52 g)) rfl (show mz_in (nI (d + 1)) 60 = true from sm_inN rfl (show (d + 1) < 60 by omega) (by decide)) ?_
      rw [show (nI (d + 1) : Int32).toNatClampNeg = (d + 1) from sm_clN rfl (show (d + 1) < 2 ^ 31 by omega)]
      refine mz_doQ (R := mz_r58) (as := [.int (m 11 k), .int (g d), .int (g (d + 1))]) (rest := [.int (nI d), .ref 52]) (r1 := some (.int (sm_op (m 11 k) (g d) (g (d + 1))))) (m1 := mz_set m 52 g) mz_t58 mz_v58 rfl rfl rfl rfl rfl ((cs_together h0 (g d) (g (d + 1))).deep (by decide)) ?_
      refine mz_arr (c' := (149, [some (.ref 10), some (.ref 51), some (.ref 52), some (.int (nI (d + 1))), some (.int (nI k)), some (.int (m 11 k)), some (.int (m 12 k))], [], mz_up (mz_set m 52 g) 52 ((nI d).toNatClampNeg) (sm_op (m 11 k) (g d) (g (d + 1))))) rfl (show mz_in (nI d) 60 = true from sm_inN rfl (show d < 60 by omega) (by decide)) ?_
      rw [show (nI d : Int32).toNatClampNeg = d from sm_clN rfl (show d < 2 ^ 31 by omega)]
      refine mz_go 3 (c' := (5, [some (.ref 10), some (.ref 51), some (.ref 52), some (.int ((nI (d + 1)) + (-1))), some (.int ((nI k) + 1)), some (.int (m 11 k)), some (.int (m 12 k))], [], mz_up (mz_set m 52 g) 52 d (sm_op (m 11 k) (g d) (g (d + 1))))) rfl ?_
      exact E
set_option maxHeartbeats 4000000 in
set_option maxRecDepth 100000 in
theorem cs_ev10 {m : mz_M} {T c : Nat} (hT : m 10 2 = nI T) (hw : sm_wf T c (m 11) (m 12)) (hc : c ≤ 5) : ∃ g', mz_Me 10 mz_r57 [.ref 10, .ref 51, .ref 52] m (some (.int (sm_ev T (m 11) (m 12) (m 51)))) (mz_set m 52 g') := by
  obtain ⟨g', E⟩ := cs_evl10 hT hw hc T 0 (by omega) (m 52) none none (fun j hj => absurd hj (Nat.not_lt_zero j))
  rw [sm_id52] at E
  refine ⟨g', ?_, rfl⟩
  refine mz_go 4 (c' := (5, [some (.ref 10), some (.ref 51), some (.ref 52), some (.int (-1)), some (.int 0), none, none], [], m)) rfl ?_
  exact E
set_option maxHeartbeats 4000000 in
set_option maxRecDepth 100000 in
theorem cs_evl13 {m : mz_M} {T c : Nat} (hT : m 13 2 = nI T) (hw : sm_wf T c (m 14) (m 15)) (hc : c ≤ 5) : ∀ n k : Nat, k + n = T → ∀ (g : Nat → Int32) (l5 l6 : Option Value), (∀ j, j < sm_dp (m 14) k → g j = sm_st (m 14) (m 15) (m 51) k j) → ∃ g', mz_Ex 10 mz_k57 (5, [some (.ref 13), some (.ref 51), some (.ref 52), some (.int (nI (sm_dp (m 14) k) - 1)), some (.int (nI k)), l5, l6], [], mz_set m 52 g) (some (.int (sm_ev T (m 14) (m 15) (m 51))), mz_set m 52 g') := by
  intro n
  induction n with
  | zero =>
    intro k hk g l5 l6 hg
    have hk2 : k = T := by omega
    subst hk2
    have hd := hw.2.1
    have hT60 := hw.1
    rw [hd]
    refine ⟨g, ?_⟩
    refine mz_go 3 (c' := (11, [some (.ref 13), some (.ref 51), some (.ref 52), some (.int (nI 1 - 1)), some (.int (nI k)), l5, l6], [.int (m 13 2), .int (nI k)], mz_set m 52 g)) rfl ?_
    rw [hT]
    refine mz_go 1 (c' := (if (nI k) ≤ (nI k) then 158 else 14, [some (.ref 13), some (.ref 51), some (.ref 52), some (.int (nI 1 - 1)), some (.int (nI k)), l5, l6], [], mz_set m 52 g)) rfl ?_
    refine mz_ifT (show ((nI k) ≤ (nI k)) from (sm_leN rfl rfl (show k ≤ k by omega) (show k < 2 ^ 31 by omega))) ?_
    refine mz_go 2 (c' := (if (nI 1 - 1) < 0 then 168 else 162, [some (.ref 13), some (.ref 51), some (.ref 52), some (.int (nI 1 - 1)), some (.int (nI k)), l5, l6], [], mz_set m 52 g)) rfl ?_
    refine mz_ifF (show ¬ ((nI 1 - 1) < 0) from (sm_nltN (show nI 1 - 1 = nI 0 from by decide) rfl (show 0 ≤ 0 by omega) (show 0 < 2 ^ 31 by omega))) ?_
    refine mz_go 2 (c' := (164, [some (.ref 13), some (.ref 51), some (.ref 52), some (.int (nI 1 - 1)), some (.int (nI k)), l5, l6], [.int (nI 1 - 1), .ref 52], mz_set m 52 g)) rfl ?_
    refine mz_arr (c' := (165, [some (.ref 13), some (.ref 51), some (.ref 52), some (.int (nI 1 - 1)), some (.int (nI k)), l5, l6], [.int (g ((nI 1 - 1).toNatClampNeg))], mz_set m 52 g)) rfl (show mz_in (nI 1 - 1) 60 = true from sm_inN (show nI 1 - 1 = nI 0 from by decide) (show 0 < 60 by omega) (by decide)) ?_
    rw [show (nI 1 - 1 : Int32).toNatClampNeg = 0 from sm_clN (show nI 1 - 1 = nI 0 from by decide) (show 0 < 2 ^ 31 by omega)]
    refine mz_go 1 (c' := (169, [some (.ref 13), some (.ref 51), some (.ref 52), some (.int (nI 1 - 1)), some (.int (nI k)), l5, l6], [.int (g 0)], mz_set m 52 g)) rfl ?_
    rw [hg 0 (by rw [hd]; decide)]
    exact mz_ret rfl
  | succ n ih =>
    intro k hk g l5 l6 hg
    have hwk := hw.2.2 k (by omega)
    have hdk := sm_dp_le (m 14) k
    have hT60 := hw.1
    obtain ⟨d, hd⟩ : ∃ d, sm_dp (m 14) k = d := ⟨_, rfl⟩
    rw [hd] at hg hdk ⊢
    rcases hwk with h0 | ⟨h0, j, hj, hv⟩ | ⟨h0, hd1⟩ | ⟨h0, hd1⟩
    · have e1 : sm_dp (m 14) (k + 1) = d + 1 := by
        show (if _ then _ else if _ then _ else _) = _
        simp [h0, hd]
      have e2 : sm_st (m 14) (m 15) (m 51) (k + 1) = sm_upd (sm_st (m 14) (m 15) (m 51) k) (d) (m 15 k) := by
        show (if m 14 k = 0 then _ else if m 14 k = 1 then _ else if m 14 k = 33 then _ else _) = _
        rw [if_pos h0, hd]
      obtain ⟨g', E⟩ := ih (k + 1) (by omega) (sm_upd g (d) (m 15 k)) (some (.int (0))) (some (.int (m 15 k))) (by
        rw [e1, e2]
        exact sm_upd_eq (fun j hj hne => hg j (by omega)))
      rw [e1, nI_succ k, ← sm_up_set, nI_pred] at E
      refine ⟨g', ?_⟩
      refine mz_go 3 (c' := (11, [some (.ref 13), some (.ref 51), some (.ref 52), some (.int (nI d - 1)), some (.int (nI k)), l5, l6], [.int (m 13 2), .int (nI k)], mz_set m 52 g)) rfl ?_
      rw [hT]
      refine mz_go 1 (c' := (if (nI T) ≤ (nI k) then 158 else 14, [some (.ref 13), some (.ref 51), some (.ref 52), some (.int (nI d - 1)), some (.int (nI k)), l5, l6], [], mz_set m 52 g)) rfl ?_
      refine mz_ifF (show ¬ ((nI T) ≤ (nI k)) from (sm_nleN rfl rfl (show k < T by omega) (show T < 2 ^ 31 by omega))) ?_
      refine mz_go 3 (c' := (if 60 ≤ (nI k) then 158 else 21, [some (.ref 13), some (.ref 51), some (.ref 52), some (.int (nI d - 1)), some (.int (nI k)), l5, l6], [], mz_set m 52 g)) rfl ?_
      refine mz_ifF (show ¬ (60 ≤ (nI k)) from (sm_nleN rfl rfl (show k < 60 by omega) (show 60 < 2 ^ 31 by omega))) ?_
      refine mz_go 3 (c' := (27, [some (.ref 13), some (.ref 51), some (.ref 52), some (.int (nI d - 1)), some (.int (nI k)), l5, l6], [.int (nI k), .ref 14], mz_set m 52 g)) rfl ?_
      refine mz_arr (c' := (28, [some (.ref 13), some (.ref 51), some (.ref 52), some (.int (nI d - 1)), some (.int (nI k)), l5, l6], [.int (m 14 ((nI k).toNatClampNeg))], mz_set m 52 g)) rfl (show mz_in (nI k) 60 = true from sm_inN rfl (show k < 60 by omega) (by decide)) ?_
      rw [show (nI k : Int32).toNatClampNeg = k from sm_clN rfl (show k < 2 ^ 31 by omega)]
      rw [h0]
      refine mz_go 4 (c' := (36, [some (.ref 13), some (.ref 51), some (.ref 52), some (.int (nI d - 1)), some (.int (nI k)), some (.int 0), l6], [.int (nI k), .ref 15], mz_set m 52 g)) rfl ?_
      refine mz_arr (c' := (37, [some (.ref 13), some (.ref 51), some (.ref 52), some (.int (nI d - 1)), some (.int (nI k)), some (.int 0), l6], [.int (m 15 ((nI k).toNatClampNeg))], mz_set m 52 g)) rfl (show mz_in (nI k) 60 = true from sm_inN rfl (show k < 60 by omega) (by decide)) ?_
      rw [show (nI k : Int32).toNatClampNeg = k from sm_clN rfl (show k < 2 ^ 31 by omega)]
      refine mz_go 6 (c' := (53, [some (.ref 13), some (.ref 51), some (.ref 52), some (.int (nI d - 1)), some (.int (nI k)), some (.int 0), some (.int (m 15 k))], [.int ((nI d - 1) + 1)], mz_set m 52 g)) rfl ?_
      rw [sm_top d]
      refine mz_go 3 (c' := (if 60 ≤ (nI d) then 152 else 58, [some (.ref 13), some (.ref 51), some (.ref 52), some (.int (nI d - 1)), some (.int (nI k)), some (.int 0), some (.int (m 15 k))], [], mz_set m 52 g)) rfl ?_
      refine mz_ifF (show ¬ (60 ≤ (nI d)) from (sm_nleN rfl rfl (show d < 60 by omega) (show 60 < 2 ^ 31 by omega))) ?_
      refine mz_go 3 (c' := (63, [some (.ref 13), some (.ref 51), some (.ref 52), some (.int ((nI d - 1) + 1)), some (.int (nI k)), some (.int 0), some (.int (m 15 k))], [.int ((nI d - 1) + 1), .ref 52], mz_set m 52 g)) rfl ?_
      rw [sm_top d]
      refine mz_go 4 (c' := (94, [some (.ref 13), some (.ref 51), some (.ref 52), some (.int (nI d)), some (.int (nI k)), some (.int 0), some (.int (m 15 k))], [.int (m 15 k), .int (nI d), .ref 52], mz_set m 52 g)) rfl ?_
      refine mz_arr (c' := (95, [some (.ref 13), some (.ref 51), some (.ref 52), some (.int (nI d)), some (.int (nI k)), some (.int 0), some (.int (m 15 k))], [], mz_up (mz_set m 52 g) 52 ((nI d).toNatClampNeg) (m 15 k))) rfl (show mz_in (nI d) 60 = true from sm_inN rfl (show d < 60 by omega) (by decide)) ?_
      rw [show (nI d : Int32).toNatClampNeg = d from sm_clN rfl (show d < 2 ^ 31 by omega)]
      refine mz_go 3 (c' := (5, [some (.ref 13), some (.ref 51), some (.ref 52), some (.int (nI d)), some (.int ((nI k) + 1)), some (.int 0), some (.int (m 15 k))], [], mz_up (mz_set m 52 g) 52 d (m 15 k))) rfl ?_
      exact E
    · have e1 : sm_dp (m 14) (k + 1) = d + 1 := by
        show (if _ then _ else if _ then _ else _) = _
        simp [h0, hd]
      have e2 : sm_st (m 14) (m 15) (m 51) (k + 1) = sm_upd (sm_st (m 14) (m 15) (m 51) k) (d) (m 51 j) := by
        show (if m 14 k = 0 then _ else if m 14 k = 1 then _ else if m 14 k = 33 then _ else _) = _
        rw [h0, if_neg (by decide), if_pos rfl, hd, hv, nI_clamp (by omega)]
      obtain ⟨g', E⟩ := ih (k + 1) (by omega) (sm_upd g (d) (m 51 j)) (some (.int (1))) (some (.int (nI j))) (by
        rw [e1, e2]
        exact sm_upd_eq (fun j hj hne => hg j (by omega)))
      rw [e1, nI_succ k, ← sm_up_set, nI_pred] at E
      refine ⟨g', ?_⟩
      refine mz_go 3 (c' := (11, [some (.ref 13), some (.ref 51), some (.ref 52), some (.int (nI d - 1)), some (.int (nI k)), l5, l6], [.int (m 13 2), .int (nI k)], mz_set m 52 g)) rfl ?_
      rw [hT]
      refine mz_go 1 (c' := (if (nI T) ≤ (nI k) then 158 else 14, [some (.ref 13), some (.ref 51), some (.ref 52), some (.int (nI d - 1)), some (.int (nI k)), l5, l6], [], mz_set m 52 g)) rfl ?_
      refine mz_ifF (show ¬ ((nI T) ≤ (nI k)) from (sm_nleN rfl rfl (show k < T by omega) (show T < 2 ^ 31 by omega))) ?_
      refine mz_go 3 (c' := (if 60 ≤ (nI k) then 158 else 21, [some (.ref 13), some (.ref 51), some (.ref 52), some (.int (nI d - 1)), some (.int (nI k)), l5, l6], [], mz_set m 52 g)) rfl ?_
      refine mz_ifF (show ¬ (60 ≤ (nI k)) from (sm_nleN rfl rfl (show k < 60 by omega) (show 60 < 2 ^ 31 by omega))) ?_
      refine mz_go 3 (c' := (27, [some (.ref 13), some (.ref 51), some (.ref 52), some (.int (nI d - 1)), some (.int (nI k)), l5, l6], [.int (nI k), .ref 14], mz_set m 52 g)) rfl ?_
      refine mz_arr (c' := (28, [some (.ref 13), some (.ref 51), some (.ref 52), some (.int (nI d - 1)), some (.int (nI k)), l5, l6], [.int (m 14 ((nI k).toNatClampNeg))], mz_set m 52 g)) rfl (show mz_in (nI k) 60 = true from sm_inN rfl (show k < 60 by omega) (by decide)) ?_
      rw [show (nI k : Int32).toNatClampNeg = k from sm_clN rfl (show k < 2 ^ 31 by omega)]
      rw [h0]
      refine mz_go 4 (c' := (36, [some (.ref 13), some (.ref 51), some (.ref 52), some (.int (nI d - 1)), some (.int (nI k)), some (.int 1), l6], [.int (nI k), .ref 15], mz_set m 52 g)) rfl ?_
      refine mz_arr (c' := (37, [some (.ref 13), some (.ref 51), some (.ref 52), some (.int (nI d - 1)), some (.int (nI k)), some (.int 1), l6], [.int (m 15 ((nI k).toNatClampNeg))], mz_set m 52 g)) rfl (show mz_in (nI k) 60 = true from sm_inN rfl (show k < 60 by omega) (by decide)) ?_
      rw [show (nI k : Int32).toNatClampNeg = k from sm_clN rfl (show k < 2 ^ 31 by omega)]
      rw [hv]
      refine mz_go 9 (c' := (53, [some (.ref 13), some (.ref 51), some (.ref 52), some (.int (nI d - 1)), some (.int (nI k)), some (.int 1), some (.int (nI j))], [.int ((nI d - 1) + 1)], mz_set m 52 g)) rfl ?_
      rw [sm_top d]
      refine mz_go 3 (c' := (if 60 ≤ (nI d) then 152 else 58, [some (.ref 13), some (.ref 51), some (.ref 52), some (.int (nI d - 1)), some (.int (nI k)), some (.int 1), some (.int (nI j))], [], mz_set m 52 g)) rfl ?_
      refine mz_ifF (show ¬ (60 ≤ (nI d)) from (sm_nleN rfl rfl (show d < 60 by omega) (show 60 < 2 ^ 31 by omega))) ?_
      refine mz_go 3 (c' := (63, [some (.ref 13), some (.ref 51), some (.ref 52), some (.int ((nI d - 1) + 1)), some (.int (nI k)), some (.int 1), some (.int (nI j))], [.int ((nI d - 1) + 1), .ref 52], mz_set m 52 g)) rfl ?_
      rw [sm_top d]
      refine mz_go 7 (c' := (79, [some (.ref 13), some (.ref 51), some (.ref 52), some (.int (nI d)), some (.int (nI k)), some (.int 1), some (.int (nI j))], [.int 1, .int 5, .int 0, .int (nI j), .int (nI d), .ref 52], mz_set m 52 g)) rfl ?_
      refine mz_go 1 (c' := (80, [some (.ref 13), some (.ref 51), some (.ref 52), some (.int (nI d)), some (.int (nI k)), some (.int 1), some (.int (nI j))], [.int 4, .int 0, .int (nI j), .int (nI d), .ref 52], mz_set m 52 g)) rfl ?_
      refine mz_doQ (R := mz_r121) (as := [.int (nI j), .int 0, .int 4]) (rest := [.int (nI d), .ref 52]) (r1 := some (.int 1)) (m1 := mz_set m 52 g) mz_t121 mz_v121 rfl rfl rfl rfl rfl ⟨?_, rfl⟩ ?_
      · refine mz_go 3 (c' := (if (nI j) < 0 then 14 else 5, [some (.int (nI j)), some (.int 0), some (.int 4)], [], mz_set m 52 g)) rfl ?_
        refine mz_ifF (show ¬ ((nI j) < 0) from (sm_nltN rfl rfl (show 0 ≤ j by omega) (show j < 2 ^ 31 by omega))) ?_
        refine mz_go 3 (c' := (if 4 < (nI j) then 14 else 10, [some (.int (nI j)), some (.int 0), some (.int 4)], [], mz_set m 52 g)) rfl ?_
        refine mz_ifF (show ¬ (4 < (nI j)) from (sm_nltN rfl rfl (show j ≤ 4 by omega) (show 4 < 2 ^ 31 by omega))) ?_
        refine mz_go 2 (c' := (15, [some (.int (nI j)), some (.int 0), some (.int 4)], [.int 1], mz_set m 52 g)) rfl ?_
        exact mz_ret rfl
      refine mz_go 3 (c' := (89, [some (.ref 13), some (.ref 51), some (.ref 52), some (.int (nI d)), some (.int (nI k)), some (.int 1), some (.int (nI j))], [.int (nI j), .ref 51, .int (nI d), .ref 52], mz_set m 52 g)) rfl ?_
      refine mz_arr (c' := (90, [some (.ref 13), some (.ref 51), some (.ref 52), some (.int (nI d)), some (.int (nI k)), some (.int 1), some (.int (nI j))], [.int (m 51 ((nI j).toNatClampNeg)), .int (nI d), .ref 52], mz_set m 52 g)) rfl (show mz_in (nI j) 5 = true from sm_inN rfl (show j < 5 by omega) (by decide)) ?_
      rw [show (nI j : Int32).toNatClampNeg = j from sm_clN rfl (show j < 2 ^ 31 by omega)]
      refine mz_go 1 (c' := (94, [some (.ref 13), some (.ref 51), some (.ref 52), some (.int (nI d)), some (.int (nI k)), some (.int 1), some (.int (nI j))], [.int (m 51 j), .int (nI d), .ref 52], mz_set m 52 g)) rfl ?_
      refine mz_arr (c' := (95, [some (.ref 13), some (.ref 51), some (.ref 52), some (.int (nI d)), some (.int (nI k)), some (.int 1), some (.int (nI j))], [], mz_up (mz_set m 52 g) 52 ((nI d).toNatClampNeg) (m 51 j))) rfl (show mz_in (nI d) 60 = true from sm_inN rfl (show d < 60 by omega) (by decide)) ?_
      rw [show (nI d : Int32).toNatClampNeg = d from sm_clN rfl (show d < 2 ^ 31 by omega)]
      refine mz_go 3 (c' := (5, [some (.ref 13), some (.ref 51), some (.ref 52), some (.int (nI d)), some (.int ((nI k) + 1)), some (.int 1), some (.int (nI j))], [], mz_up (mz_set m 52 g) 52 d (m 51 j))) rfl ?_
      exact E
    · obtain ⟨d, rfl⟩ : ∃ c, d = c + 1 := ⟨d - 1, by omega⟩
      rw [nI_pred]
      by_cases hc : g d = 0
      · have e1 : sm_dp (m 14) (k + 1) = d + 1 := by
          show (if _ then _ else if _ then _ else _) = _
          simp [h0, hd]
        have e2 : sm_st (m 14) (m 15) (m 51) (k + 1) = sm_upd (sm_st (m 14) (m 15) (m 51) k) (d) (1) := by
          show (if m 14 k = 0 then _ else if m 14 k = 1 then _ else if m 14 k = 33 then _ else _) = _
          rw [h0, if_neg (by decide), if_neg (by decide), if_pos rfl, hd, Nat.add_sub_cancel, ← hg d (by omega)]
          simp [sm_bI, hc]
        obtain ⟨g', E⟩ := ih (k + 1) (by omega) (sm_upd g (d) (1)) (some (.int (33))) (some (.int (m 15 k))) (by
          rw [e1, e2]
          exact sm_upd_eq (fun j hj hne => hg j (by omega)))
        rw [e1, nI_succ k, ← sm_up_set, nI_pred] at E
        refine ⟨g', ?_⟩
        refine mz_go 3 (c' := (11, [some (.ref 13), some (.ref 51), some (.ref 52), some (.int (nI d)), some (.int (nI k)), l5, l6], [.int (m 13 2), .int (nI k)], mz_set m 52 g)) rfl ?_
        rw [hT]
        refine mz_go 1 (c' := (if (nI T) ≤ (nI k) then 158 else 14, [some (.ref 13), some (.ref 51), some (.ref 52), some (.int (nI d)), some (.int (nI k)), l5, l6], [], mz_set m 52 g)) rfl ?_
        refine mz_ifF (show ¬ ((nI T) ≤ (nI k)) from (sm_nleN rfl rfl (show k < T by omega) (show T < 2 ^ 31 by omega))) ?_
        refine mz_go 3 (c' := (if 60 ≤ (nI k) then 158 else 21, [some (.ref 13), some (.ref 51), some (.ref 52), some (.int (nI d)), some (.int (nI k)), l5, l6], [], mz_set m 52 g)) rfl ?_
        refine mz_ifF (show ¬ (60 ≤ (nI k)) from (sm_nleN rfl rfl (show k < 60 by omega) (show 60 < 2 ^ 31 by omega))) ?_
        refine mz_go 3 (c' := (27, [some (.ref 13), some (.ref 51), some (.ref 52), some (.int (nI d)), some (.int (nI k)), l5, l6], [.int (nI k), .ref 14], mz_set m 52 g)) rfl ?_
        refine mz_arr (c' := (28, [some (.ref 13), some (.ref 51), some (.ref 52), some (.int (nI d)), some (.int (nI k)), l5, l6], [.int (m 14 ((nI k).toNatClampNeg))], mz_set m 52 g)) rfl (show mz_in (nI k) 60 = true from sm_inN rfl (show k < 60 by omega) (by decide)) ?_
        rw [show (nI k : Int32).toNatClampNeg = k from sm_clN rfl (show k < 2 ^ 31 by omega)]
        rw [h0]
        refine mz_go 4 (c' := (36, [some (.ref 13), some (.ref 51), some (.ref 52), some (.int (nI d)), some (.int (nI k)), some (.int 33), l6], [.int (nI k), .ref 15], mz_set m 52 g)) rfl ?_
        refine mz_arr (c' := (37, [some (.ref 13), some (.ref 51), some (.ref 52), some (.int (nI d)), some (.int (nI k)), some (.int 33), l6], [.int (m 15 ((nI k).toNatClampNeg))], mz_set m 52 g)) rfl (show mz_in (nI k) 60 = true from sm_inN rfl (show k < 60 by omega) (by decide)) ?_
        rw [show (nI k : Int32).toNatClampNeg = k from sm_clN rfl (show k < 2 ^ 31 by omega)]
        refine mz_go 11 (c' := (if (nI d) < 0 then 152 else 109, [some (.ref 13), some (.ref 51), some (.ref 52), some (.int (nI d)), some (.int (nI k)), some (.int 33), some (.int (m 15 k))], [], mz_set m 52 g)) rfl ?_
        refine mz_ifF (show ¬ ((nI d) < 0) from (sm_nltN rfl rfl (show 0 ≤ d by omega) (show d < 2 ^ 31 by omega))) ?_
        refine mz_go 4 (c' := (113, [some (.ref 13), some (.ref 51), some (.ref 52), some (.int (nI d)), some (.int (nI k)), some (.int 33), some (.int (m 15 k))], [.int (nI d), .ref 52, .int (nI d), .ref 52], mz_set m 52 g)) rfl ?_
        refine mz_arr (c' := (114, [some (.ref 13), some (.ref 51), some (.ref 52), some (.int (nI d)), some (.int (nI k)), some (.int 33), some (.int (m 15 k))], [.int (g ((nI d).toNatClampNeg)), .int (nI d), .ref 52], mz_set m 52 g)) rfl (show mz_in (nI d) 60 = true from sm_inN rfl (show d < 60 by omega) (by decide)) ?_
        rw [show (nI d : Int32).toNatClampNeg = d from sm_clN rfl (show d < 2 ^ 31 by omega)]
        refine mz_go 1 (c' := (if (g d) = 0 then 117 else 121, [some (.ref 13), some (.ref 51), some (.ref 52), some (.int (nI d)), some (.int (nI k)), some (.int 33), some (.int (m 15 k))], [.int (nI d), .ref 52], mz_set m 52 g)) rfl ?_
        refine mz_ifT hc ?_
        refine mz_go 2 (c' := (122, [some (.ref 13), some (.ref 51), some (.ref 52), some (.int (nI d)), some (.int (nI k)), some (.int 33), some (.int (m 15 k))], [.int 1, .int (nI d), .ref 52], mz_set m 52 g)) rfl ?_
        refine mz_arr (c' := (123, [some (.ref 13), some (.ref 51), some (.ref 52), some (.int (nI d)), some (.int (nI k)), some (.int 33), some (.int (m 15 k))], [], mz_up (mz_set m 52 g) 52 ((nI d).toNatClampNeg) 1)) rfl (show mz_in (nI d) 60 = true from sm_inN rfl (show d < 60 by omega) (by decide)) ?_
        rw [show (nI d : Int32).toNatClampNeg = d from sm_clN rfl (show d < 2 ^ 31 by omega)]
        refine mz_go 3 (c' := (5, [some (.ref 13), some (.ref 51), some (.ref 52), some (.int (nI d)), some (.int ((nI k) + 1)), some (.int 33), some (.int (m 15 k))], [], mz_up (mz_set m 52 g) 52 d 1)) rfl ?_
        exact E
      · have e1 : sm_dp (m 14) (k + 1) = d + 1 := by
          show (if _ then _ else if _ then _ else _) = _
          simp [h0, hd]
        have e2 : sm_st (m 14) (m 15) (m 51) (k + 1) = sm_upd (sm_st (m 14) (m 15) (m 51) k) (d) (0) := by
          show (if m 14 k = 0 then _ else if m 14 k = 1 then _ else if m 14 k = 33 then _ else _) = _
          rw [h0, if_neg (by decide), if_neg (by decide), if_pos rfl, hd, Nat.add_sub_cancel, ← hg d (by omega)]
          simp [sm_bI, hc]
        obtain ⟨g', E⟩ := ih (k + 1) (by omega) (sm_upd g (d) (0)) (some (.int (33))) (some (.int (m 15 k))) (by
          rw [e1, e2]
          exact sm_upd_eq (fun j hj hne => hg j (by omega)))
        rw [e1, nI_succ k, ← sm_up_set, nI_pred] at E
        refine ⟨g', ?_⟩
        refine mz_go 3 (c' := (11, [some (.ref 13), some (.ref 51), some (.ref 52), some (.int (nI d)), some (.int (nI k)), l5, l6], [.int (m 13 2), .int (nI k)], mz_set m 52 g)) rfl ?_
        rw [hT]
        refine mz_go 1 (c' := (if (nI T) ≤ (nI k) then 158 else 14, [some (.ref 13), some (.ref 51), some (.ref 52), some (.int (nI d)), some (.int (nI k)), l5, l6], [], mz_set m 52 g)) rfl ?_
        refine mz_ifF (show ¬ ((nI T) ≤ (nI k)) from (sm_nleN rfl rfl (show k < T by omega) (show T < 2 ^ 31 by omega))) ?_
        refine mz_go 3 (c' := (if 60 ≤ (nI k) then 158 else 21, [some (.ref 13), some (.ref 51), some (.ref 52), some (.int (nI d)), some (.int (nI k)), l5, l6], [], mz_set m 52 g)) rfl ?_
        refine mz_ifF (show ¬ (60 ≤ (nI k)) from (sm_nleN rfl rfl (show k < 60 by omega) (show 60 < 2 ^ 31 by omega))) ?_
        refine mz_go 3 (c' := (27, [some (.ref 13), some (.ref 51), some (.ref 52), some (.int (nI d)), some (.int (nI k)), l5, l6], [.int (nI k), .ref 14], mz_set m 52 g)) rfl ?_
        refine mz_arr (c' := (28, [some (.ref 13), some (.ref 51), some (.ref 52), some (.int (nI d)), some (.int (nI k)), l5, l6], [.int (m 14 ((nI k).toNatClampNeg))], mz_set m 52 g)) rfl (show mz_in (nI k) 60 = true from sm_inN rfl (show k < 60 by omega) (by decide)) ?_
        rw [show (nI k : Int32).toNatClampNeg = k from sm_clN rfl (show k < 2 ^ 31 by omega)]
        rw [h0]
        refine mz_go 4 (c' := (36, [some (.ref 13), some (.ref 51), some (.ref 52), some (.int (nI d)), some (.int (nI k)), some (.int 33), l6], [.int (nI k), .ref 15], mz_set m 52 g)) rfl ?_
        refine mz_arr (c' := (37, [some (.ref 13), some (.ref 51), some (.ref 52), some (.int (nI d)), some (.int (nI k)), some (.int 33), l6], [.int (m 15 ((nI k).toNatClampNeg))], mz_set m 52 g)) rfl (show mz_in (nI k) 60 = true from sm_inN rfl (show k < 60 by omega) (by decide)) ?_
        rw [show (nI k : Int32).toNatClampNeg = k from sm_clN rfl (show k < 2 ^ 31 by omega)]
        refine mz_go 11 (c' := (if (nI d) < 0 then 152 else 109, [some (.ref 13), some (.ref 51), some (.ref 52), some (.int (nI d)), some (.int (nI k)), some (.int 33), some (.int (m 15 k))], [], mz_set m 52 g)) rfl ?_
        refine mz_ifF (show ¬ ((nI d) < 0) from (sm_nltN rfl rfl (show 0 ≤ d by omega) (show d < 2 ^ 31 by omega))) ?_
        refine mz_go 4 (c' := (113, [some (.ref 13), some (.ref 51), some (.ref 52), some (.int (nI d)), some (.int (nI k)), some (.int 33), some (.int (m 15 k))], [.int (nI d), .ref 52, .int (nI d), .ref 52], mz_set m 52 g)) rfl ?_
        refine mz_arr (c' := (114, [some (.ref 13), some (.ref 51), some (.ref 52), some (.int (nI d)), some (.int (nI k)), some (.int 33), some (.int (m 15 k))], [.int (g ((nI d).toNatClampNeg)), .int (nI d), .ref 52], mz_set m 52 g)) rfl (show mz_in (nI d) 60 = true from sm_inN rfl (show d < 60 by omega) (by decide)) ?_
        rw [show (nI d : Int32).toNatClampNeg = d from sm_clN rfl (show d < 2 ^ 31 by omega)]
        refine mz_go 1 (c' := (if (g d) = 0 then 117 else 121, [some (.ref 13), some (.ref 51), some (.ref 52), some (.int (nI d)), some (.int (nI k)), some (.int 33), some (.int (m 15 k))], [.int (nI d), .ref 52], mz_set m 52 g)) rfl ?_
        refine mz_ifF hc ?_
        refine mz_go 1 (c' := (122, [some (.ref 13), some (.ref 51), some (.ref 52), some (.int (nI d)), some (.int (nI k)), some (.int 33), some (.int (m 15 k))], [.int 0, .int (nI d), .ref 52], mz_set m 52 g)) rfl ?_
        refine mz_arr (c' := (123, [some (.ref 13), some (.ref 51), some (.ref 52), some (.int (nI d)), some (.int (nI k)), some (.int 33), some (.int (m 15 k))], [], mz_up (mz_set m 52 g) 52 ((nI d).toNatClampNeg) 0)) rfl (show mz_in (nI d) 60 = true from sm_inN rfl (show d < 60 by omega) (by decide)) ?_
        rw [show (nI d : Int32).toNatClampNeg = d from sm_clN rfl (show d < 2 ^ 31 by omega)]
        refine mz_go 3 (c' := (5, [some (.ref 13), some (.ref 51), some (.ref 52), some (.int (nI d)), some (.int ((nI k) + 1)), some (.int 33), some (.int (m 15 k))], [], mz_up (mz_set m 52 g) 52 d 0)) rfl ?_
        exact E
    · obtain ⟨d, rfl⟩ : ∃ c, d = c + 2 := ⟨d - 2, by omega⟩
      obtain ⟨n0, n1, n33, -⟩ := sm_sgn_ne h0
      rw [show nI (d + 2) - 1 = nI (d + 1) from nI_pred (d + 1)]
      have e1 : sm_dp (m 14) (k + 1) = d + 1 := by
        show (if _ then _ else if _ then _ else _) = _
        simp [n0, n1, n33, hd]
      have e2 : sm_st (m 14) (m 15) (m 51) (k + 1) = sm_upd (sm_st (m 14) (m 15) (m 51) k) (d) (sm_op (m 14 k) (g d) (g (d + 1))) := by
        show (if m 14 k = 0 then _ else if m 14 k = 1 then _ else if m 14 k = 33 then _ else _) = _
        rw [if_neg n0, if_neg n1, if_neg n33, hd, hg d (by omega), hg (d + 1) (by omega)]
        rfl
      obtain ⟨g', E⟩ := ih (k + 1) (by omega) (sm_upd g (d) (sm_op (m 14 k) (g d) (g (d + 1)))) (some (.int (m 14 k))) (some (.int (m 15 k))) (by
        rw [e1, e2]
        exact sm_upd_eq (fun j hj hne => hg j (by omega)))
      rw [e1, nI_succ k, ← sm_up_set, ← sm_dec] at E
      refine ⟨g', ?_⟩
      refine mz_go 3 (c' := (11, [some (.ref 13), some (.ref 51), some (.ref 52), some (.int (nI (d + 1))), some (.int (nI k)), l5, l6], [.int (m 13 2), .int (nI k)], mz_set m 52 g)) rfl ?_
      rw [hT]
      refine mz_go 1 (c' := (if (nI T) ≤ (nI k) then 158 else 14, [some (.ref 13), some (.ref 51), some (.ref 52), some (.int (nI (d + 1))), some (.int (nI k)), l5, l6], [], mz_set m 52 g)) rfl ?_
      refine mz_ifF (show ¬ ((nI T) ≤ (nI k)) from (sm_nleN rfl rfl (show k < T by omega) (show T < 2 ^ 31 by omega))) ?_
      refine mz_go 3 (c' := (if 60 ≤ (nI k) then 158 else 21, [some (.ref 13), some (.ref 51), some (.ref 52), some (.int (nI (d + 1))), some (.int (nI k)), l5, l6], [], mz_set m 52 g)) rfl ?_
      refine mz_ifF (show ¬ (60 ≤ (nI k)) from (sm_nleN rfl rfl (show k < 60 by omega) (show 60 < 2 ^ 31 by omega))) ?_
      refine mz_go 3 (c' := (27, [some (.ref 13), some (.ref 51), some (.ref 52), some (.int (nI (d + 1))), some (.int (nI k)), l5, l6], [.int (nI k), .ref 14], mz_set m 52 g)) rfl ?_
      refine mz_arr (c' := (28, [some (.ref 13), some (.ref 51), some (.ref 52), some (.int (nI (d + 1))), some (.int (nI k)), l5, l6], [.int (m 14 ((nI k).toNatClampNeg))], mz_set m 52 g)) rfl (show mz_in (nI k) 60 = true from sm_inN rfl (show k < 60 by omega) (by decide)) ?_
      rw [show (nI k : Int32).toNatClampNeg = k from sm_clN rfl (show k < 2 ^ 31 by omega)]
      refine mz_go 4 (c' := (36, [some (.ref 13), some (.ref 51), some (.ref 52), some (.int (nI (d + 1))), some (.int (nI k)), some (.int (m 14 k)), l6], [.int (nI k), .ref 15], mz_set m 52 g)) rfl ?_
      refine mz_arr (c' := (37, [some (.ref 13), some (.ref 51), some (.ref 52), some (.int (nI (d + 1))), some (.int (nI k)), some (.int (m 14 k)), l6], [.int (m 15 ((nI k).toNatClampNeg))], mz_set m 52 g)) rfl (show mz_in (nI k) 60 = true from sm_inN rfl (show k < 60 by omega) (by decide)) ?_
      rw [show (nI k : Int32).toNatClampNeg = k from sm_clN rfl (show k < 2 ^ 31 by omega)]
      refine mz_go 3 (c' := (if (m 14 k) = 0 then 50 else 44, [some (.ref 13), some (.ref 51), some (.ref 52), some (.int (nI (d + 1))), some (.int (nI k)), some (.int (m 14 k)), some (.int (m 15 k))], [], mz_set m 52 g)) rfl ?_
      refine mz_ifF n0 ?_
      refine mz_go 3 (c' := (if (m 14 k) = 1 then 50 else 98, [some (.ref 13), some (.ref 51), some (.ref 52), some (.int (nI (d + 1))), some (.int (nI k)), some (.int (m 14 k)), some (.int (m 15 k))], [], mz_set m 52 g)) rfl ?_
      refine mz_ifF n1 ?_
      refine mz_go 3 (c' := (if (m 14 k) = 33 then 105 else 126, [some (.ref 13), some (.ref 51), some (.ref 52), some (.int (nI (d + 1))), some (.int (nI k)), some (.int (m 14 k)), some (.int (m 15 k))], [], mz_set m 52 g)) rfl ?_
      refine mz_ifF n33 ?_
      refine mz_go 3 (c' := (if (nI (d + 1)) < 1 then 152 else 131, [some (.ref 13), some (.ref 51), some (.ref 52), some (.int (nI (d + 1))), some (.int (nI k)), some (.int (m 14 k)), some (.int (m 15 k))], [], mz_set m 52 g)) rfl ?_
      refine mz_ifF (show ¬ ((nI (d + 1)) < 1) from (sm_nltN rfl rfl (show 1 ≤ (d + 1) by omega) (show (d + 1) < 2 ^ 31 by omega))) ?_
      refine mz_go 4 (c' := (135, [some (.ref 13), some (.ref 51), some (.ref 52), some (.int (nI (d + 1))), some (.int (nI k)), some (.int (m 14 k)), some (.int (m 15 k))], [.int ((nI (d + 1)) - 1), .ref 52], mz_set m 52 g)) rfl ?_
      rw [nI_pred d]
      refine mz_go 5 (c' := (141, [some (.ref 13), some (.ref 51), some (.ref 52), some (.int (nI (d + 1))), some (.int (nI k)), some (.int (m 14 k)), some (.int (m 15 k))], [.int ((nI (d + 1)) - 1), .ref 52, .int (m 14 k), .int (nI d), .ref 52], mz_set m 52 g)) rfl ?_
      rw [nI_pred d]
      refine mz_arr (c' := (142, [some (.ref 13), some (.ref 51), some (.ref 52), some (.int (nI (d + 1))), some (.int (nI k)), some (.int (m 14 k)), some (.int (m 15 k))], [.int (g ((nI d).toNatClampNeg)), .int (m 14 k), .int (nI d), .ref 52], mz_set m 52 g)) rfl (show mz_in (nI d) 60 = true from sm_inN rfl (show d < 60 by omega) (by decide)) ?_
      rw [show (nI d : Int32).toNatClampNeg = d from sm_clN rfl (show d < 2 ^ 31 by omega)]
      refine mz_go 2 (c' := (144, [some (.ref 13), some (.ref 51), some (.ref 52), some (.int (nI (d + 1))), some (.int (nI k)), some (.int (m 14 k)), some (.int (m 15 k))], [.int (nI (d + 1)), .ref 52, .int (g d), .int (m 14 k), .int (nI d), .ref 52], mz_set m 52 g)) rfl ?_
      refine mz_arr (c' := (145, [some (.ref 13), some (.ref 51), some (.ref 52), some (.int (nI (d + 1))), some (.int (nI k)), some (.int (m 14 k)), some (.int (m 15 k))], [.int (g ((nI (d + 1)).toNatClampNeg)), .int (g d), .int (m 14 k), .int (nI d), .ref 52], mz_set m 52 g)) rfl (show mz_in (nI (d + 1)) 60 = true from sm_inN rfl (show (d + 1) < 60 by omega) (by decide)) ?_
      rw [show (nI (d + 1) : Int32).toNatClampNeg = (d + 1) from sm_clN rfl (show (d + 1) < 2 ^ 31 by omega)]
      refine mz_doQ (R := mz_r58) (as := [.int (m 14 k), .int (g d), .int (g (d + 1))]) (rest := [.int (nI d), .ref 52]) (r1 := some (.int (sm_op (m 14 k) (g d) (g (d + 1))))) (m1 := mz_set m 52 g) mz_t58 mz_v58 rfl rfl rfl rfl rfl ((cs_together h0 (g d) (g (d + 1))).deep (by decide)) ?_
      refine mz_arr (c' := (149, [some (.ref 13), some (.ref 51), some (.ref 52), some (.int (nI (d + 1))), some (.int (nI k)), some (.int (m 14 k)), some (.int (m 15 k))], [], mz_up (mz_set m 52 g) 52 ((nI d).toNatClampNeg) (sm_op (m 14 k) (g d) (g (d + 1))))) rfl (show mz_in (nI d) 60 = true from sm_inN rfl (show d < 60 by omega) (by decide)) ?_
      rw [show (nI d : Int32).toNatClampNeg = d from sm_clN rfl (show d < 2 ^ 31 by omega)]
      refine mz_go 3 (c' := (5, [some (.ref 13), some (.ref 51), some (.ref 52), some (.int ((nI (d + 1)) + (-1))), some (.int ((nI k) + 1)), some (.int (m 14 k)), some (.int (m 15 k))], [], mz_up (mz_set m 52 g) 52 d (sm_op (m 14 k) (g d) (g (d + 1))))) rfl ?_
      exact E
set_option maxHeartbeats 4000000 in
set_option maxRecDepth 100000 in
theorem cs_ev13 {m : mz_M} {T c : Nat} (hT : m 13 2 = nI T) (hw : sm_wf T c (m 14) (m 15)) (hc : c ≤ 5) : ∃ g', mz_Me 10 mz_r57 [.ref 13, .ref 51, .ref 52] m (some (.int (sm_ev T (m 14) (m 15) (m 51)))) (mz_set m 52 g') := by
  obtain ⟨g', E⟩ := cs_evl13 hT hw hc T 0 (by omega) (m 52) none none (fun j hj => absurd hj (Nat.not_lt_zero j))
  rw [sm_id52] at E
  refine ⟨g', ?_, rfl⟩
  refine mz_go 4 (c' := (5, [some (.ref 13), some (.ref 51), some (.ref 52), some (.int (-1)), some (.int 0), none, none], [], m)) rfl ?_
  exact E
set_option maxHeartbeats 4000000 in
set_option maxRecDepth 100000 in
theorem cs_evl16 {m : mz_M} {T c : Nat} (hT : m 16 2 = nI T) (hw : sm_wf T c (m 17) (m 18)) (hc : c ≤ 5) : ∀ n k : Nat, k + n = T → ∀ (g : Nat → Int32) (l5 l6 : Option Value), (∀ j, j < sm_dp (m 17) k → g j = sm_st (m 17) (m 18) (m 51) k j) → ∃ g', mz_Ex 10 mz_k57 (5, [some (.ref 16), some (.ref 51), some (.ref 52), some (.int (nI (sm_dp (m 17) k) - 1)), some (.int (nI k)), l5, l6], [], mz_set m 52 g) (some (.int (sm_ev T (m 17) (m 18) (m 51))), mz_set m 52 g') := by
  intro n
  induction n with
  | zero =>
    intro k hk g l5 l6 hg
    have hk2 : k = T := by omega
    subst hk2
    have hd := hw.2.1
    have hT60 := hw.1
    rw [hd]
    refine ⟨g, ?_⟩
    refine mz_go 3 (c' := (11, [some (.ref 16), some (.ref 51), some (.ref 52), some (.int (nI 1 - 1)), some (.int (nI k)), l5, l6], [.int (m 16 2), .int (nI k)], mz_set m 52 g)) rfl ?_
    rw [hT]
    refine mz_go 1 (c' := (if (nI k) ≤ (nI k) then 158 else 14, [some (.ref 16), some (.ref 51), some (.ref 52), some (.int (nI 1 - 1)), some (.int (nI k)), l5, l6], [], mz_set m 52 g)) rfl ?_
    refine mz_ifT (show ((nI k) ≤ (nI k)) from (sm_leN rfl rfl (show k ≤ k by omega) (show k < 2 ^ 31 by omega))) ?_
    refine mz_go 2 (c' := (if (nI 1 - 1) < 0 then 168 else 162, [some (.ref 16), some (.ref 51), some (.ref 52), some (.int (nI 1 - 1)), some (.int (nI k)), l5, l6], [], mz_set m 52 g)) rfl ?_
    refine mz_ifF (show ¬ ((nI 1 - 1) < 0) from (sm_nltN (show nI 1 - 1 = nI 0 from by decide) rfl (show 0 ≤ 0 by omega) (show 0 < 2 ^ 31 by omega))) ?_
    refine mz_go 2 (c' := (164, [some (.ref 16), some (.ref 51), some (.ref 52), some (.int (nI 1 - 1)), some (.int (nI k)), l5, l6], [.int (nI 1 - 1), .ref 52], mz_set m 52 g)) rfl ?_
    refine mz_arr (c' := (165, [some (.ref 16), some (.ref 51), some (.ref 52), some (.int (nI 1 - 1)), some (.int (nI k)), l5, l6], [.int (g ((nI 1 - 1).toNatClampNeg))], mz_set m 52 g)) rfl (show mz_in (nI 1 - 1) 60 = true from sm_inN (show nI 1 - 1 = nI 0 from by decide) (show 0 < 60 by omega) (by decide)) ?_
    rw [show (nI 1 - 1 : Int32).toNatClampNeg = 0 from sm_clN (show nI 1 - 1 = nI 0 from by decide) (show 0 < 2 ^ 31 by omega)]
    refine mz_go 1 (c' := (169, [some (.ref 16), some (.ref 51), some (.ref 52), some (.int (nI 1 - 1)), some (.int (nI k)), l5, l6], [.int (g 0)], mz_set m 52 g)) rfl ?_
    rw [hg 0 (by rw [hd]; decide)]
    exact mz_ret rfl
  | succ n ih =>
    intro k hk g l5 l6 hg
    have hwk := hw.2.2 k (by omega)
    have hdk := sm_dp_le (m 17) k
    have hT60 := hw.1
    obtain ⟨d, hd⟩ : ∃ d, sm_dp (m 17) k = d := ⟨_, rfl⟩
    rw [hd] at hg hdk ⊢
    rcases hwk with h0 | ⟨h0, j, hj, hv⟩ | ⟨h0, hd1⟩ | ⟨h0, hd1⟩
    · have e1 : sm_dp (m 17) (k + 1) = d + 1 := by
        show (if _ then _ else if _ then _ else _) = _
        simp [h0, hd]
      have e2 : sm_st (m 17) (m 18) (m 51) (k + 1) = sm_upd (sm_st (m 17) (m 18) (m 51) k) (d) (m 18 k) := by
        show (if m 17 k = 0 then _ else if m 17 k = 1 then _ else if m 17 k = 33 then _ else _) = _
        rw [if_pos h0, hd]
      obtain ⟨g', E⟩ := ih (k + 1) (by omega) (sm_upd g (d) (m 18 k)) (some (.int (0))) (some (.int (m 18 k))) (by
        rw [e1, e2]
        exact sm_upd_eq (fun j hj hne => hg j (by omega)))
      rw [e1, nI_succ k, ← sm_up_set, nI_pred] at E
      refine ⟨g', ?_⟩
      refine mz_go 3 (c' := (11, [some (.ref 16), some (.ref 51), some (.ref 52), some (.int (nI d - 1)), some (.int (nI k)), l5, l6], [.int (m 16 2), .int (nI k)], mz_set m 52 g)) rfl ?_
      rw [hT]
      refine mz_go 1 (c' := (if (nI T) ≤ (nI k) then 158 else 14, [some (.ref 16), some (.ref 51), some (.ref 52), some (.int (nI d - 1)), some (.int (nI k)), l5, l6], [], mz_set m 52 g)) rfl ?_
      refine mz_ifF (show ¬ ((nI T) ≤ (nI k)) from (sm_nleN rfl rfl (show k < T by omega) (show T < 2 ^ 31 by omega))) ?_
      refine mz_go 3 (c' := (if 60 ≤ (nI k) then 158 else 21, [some (.ref 16), some (.ref 51), some (.ref 52), some (.int (nI d - 1)), some (.int (nI k)), l5, l6], [], mz_set m 52 g)) rfl ?_
      refine mz_ifF (show ¬ (60 ≤ (nI k)) from (sm_nleN rfl rfl (show k < 60 by omega) (show 60 < 2 ^ 31 by omega))) ?_
      refine mz_go 3 (c' := (27, [some (.ref 16), some (.ref 51), some (.ref 52), some (.int (nI d - 1)), some (.int (nI k)), l5, l6], [.int (nI k), .ref 17], mz_set m 52 g)) rfl ?_
      refine mz_arr (c' := (28, [some (.ref 16), some (.ref 51), some (.ref 52), some (.int (nI d - 1)), some (.int (nI k)), l5, l6], [.int (m 17 ((nI k).toNatClampNeg))], mz_set m 52 g)) rfl (show mz_in (nI k) 60 = true from sm_inN rfl (show k < 60 by omega) (by decide)) ?_
      rw [show (nI k : Int32).toNatClampNeg = k from sm_clN rfl (show k < 2 ^ 31 by omega)]
      rw [h0]
      refine mz_go 4 (c' := (36, [some (.ref 16), some (.ref 51), some (.ref 52), some (.int (nI d - 1)), some (.int (nI k)), some (.int 0), l6], [.int (nI k), .ref 18], mz_set m 52 g)) rfl ?_
      refine mz_arr (c' := (37, [some (.ref 16), some (.ref 51), some (.ref 52), some (.int (nI d - 1)), some (.int (nI k)), some (.int 0), l6], [.int (m 18 ((nI k).toNatClampNeg))], mz_set m 52 g)) rfl (show mz_in (nI k) 60 = true from sm_inN rfl (show k < 60 by omega) (by decide)) ?_
      rw [show (nI k : Int32).toNatClampNeg = k from sm_clN rfl (show k < 2 ^ 31 by omega)]
      refine mz_go 6 (c' := (53, [some (.ref 16), some (.ref 51), some (.ref 52), some (.int (nI d - 1)), some (.int (nI k)), some (.int 0), some (.int (m 18 k))], [.int ((nI d - 1) + 1)], mz_set m 52 g)) rfl ?_
      rw [sm_top d]
      refine mz_go 3 (c' := (if 60 ≤ (nI d) then 152 else 58, [some (.ref 16), some (.ref 51), some (.ref 52), some (.int (nI d - 1)), some (.int (nI k)), some (.int 0), some (.int (m 18 k))], [], mz_set m 52 g)) rfl ?_
      refine mz_ifF (show ¬ (60 ≤ (nI d)) from (sm_nleN rfl rfl (show d < 60 by omega) (show 60 < 2 ^ 31 by omega))) ?_
      refine mz_go 3 (c' := (63, [some (.ref 16), some (.ref 51), some (.ref 52), some (.int ((nI d - 1) + 1)), some (.int (nI k)), some (.int 0), some (.int (m 18 k))], [.int ((nI d - 1) + 1), .ref 52], mz_set m 52 g)) rfl ?_
      rw [sm_top d]
      refine mz_go 4 (c' := (94, [some (.ref 16), some (.ref 51), some (.ref 52), some (.int (nI d)), some (.int (nI k)), some (.int 0), some (.int (m 18 k))], [.int (m 18 k), .int (nI d), .ref 52], mz_set m 52 g)) rfl ?_
      refine mz_arr (c' := (95, [some (.ref 16), some (.ref 51), some (.ref 52), some (.int (nI d)), some (.int (nI k)), some (.int 0), some (.int (m 18 k))], [], mz_up (mz_set m 52 g) 52 ((nI d).toNatClampNeg) (m 18 k))) rfl (show mz_in (nI d) 60 = true from sm_inN rfl (show d < 60 by omega) (by decide)) ?_
      rw [show (nI d : Int32).toNatClampNeg = d from sm_clN rfl (show d < 2 ^ 31 by omega)]
      refine mz_go 3 (c' := (5, [some (.ref 16), some (.ref 51), some (.ref 52), some (.int (nI d)), some (.int ((nI k) + 1)), some (.int 0), some (.int (m 18 k))], [], mz_up (mz_set m 52 g) 52 d (m 18 k))) rfl ?_
      exact E
    · have e1 : sm_dp (m 17) (k + 1) = d + 1 := by
        show (if _ then _ else if _ then _ else _) = _
        simp [h0, hd]
      have e2 : sm_st (m 17) (m 18) (m 51) (k + 1) = sm_upd (sm_st (m 17) (m 18) (m 51) k) (d) (m 51 j) := by
        show (if m 17 k = 0 then _ else if m 17 k = 1 then _ else if m 17 k = 33 then _ else _) = _
        rw [h0, if_neg (by decide), if_pos rfl, hd, hv, nI_clamp (by omega)]
      obtain ⟨g', E⟩ := ih (k + 1) (by omega) (sm_upd g (d) (m 51 j)) (some (.int (1))) (some (.int (nI j))) (by
        rw [e1, e2]
        exact sm_upd_eq (fun j hj hne => hg j (by omega)))
      rw [e1, nI_succ k, ← sm_up_set, nI_pred] at E
      refine ⟨g', ?_⟩
      refine mz_go 3 (c' := (11, [some (.ref 16), some (.ref 51), some (.ref 52), some (.int (nI d - 1)), some (.int (nI k)), l5, l6], [.int (m 16 2), .int (nI k)], mz_set m 52 g)) rfl ?_
      rw [hT]
      refine mz_go 1 (c' := (if (nI T) ≤ (nI k) then 158 else 14, [some (.ref 16), some (.ref 51), some (.ref 52), some (.int (nI d - 1)), some (.int (nI k)), l5, l6], [], mz_set m 52 g)) rfl ?_
      refine mz_ifF (show ¬ ((nI T) ≤ (nI k)) from (sm_nleN rfl rfl (show k < T by omega) (show T < 2 ^ 31 by omega))) ?_
      refine mz_go 3 (c' := (if 60 ≤ (nI k) then 158 else 21, [some (.ref 16), some (.ref 51), some (.ref 52), some (.int (nI d - 1)), some (.int (nI k)), l5, l6], [], mz_set m 52 g)) rfl ?_
      refine mz_ifF (show ¬ (60 ≤ (nI k)) from (sm_nleN rfl rfl (show k < 60 by omega) (show 60 < 2 ^ 31 by omega))) ?_
      refine mz_go 3 (c' := (27, [some (.ref 16), some (.ref 51), some (.ref 52), some (.int (nI d - 1)), some (.int (nI k)), l5, l6], [.int (nI k), .ref 17], mz_set m 52 g)) rfl ?_
      refine mz_arr (c' := (28, [some (.ref 16), some (.ref 51), some (.ref 52), some (.int (nI d - 1)), some (.int (nI k)), l5, l6], [.int (m 17 ((nI k).toNatClampNeg))], mz_set m 52 g)) rfl (show mz_in (nI k) 60 = true from sm_inN rfl (show k < 60 by omega) (by decide)) ?_
      rw [show (nI k : Int32).toNatClampNeg = k from sm_clN rfl (show k < 2 ^ 31 by omega)]
      rw [h0]
      refine mz_go 4 (c' := (36, [some (.ref 16), some (.ref 51), some (.ref 52), some (.int (nI d - 1)), some (.int (nI k)), some (.int 1), l6], [.int (nI k), .ref 18], mz_set m 52 g)) rfl ?_
      refine mz_arr (c' := (37, [some (.ref 16), some (.ref 51), some (.ref 52), some (.int (nI d - 1)), some (.int (nI k)), some (.int 1), l6], [.int (m 18 ((nI k).toNatClampNeg))], mz_set m 52 g)) rfl (show mz_in (nI k) 60 = true from sm_inN rfl (show k < 60 by omega) (by decide)) ?_
      rw [show (nI k : Int32).toNatClampNeg = k from sm_clN rfl (show k < 2 ^ 31 by omega)]
      rw [hv]
      refine mz_go 9 (c' := (53, [some (.ref 16), some (.ref 51), some (.ref 52), some (.int (nI d - 1)), some (.int (nI k)), some (.int 1), some (.int (nI j))], [.int ((nI d - 1) + 1)], mz_set m 52 g)) rfl ?_
      rw [sm_top d]
      refine mz_go 3 (c' := (if 60 ≤ (nI d) then 152 else 58, [some (.ref 16), some (.ref 51), some (.ref 52), some (.int (nI d - 1)), some (.int (nI k)), some (.int 1), some (.int (nI j))], [], mz_set m 52 g)) rfl ?_
      refine mz_ifF (show ¬ (60 ≤ (nI d)) from (sm_nleN rfl rfl (show d < 60 by omega) (show 60 < 2 ^ 31 by omega))) ?_
      refine mz_go 3 (c' := (63, [some (.ref 16), some (.ref 51), some (.ref 52), some (.int ((nI d - 1) + 1)), some (.int (nI k)), some (.int 1), some (.int (nI j))], [.int ((nI d - 1) + 1), .ref 52], mz_set m 52 g)) rfl ?_
      rw [sm_top d]
      refine mz_go 7 (c' := (79, [some (.ref 16), some (.ref 51), some (.ref 52), some (.int (nI d)), some (.int (nI k)), some (.int 1), some (.int (nI j))], [.int 1, .int 5, .int 0, .int (nI j), .int (nI d), .ref 52], mz_set m 52 g)) rfl ?_
      refine mz_go 1 (c' := (80, [some (.ref 16), some (.ref 51), some (.ref 52), some (.int (nI d)), some (.int (nI k)), some (.int 1), some (.int (nI j))], [.int 4, .int 0, .int (nI j), .int (nI d), .ref 52], mz_set m 52 g)) rfl ?_
      refine mz_doQ (R := mz_r121) (as := [.int (nI j), .int 0, .int 4]) (rest := [.int (nI d), .ref 52]) (r1 := some (.int 1)) (m1 := mz_set m 52 g) mz_t121 mz_v121 rfl rfl rfl rfl rfl ⟨?_, rfl⟩ ?_
      · refine mz_go 3 (c' := (if (nI j) < 0 then 14 else 5, [some (.int (nI j)), some (.int 0), some (.int 4)], [], mz_set m 52 g)) rfl ?_
        refine mz_ifF (show ¬ ((nI j) < 0) from (sm_nltN rfl rfl (show 0 ≤ j by omega) (show j < 2 ^ 31 by omega))) ?_
        refine mz_go 3 (c' := (if 4 < (nI j) then 14 else 10, [some (.int (nI j)), some (.int 0), some (.int 4)], [], mz_set m 52 g)) rfl ?_
        refine mz_ifF (show ¬ (4 < (nI j)) from (sm_nltN rfl rfl (show j ≤ 4 by omega) (show 4 < 2 ^ 31 by omega))) ?_
        refine mz_go 2 (c' := (15, [some (.int (nI j)), some (.int 0), some (.int 4)], [.int 1], mz_set m 52 g)) rfl ?_
        exact mz_ret rfl
      refine mz_go 3 (c' := (89, [some (.ref 16), some (.ref 51), some (.ref 52), some (.int (nI d)), some (.int (nI k)), some (.int 1), some (.int (nI j))], [.int (nI j), .ref 51, .int (nI d), .ref 52], mz_set m 52 g)) rfl ?_
      refine mz_arr (c' := (90, [some (.ref 16), some (.ref 51), some (.ref 52), some (.int (nI d)), some (.int (nI k)), some (.int 1), some (.int (nI j))], [.int (m 51 ((nI j).toNatClampNeg)), .int (nI d), .ref 52], mz_set m 52 g)) rfl (show mz_in (nI j) 5 = true from sm_inN rfl (show j < 5 by omega) (by decide)) ?_
      rw [show (nI j : Int32).toNatClampNeg = j from sm_clN rfl (show j < 2 ^ 31 by omega)]
      refine mz_go 1 (c' := (94, [some (.ref 16), some (.ref 51), some (.ref 52), some (.int (nI d)), some (.int (nI k)), some (.int 1), some (.int (nI j))], [.int (m 51 j), .int (nI d), .ref 52], mz_set m 52 g)) rfl ?_
      refine mz_arr (c' := (95, [some (.ref 16), some (.ref 51), some (.ref 52), some (.int (nI d)), some (.int (nI k)), some (.int 1), some (.int (nI j))], [], mz_up (mz_set m 52 g) 52 ((nI d).toNatClampNeg) (m 51 j))) rfl (show mz_in (nI d) 60 = true from sm_inN rfl (show d < 60 by omega) (by decide)) ?_
      rw [show (nI d : Int32).toNatClampNeg = d from sm_clN rfl (show d < 2 ^ 31 by omega)]
      refine mz_go 3 (c' := (5, [some (.ref 16), some (.ref 51), some (.ref 52), some (.int (nI d)), some (.int ((nI k) + 1)), some (.int 1), some (.int (nI j))], [], mz_up (mz_set m 52 g) 52 d (m 51 j))) rfl ?_
      exact E
    · obtain ⟨d, rfl⟩ : ∃ c, d = c + 1 := ⟨d - 1, by omega⟩
      rw [nI_pred]
      by_cases hc : g d = 0
      · have e1 : sm_dp (m 17) (k + 1) = d + 1 := by
          show (if _ then _ else if _ then _ else _) = _
          simp [h0, hd]
        have e2 : sm_st (m 17) (m 18) (m 51) (k + 1) = sm_upd (sm_st (m 17) (m 18) (m 51) k) (d) (1) := by
          show (if m 17 k = 0 then _ else if m 17 k = 1 then _ else if m 17 k = 33 then _ else _) = _
          rw [h0, if_neg (by decide), if_neg (by decide), if_pos rfl, hd, Nat.add_sub_cancel, ← hg d (by omega)]
          simp [sm_bI, hc]
        obtain ⟨g', E⟩ := ih (k + 1) (by omega) (sm_upd g (d) (1)) (some (.int (33))) (some (.int (m 18 k))) (by
          rw [e1, e2]
          exact sm_upd_eq (fun j hj hne => hg j (by omega)))
        rw [e1, nI_succ k, ← sm_up_set, nI_pred] at E
        refine ⟨g', ?_⟩
        refine mz_go 3 (c' := (11, [some (.ref 16), some (.ref 51), some (.ref 52), some (.int (nI d)), some (.int (nI k)), l5, l6], [.int (m 16 2), .int (nI k)], mz_set m 52 g)) rfl ?_
        rw [hT]
        refine mz_go 1 (c' := (if (nI T) ≤ (nI k) then 158 else 14, [some (.ref 16), some (.ref 51), some (.ref 52), some (.int (nI d)), some (.int (nI k)), l5, l6], [], mz_set m 52 g)) rfl ?_
        refine mz_ifF (show ¬ ((nI T) ≤ (nI k)) from (sm_nleN rfl rfl (show k < T by omega) (show T < 2 ^ 31 by omega))) ?_
        refine mz_go 3 (c' := (if 60 ≤ (nI k) then 158 else 21, [some (.ref 16), some (.ref 51), some (.ref 52), some (.int (nI d)), some (.int (nI k)), l5, l6], [], mz_set m 52 g)) rfl ?_
        refine mz_ifF (show ¬ (60 ≤ (nI k)) from (sm_nleN rfl rfl (show k < 60 by omega) (show 60 < 2 ^ 31 by omega))) ?_
        refine mz_go 3 (c' := (27, [some (.ref 16), some (.ref 51), some (.ref 52), some (.int (nI d)), some (.int (nI k)), l5, l6], [.int (nI k), .ref 17], mz_set m 52 g)) rfl ?_
        refine mz_arr (c' := (28, [some (.ref 16), some (.ref 51), some (.ref 52), some (.int (nI d)), some (.int (nI k)), l5, l6], [.int (m 17 ((nI k).toNatClampNeg))], mz_set m 52 g)) rfl (show mz_in (nI k) 60 = true from sm_inN rfl (show k < 60 by omega) (by decide)) ?_
        rw [show (nI k : Int32).toNatClampNeg = k from sm_clN rfl (show k < 2 ^ 31 by omega)]
        rw [h0]
        refine mz_go 4 (c' := (36, [some (.ref 16), some (.ref 51), some (.ref 52), some (.int (nI d)), some (.int (nI k)), some (.int 33), l6], [.int (nI k), .ref 18], mz_set m 52 g)) rfl ?_
        refine mz_arr (c' := (37, [some (.ref 16), some (.ref 51), some (.ref 52), some (.int (nI d)), some (.int (nI k)), some (.int 33), l6], [.int (m 18 ((nI k).toNatClampNeg))], mz_set m 52 g)) rfl (show mz_in (nI k) 60 = true from sm_inN rfl (show k < 60 by omega) (by decide)) ?_
        rw [show (nI k : Int32).toNatClampNeg = k from sm_clN rfl (show k < 2 ^ 31 by omega)]
        refine mz_go 11 (c' := (if (nI d) < 0 then 152 else 109, [some (.ref 16), some (.ref 51), some (.ref 52), some (.int (nI d)), some (.int (nI k)), some (.int 33), some (.int (m 18 k))], [], mz_set m 52 g)) rfl ?_
        refine mz_ifF (show ¬ ((nI d) < 0) from (sm_nltN rfl rfl (show 0 ≤ d by omega) (show d < 2 ^ 31 by omega))) ?_
        refine mz_go 4 (c' := (113, [some (.ref 16), some (.ref 51), some (.ref 52), some (.int (nI d)), some (.int (nI k)), some (.int 33), some (.int (m 18 k))], [.int (nI d), .ref 52, .int (nI d), .ref 52], mz_set m 52 g)) rfl ?_
        refine mz_arr (c' := (114, [some (.ref 16), some (.ref 51), some (.ref 52), some (.int (nI d)), some (.int (nI k)), some (.int 33), some (.int (m 18 k))], [.int (g ((nI d).toNatClampNeg)), .int (nI d), .ref 52], mz_set m 52 g)) rfl (show mz_in (nI d) 60 = true from sm_inN rfl (show d < 60 by omega) (by decide)) ?_
        rw [show (nI d : Int32).toNatClampNeg = d from sm_clN rfl (show d < 2 ^ 31 by omega)]
        refine mz_go 1 (c' := (if (g d) = 0 then 117 else 121, [some (.ref 16), some (.ref 51), some (.ref 52), some (.int (nI d)), some (.int (nI k)), some (.int 33), some (.int (m 18 k))], [.int (nI d), .ref 52], mz_set m 52 g)) rfl ?_
        refine mz_ifT hc ?_
        refine mz_go 2 (c' := (122, [some (.ref 16), some (.ref 51), some (.ref 52), some (.int (nI d)), some (.int (nI k)), some (.int 33), some (.int (m 18 k))], [.int 1, .int (nI d), .ref 52], mz_set m 52 g)) rfl ?_
        refine mz_arr (c' := (123, [some (.ref 16), some (.ref 51), some (.ref 52), some (.int (nI d)), some (.int (nI k)), some (.int 33), some (.int (m 18 k))], [], mz_up (mz_set m 52 g) 52 ((nI d).toNatClampNeg) 1)) rfl (show mz_in (nI d) 60 = true from sm_inN rfl (show d < 60 by omega) (by decide)) ?_
        rw [show (nI d : Int32).toNatClampNeg = d from sm_clN rfl (show d < 2 ^ 31 by omega)]
        refine mz_go 3 (c' := (5, [some (.ref 16), some (.ref 51), some (.ref 52), some (.int (nI d)), some (.int ((nI k) + 1)), some (.int 33), some (.int (m 18 k))], [], mz_up (mz_set m 52 g) 52 d 1)) rfl ?_
        exact E
      · have e1 : sm_dp (m 17) (k + 1) = d + 1 := by
          show (if _ then _ else if _ then _ else _) = _
          simp [h0, hd]
        have e2 : sm_st (m 17) (m 18) (m 51) (k + 1) = sm_upd (sm_st (m 17) (m 18) (m 51) k) (d) (0) := by
          show (if m 17 k = 0 then _ else if m 17 k = 1 then _ else if m 17 k = 33 then _ else _) = _
          rw [h0, if_neg (by decide), if_neg (by decide), if_pos rfl, hd, Nat.add_sub_cancel, ← hg d (by omega)]
          simp [sm_bI, hc]
        obtain ⟨g', E⟩ := ih (k + 1) (by omega) (sm_upd g (d) (0)) (some (.int (33))) (some (.int (m 18 k))) (by
          rw [e1, e2]
          exact sm_upd_eq (fun j hj hne => hg j (by omega)))
        rw [e1, nI_succ k, ← sm_up_set, nI_pred] at E
        refine ⟨g', ?_⟩
        refine mz_go 3 (c' := (11, [some (.ref 16), some (.ref 51), some (.ref 52), some (.int (nI d)), some (.int (nI k)), l5, l6], [.int (m 16 2), .int (nI k)], mz_set m 52 g)) rfl ?_
        rw [hT]
        refine mz_go 1 (c' := (if (nI T) ≤ (nI k) then 158 else 14, [some (.ref 16), some (.ref 51), some (.ref 52), some (.int (nI d)), some (.int (nI k)), l5, l6], [], mz_set m 52 g)) rfl ?_
        refine mz_ifF (show ¬ ((nI T) ≤ (nI k)) from (sm_nleN rfl rfl (show k < T by omega) (show T < 2 ^ 31 by omega))) ?_
        refine mz_go 3 (c' := (if 60 ≤ (nI k) then 158 else 21, [some (.ref 16), some (.ref 51), some (.ref 52), some (.int (nI d)), some (.int (nI k)), l5, l6], [], mz_set m 52 g)) rfl ?_
        refine mz_ifF (show ¬ (60 ≤ (nI k)) from (sm_nleN rfl rfl (show k < 60 by omega) (show 60 < 2 ^ 31 by omega))) ?_
        refine mz_go 3 (c' := (27, [some (.ref 16), some (.ref 51), some (.ref 52), some (.int (nI d)), some (.int (nI k)), l5, l6], [.int (nI k), .ref 17], mz_set m 52 g)) rfl ?_
        refine mz_arr (c' := (28, [some (.ref 16), some (.ref 51), some (.ref 52), some (.int (nI d)), some (.int (nI k)), l5, l6], [.int (m 17 ((nI k).toNatClampNeg))], mz_set m 52 g)) rfl (show mz_in (nI k) 60 = true from sm_inN rfl (show k < 60 by omega) (by decide)) ?_
        rw [show (nI k : Int32).toNatClampNeg = k from sm_clN rfl (show k < 2 ^ 31 by omega)]
        rw [h0]
        refine mz_go 4 (c' := (36, [some (.ref 16), some (.ref 51), some (.ref 52), some (.int (nI d)), some (.int (nI k)), some (.int 33), l6], [.int (nI k), .ref 18], mz_set m 52 g)) rfl ?_
        refine mz_arr (c' := (37, [some (.ref 16), some (.ref 51), some (.ref 52), some (.int (nI d)), some (.int (nI k)), some (.int 33), l6], [.int (m 18 ((nI k).toNatClampNeg))], mz_set m 52 g)) rfl (show mz_in (nI k) 60 = true from sm_inN rfl (show k < 60 by omega) (by decide)) ?_
        rw [show (nI k : Int32).toNatClampNeg = k from sm_clN rfl (show k < 2 ^ 31 by omega)]
        refine mz_go 11 (c' := (if (nI d) < 0 then 152 else 109, [some (.ref 16), some (.ref 51), some (.ref 52), some (.int (nI d)), some (.int (nI k)), some (.int 33), some (.int (m 18 k))], [], mz_set m 52 g)) rfl ?_
        refine mz_ifF (show ¬ ((nI d) < 0) from (sm_nltN rfl rfl (show 0 ≤ d by omega) (show d < 2 ^ 31 by omega))) ?_
        refine mz_go 4 (c' := (113, [some (.ref 16), some (.ref 51), some (.ref 52), some (.int (nI d)), some (.int (nI k)), some (.int 33), some (.int (m 18 k))], [.int (nI d), .ref 52, .int (nI d), .ref 52], mz_set m 52 g)) rfl ?_
        refine mz_arr (c' := (114, [some (.ref 16), some (.ref 51), some (.ref 52), some (.int (nI d)), some (.int (nI k)), some (.int 33), some (.int (m 18 k))], [.int (g ((nI d).toNatClampNeg)), .int (nI d), .ref 52], mz_set m 52 g)) rfl (show mz_in (nI d) 60 = true from sm_inN rfl (show d < 60 by omega) (by decide)) ?_
        rw [show (nI d : Int32).toNatClampNeg = d from sm_clN rfl (show d < 2 ^ 31 by omega)]
        refine mz_go 1 (c' := (if (g d) = 0 then 117 else 121, [some (.ref 16), some (.ref 51), some (.ref 52), some (.int (nI d)), some (.int (nI k)), some (.int 33), some (.int (m 18 k))], [.int (nI d), .ref 52], mz_set m 52 g)) rfl ?_
        refine mz_ifF hc ?_
        refine mz_go 1 (c' := (122, [some (.ref 16), some (.ref 51), some (.ref 52), some (.int (nI d)), some (.int (nI k)), some (.int 33), some (.int (m 18 k))], [.int 0, .int (nI d), .ref 52], mz_set m 52 g)) rfl ?_
        refine mz_arr (c' := (123, [some (.ref 16), some (.ref 51), some (.ref 52), some (.int (nI d)), some (.int (nI k)), some (.int 33), some (.int (m 18 k))], [], mz_up (mz_set m 52 g) 52 ((nI d).toNatClampNeg) 0)) rfl (show mz_in (nI d) 60 = true from sm_inN rfl (show d < 60 by omega) (by decide)) ?_
        rw [show (nI d : Int32).toNatClampNeg = d from sm_clN rfl (show d < 2 ^ 31 by omega)]
        refine mz_go 3 (c' := (5, [some (.ref 16), some (.ref 51), some (.ref 52), some (.int (nI d)), some (.int ((nI k) + 1)), some (.int 33), some (.int (m 18 k))], [], mz_up (mz_set m 52 g) 52 d 0)) rfl ?_
        exact E
    · obtain ⟨d, rfl⟩ : ∃ c, d = c + 2 := ⟨d - 2, by omega⟩
      obtain ⟨n0, n1, n33, -⟩ := sm_sgn_ne h0
      rw [show nI (d + 2) - 1 = nI (d + 1) from nI_pred (d + 1)]
      have e1 : sm_dp (m 17) (k + 1) = d + 1 := by
        show (if _ then _ else if _ then _ else _) = _
        simp [n0, n1, n33, hd]
      have e2 : sm_st (m 17) (m 18) (m 51) (k + 1) = sm_upd (sm_st (m 17) (m 18) (m 51) k) (d) (sm_op (m 17 k) (g d) (g (d + 1))) := by
        show (if m 17 k = 0 then _ else if m 17 k = 1 then _ else if m 17 k = 33 then _ else _) = _
        rw [if_neg n0, if_neg n1, if_neg n33, hd, hg d (by omega), hg (d + 1) (by omega)]
        rfl
      obtain ⟨g', E⟩ := ih (k + 1) (by omega) (sm_upd g (d) (sm_op (m 17 k) (g d) (g (d + 1)))) (some (.int (m 17 k))) (some (.int (m 18 k))) (by
        rw [e1, e2]
        exact sm_upd_eq (fun j hj hne => hg j (by omega)))
      rw [e1, nI_succ k, ← sm_up_set, ← sm_dec] at E
      refine ⟨g', ?_⟩
      refine mz_go 3 (c' := (11, [some (.ref 16), some (.ref 51), some (.ref 52), some (.int (nI (d + 1))), some (.int (nI k)), l5, l6], [.int (m 16 2), .int (nI k)], mz_set m 52 g)) rfl ?_
      rw [hT]
      refine mz_go 1 (c' := (if (nI T) ≤ (nI k) then 158 else 14, [some (.ref 16), some (.ref 51), some (.ref 52), some (.int (nI (d + 1))), some (.int (nI k)), l5, l6], [], mz_set m 52 g)) rfl ?_
      refine mz_ifF (show ¬ ((nI T) ≤ (nI k)) from (sm_nleN rfl rfl (show k < T by omega) (show T < 2 ^ 31 by omega))) ?_
      refine mz_go 3 (c' := (if 60 ≤ (nI k) then 158 else 21, [some (.ref 16), some (.ref 51), some (.ref 52), some (.int (nI (d + 1))), some (.int (nI k)), l5, l6], [], mz_set m 52 g)) rfl ?_
      refine mz_ifF (show ¬ (60 ≤ (nI k)) from (sm_nleN rfl rfl (show k < 60 by omega) (show 60 < 2 ^ 31 by omega))) ?_
      refine mz_go 3 (c' := (27, [some (.ref 16), some (.ref 51), some (.ref 52), some (.int (nI (d + 1))), some (.int (nI k)), l5, l6], [.int (nI k), .ref 17], mz_set m 52 g)) rfl ?_
      refine mz_arr (c' := (28, [some (.ref 16), some (.ref 51), some (.ref 52), some (.int (nI (d + 1))), some (.int (nI k)), l5, l6], [.int (m 17 ((nI k).toNatClampNeg))], mz_set m 52 g)) rfl (show mz_in (nI k) 60 = true from sm_inN rfl (show k < 60 by omega) (by decide)) ?_
      rw [show (nI k : Int32).toNatClampNeg = k from sm_clN rfl (show k < 2 ^ 31 by omega)]
      refine mz_go 4 (c' := (36, [some (.ref 16), some (.ref 51), some (.ref 52), some (.int (nI (d + 1))), some (.int (nI k)), some (.int (m 17 k)), l6], [.int (nI k), .ref 18], mz_set m 52 g)) rfl ?_
      refine mz_arr (c' := (37, [some (.ref 16), some (.ref 51), some (.ref 52), some (.int (nI (d + 1))), some (.int (nI k)), some (.int (m 17 k)), l6], [.int (m 18 ((nI k).toNatClampNeg))], mz_set m 52 g)) rfl (show mz_in (nI k) 60 = true from sm_inN rfl (show k < 60 by omega) (by decide)) ?_
      rw [show (nI k : Int32).toNatClampNeg = k from sm_clN rfl (show k < 2 ^ 31 by omega)]
      refine mz_go 3 (c' := (if (m 17 k) = 0 then 50 else 44, [some (.ref 16), some (.ref 51), some (.ref 52), some (.int (nI (d + 1))), some (.int (nI k)), some (.int (m 17 k)), some (.int (m 18 k))], [], mz_set m 52 g)) rfl ?_
      refine mz_ifF n0 ?_
      refine mz_go 3 (c' := (if (m 17 k) = 1 then 50 else 98, [some (.ref 16), some (.ref 51), some (.ref 52), some (.int (nI (d + 1))), some (.int (nI k)), some (.int (m 17 k)), some (.int (m 18 k))], [], mz_set m 52 g)) rfl ?_
      refine mz_ifF n1 ?_
      refine mz_go 3 (c' := (if (m 17 k) = 33 then 105 else 126, [some (.ref 16), some (.ref 51), some (.ref 52), some (.int (nI (d + 1))), some (.int (nI k)), some (.int (m 17 k)), some (.int (m 18 k))], [], mz_set m 52 g)) rfl ?_
      refine mz_ifF n33 ?_
      refine mz_go 3 (c' := (if (nI (d + 1)) < 1 then 152 else 131, [some (.ref 16), some (.ref 51), some (.ref 52), some (.int (nI (d + 1))), some (.int (nI k)), some (.int (m 17 k)), some (.int (m 18 k))], [], mz_set m 52 g)) rfl ?_
      refine mz_ifF (show ¬ ((nI (d + 1)) < 1) from (sm_nltN rfl rfl (show 1 ≤ (d + 1) by omega) (show (d + 1) < 2 ^ 31 by omega))) ?_
      refine mz_go 4 (c' := (135, [some (.ref 16), some (.ref 51), some (.ref 52), some (.int (nI (d + 1))), some (.int (nI k)), some (.int (m 17 k)), some (.int (m 18 k))], [.int ((nI (d + 1)) - 1), .ref 52], mz_set m 52 g)) rfl ?_
      rw [nI_pred d]
      refine mz_go 5 (c' := (141, [some (.ref 16), some (.ref 51), some (.ref 52), some (.int (nI (d + 1))), some (.int (nI k)), some (.int (m 17 k)), some (.int (m 18 k))], [.int ((nI (d + 1)) - 1), .ref 52, .int (m 17 k), .int (nI d), .ref 52], mz_set m 52 g)) rfl ?_
      rw [nI_pred d]
      refine mz_arr (c' := (142, [some (.ref 16), some (.ref 51), some (.ref 52), some (.int (nI (d + 1))), some (.int (nI k)), some (.int (m 17 k)), some (.int (m 18 k))], [.int (g ((nI d).toNatClampNeg)), .int (m 17 k), .int (nI d), .ref 52], mz_set m 52 g)) rfl (show mz_in (nI d) 60 = true from sm_inN rfl (show d < 60 by omega) (by decide)) ?_
      rw [show (nI d : Int32).toNatClampNeg = d from sm_clN rfl (show d < 2 ^ 31 by omega)]
      refine mz_go 2 (c' := (144, [some (.ref 16), some (.ref 51), some (.ref 52), some (.int (nI (d + 1))), some (.int (nI k)), some (.int (m 17 k)), some (.int (m 18 k))], [.int (nI (d + 1)), .ref 52, .int (g d), .int (m 17 k), .int (nI d), .ref 52], mz_set m 52 g)) rfl ?_
      refine mz_arr (c' := (145, [some (.ref 16), some (.ref 51), some (.ref 52), some (.int (nI (d + 1))), some (.int (nI k)), some (.int (m 17 k)), some (.int (m 18 k))], [.int (g ((nI (d + 1)).toNatClampNeg)), .int (g d), .int (m 17 k), .int (nI d), .ref 52], mz_set m 52 g)) rfl (show mz_in (nI (d + 1)) 60 = true from sm_inN rfl (show (d + 1) < 60 by omega) (by decide)) ?_
      rw [show (nI (d + 1) : Int32).toNatClampNeg = (d + 1) from sm_clN rfl (show (d + 1) < 2 ^ 31 by omega)]
      refine mz_doQ (R := mz_r58) (as := [.int (m 17 k), .int (g d), .int (g (d + 1))]) (rest := [.int (nI d), .ref 52]) (r1 := some (.int (sm_op (m 17 k) (g d) (g (d + 1))))) (m1 := mz_set m 52 g) mz_t58 mz_v58 rfl rfl rfl rfl rfl ((cs_together h0 (g d) (g (d + 1))).deep (by decide)) ?_
      refine mz_arr (c' := (149, [some (.ref 16), some (.ref 51), some (.ref 52), some (.int (nI (d + 1))), some (.int (nI k)), some (.int (m 17 k)), some (.int (m 18 k))], [], mz_up (mz_set m 52 g) 52 ((nI d).toNatClampNeg) (sm_op (m 17 k) (g d) (g (d + 1))))) rfl (show mz_in (nI d) 60 = true from sm_inN rfl (show d < 60 by omega) (by decide)) ?_
      rw [show (nI d : Int32).toNatClampNeg = d from sm_clN rfl (show d < 2 ^ 31 by omega)]
      refine mz_go 3 (c' := (5, [some (.ref 16), some (.ref 51), some (.ref 52), some (.int ((nI (d + 1)) + (-1))), some (.int ((nI k) + 1)), some (.int (m 17 k)), some (.int (m 18 k))], [], mz_up (mz_set m 52 g) 52 d (sm_op (m 17 k) (g d) (g (d + 1))))) rfl ?_
      exact E
set_option maxHeartbeats 4000000 in
set_option maxRecDepth 100000 in
theorem cs_ev16 {m : mz_M} {T c : Nat} (hT : m 16 2 = nI T) (hw : sm_wf T c (m 17) (m 18)) (hc : c ≤ 5) : ∃ g', mz_Me 10 mz_r57 [.ref 16, .ref 51, .ref 52] m (some (.int (sm_ev T (m 17) (m 18) (m 51)))) (mz_set m 52 g') := by
  obtain ⟨g', E⟩ := cs_evl16 hT hw hc T 0 (by omega) (m 52) none none (fun j hj => absurd hj (Nat.not_lt_zero j))
  rw [sm_id52] at E
  refine ⟨g', ?_, rfl⟩
  refine mz_go 4 (c' := (5, [some (.ref 16), some (.ref 51), some (.ref 52), some (.int (-1)), some (.int 0), none, none], [], m)) rfl ?_
  exact E
