/-! voices: rows kept -/
theorem vx_up57 {m : mz_M} {r g : Nat → Int32} {k : Nat} {x : Int32} : mz_up (mz_set (mz_set m 57 r) 59 g) 57 k x = mz_set (mz_set m 57 (sm_upd r k x)) 59 g := by
  have e : (mz_up (mz_set (mz_set m 57 r) 59 g) 57 k x) 57 = sm_upd r k x := by rw [sm_up_row, mz_set_ne (show (57 : Nat) ≠ 59 by decide), mz_set_eq]
  have h := sm_of2 (m := m) (m' := mz_up (mz_set (mz_set m 57 r) 59 g) 57 k x) (a := 57) (b := 59) (fun i h1 h2 => by simp only [mz_up_ne h1, mz_set_ne h1, mz_set_ne h2])
  rw [e] at h
  exact h
theorem vx_up59 {m : mz_M} {r g : Nat → Int32} {k : Nat} {x : Int32} : mz_up (mz_set (mz_set m 57 r) 59 g) 59 k x = mz_set (mz_set m 57 r) 59 (sm_upd g k x) := by
  have e : (mz_up (mz_set (mz_set m 57 r) 59 g) 59 k x) 59 = sm_upd g k x := by rw [sm_up_row, mz_set_eq]
  have h := sm_of2 (m := m) (m' := mz_up (mz_set (mz_set m 57 r) 59 g) 59 k x) (a := 57) (b := 59) (fun i h1 h2 => by simp only [mz_up_ne h2, mz_set_ne h1, mz_set_ne h2])
  rw [e] at h
  exact h
theorem vx_up65 {m : mz_M} {r g : Nat → Int32} {k : Nat} {x : Int32} : mz_up (mz_set (mz_set m 65 r) 74 g) 65 k x = mz_set (mz_set m 65 (sm_upd r k x)) 74 g := by
  have e : (mz_up (mz_set (mz_set m 65 r) 74 g) 65 k x) 65 = sm_upd r k x := by rw [sm_up_row, mz_set_ne (show (65 : Nat) ≠ 74 by decide), mz_set_eq]
  have h := sm_of2 (m := m) (m' := mz_up (mz_set (mz_set m 65 r) 74 g) 65 k x) (a := 65) (b := 74) (fun i h1 h2 => by simp only [mz_up_ne h1, mz_set_ne h1, mz_set_ne h2])
  rw [e] at h
  exact h
theorem vx_up74 {m : mz_M} {r g : Nat → Int32} {k : Nat} {x : Int32} : mz_up (mz_set (mz_set m 65 r) 74 g) 74 k x = mz_set (mz_set m 65 r) 74 (sm_upd g k x) := by
  have e : (mz_up (mz_set (mz_set m 65 r) 74 g) 74 k x) 74 = sm_upd g k x := by rw [sm_up_row, mz_set_eq]
  have h := sm_of2 (m := m) (m' := mz_up (mz_set (mz_set m 65 r) 74 g) 74 k x) (a := 65) (b := 74) (fun i h1 h2 => by simp only [mz_up_ne h2, mz_set_ne h1, mz_set_ne h2])
  rw [e] at h
  exact h
/-- b: the trace's size, p: parted -/
noncomputable def vx_0 (b p : Nat) (r : Nat → Int32) : Prop := (∃ B, B ≤ 30 ∧ r b = nI B) ∧ (r p = 0 ∨ r p = 1)
noncomputable def vx_k (b p : Nat) (r r' : Nat → Int32) : Prop := vx_0 b p r' ∧ ∀ k, k ≠ p → k ≠ b → r' k = r k
theorem vx_tr {b p : Nat} {r r1 r2 : Nat → Int32} (h : vx_k b p r r1) (h2 : vx_k b p r1 r2) : vx_k b p r r2 := ⟨h2.1, fun k a c => (h2.2 k a c).trans (h.2 k a c)⟩
theorem vx_id {b p : Nat} {r : Nat → Int32} (h : vx_0 b p r) : vx_k b p r r := ⟨h, fun _ _ _ => rfl⟩
theorem vx_b {b p B : Nat} {r r1 : Nat → Int32} (hbp : p ≠ b) (hB : B < 30) (h : vx_k b p r r1) : vx_k b p r (sm_upd r1 b ((nI B) + 1)) :=
  ⟨⟨⟨B + 1, by omega, Eq.trans tx_upE (nI_succ B).symm⟩, by rw [tx_upN hbp]; exact h.1.2⟩, fun k a c => (tx_upN c).trans (h.2 k a c)⟩
theorem vx_p {b p : Nat} {r r1 : Nat → Int32} {v : Int32} (hbp : b ≠ p) (hv : v = 0 ∨ v = 1) (h : vx_k b p r r1) : vx_k b p r (sm_upd r1 p v) :=
  ⟨⟨by rw [tx_upN hbp]; exact h.1.1, by rw [tx_upE]; exact hv⟩, fun k a c => (tx_upN a).trans (h.2 k a c)⟩
set_option maxHeartbeats 4000000 in
set_option maxRecDepth 100000 in
theorem vs0_beg {m : mz_M} {r g : Nat → Int32} (hr0 : vx_0 4 2 r) (l1 l2 l3 l4 l5 : Option Value) (b : Int32) {D : Nat} : ∃ r' g', vx_k 4 2 r r' ∧ ∀ res, mz_Ex (D + 1) mz_k62 (59, [some (.ref 57), l1, l2, l3, l4, l5, some (.int b)], [], mz_set (mz_set m 57 r') 59 g') res → mz_Ex (D + 1) mz_k62 (29, [some (.ref 57), l1, l2, l3, l4, l5, some (.int b)], [], mz_set (mz_set m 57 r) 59 g) res := by
  have hr1 := hr0
  obtain ⟨⟨B, hB, h4⟩, hp⟩ := hr1
  by_cases q1 : 30 ≤ B
  · refine ⟨r, g, (vx_id hr0), fun res hr => ?_⟩
    refine mz_go 2 (c' := (33, [some (.ref 57), l1, l2, l3, l4, l5, some (.int b)], [.int (r 4)], mz_set (mz_set m 57 r) 59 g)) rfl ?_
    rw [h4]
    refine mz_go 2 (c' := (if 30 ≤ (nI B) then 59 else 38, [some (.ref 57), l1, l2, l3, l4, l5, some (.int b)], [], mz_set (mz_set m 57 r) 59 g)) rfl ?_
    refine mz_ifT (show (30 ≤ (nI B)) from (sm_leN rfl rfl (show 30 ≤ B by omega) (show B < 2 ^ 31 by omega))) ?_
    exact hr
  · have V1 : vx_k 4 2 r (sm_upd r 4 ((nI B) + 1)) := vx_b (by decide) (by omega) (vx_id hr0)
    refine ⟨(sm_upd r 4 ((nI B) + 1)), (sm_upd g B b), V1, fun res hr => ?_⟩
    refine mz_go 2 (c' := (33, [some (.ref 57), l1, l2, l3, l4, l5, some (.int b)], [.int (r 4)], mz_set (mz_set m 57 r) 59 g)) rfl ?_
    rw [h4]
    refine mz_go 2 (c' := (if 30 ≤ (nI B) then 59 else 38, [some (.ref 57), l1, l2, l3, l4, l5, some (.int b)], [], mz_set (mz_set m 57 r) 59 g)) rfl ?_
    refine mz_ifF (show ¬ (30 ≤ (nI B)) from (sm_nleN rfl rfl (show B < 30 by omega) (show 30 < 2 ^ 31 by omega))) ?_
    refine mz_go 4 (c' := (46, [some (.ref 57), l1, l2, l3, l4, l5, some (.int b)], [.int (r 4), .ref 59], mz_set (mz_set m 57 r) 59 g)) rfl ?_
    rw [h4]
    refine mz_go 1 (c' := (48, [some (.ref 57), l1, l2, l3, l4, l5, some (.int b)], [.int b, .int (nI B), .ref 59], mz_set (mz_set m 57 r) 59 g)) rfl ?_
    refine mz_arr (c' := (49, [some (.ref 57), l1, l2, l3, l4, l5, some (.int b)], [], mz_up (mz_set (mz_set m 57 r) 59 g) 59 ((nI B).toNatClampNeg) b)) rfl (show mz_in (nI B) 30 = true from sm_inN rfl (show B < 30 by omega) (by decide)) ?_
    rw [show (nI B : Int32).toNatClampNeg = B from sm_clN rfl (show B < 2 ^ 31 by omega)]
    refine mz_go 1 (c' := (50, [some (.ref 57), l1, l2, l3, l4, l5, some (.int b)], [.ref 57], mz_up (mz_set (mz_set m 57 r) 59 g) 59 B b)) rfl ?_
    rw [vx_up59]
    refine mz_go 2 (c' := (54, [some (.ref 57), l1, l2, l3, l4, l5, some (.int b)], [.int (r 4), .ref 57], mz_set (mz_set m 57 r) 59 (sm_upd g B b))) rfl ?_
    rw [h4]
    refine mz_go 3 (c' := (59, [some (.ref 57), l1, l2, l3, l4, l5, some (.int b)], [], mz_up (mz_set (mz_set m 57 r) 59 (sm_upd g B b)) 57 4 ((nI B) + 1))) rfl ?_
    rw [vx_up57]
    exact hr
set_option maxHeartbeats 4000000 in
set_option maxRecDepth 100000 in
theorem kb_0_0 {m : mz_M} : mz_Me 4 mz_r66 [.int 0, .int 0] m (some (.int 10)) m := by
  refine ⟨?_, rfl⟩
  refine mz_go 1 (c' := (1, [some (.int 0), some (.int 0)], [.int 0], m)) rfl ?_
  refine mz_doQ (R := mz_r114) (as := [.int 0]) (rest := []) (r1 := some (.int 1)) (m1 := m) mz_t114 mz_v114 rfl rfl rfl rfl rfl ⟨?_, rfl⟩ ?_
  · refine mz_go 3 (c' := (4, [some (.int 0)], [.int 6, .int 0, .int 0], m)) rfl ?_
    refine mz_doQ (R := mz_r121) (as := [.int 0, .int 0, .int 6]) (rest := []) (r1 := some (.int 1)) (m1 := m) mz_t121 mz_v121 rfl rfl rfl rfl rfl ⟨?_, rfl⟩ ?_
    · refine mz_go 8 (c' := (15, [some (.int 0), some (.int 0), some (.int 6)], [.int 1], m)) rfl ?_
      exact mz_ret rfl
    exact mz_ret rfl
  refine mz_go 4 (c' := (10, [some (.int 0), some (.int 0)], [.int 3, .int 0, .int 0], m)) rfl ?_
  refine mz_doQ (R := mz_r121) (as := [.int 0, .int 0, .int 3]) (rest := []) (r1 := some (.int 1)) (m1 := m) mz_t121 mz_v121 rfl rfl rfl rfl rfl ⟨?_, rfl⟩ ?_
  · refine mz_go 8 (c' := (15, [some (.int 0), some (.int 0), some (.int 3)], [.int 1], m)) rfl ?_
    exact mz_ret rfl
  refine mz_go 9 (c' := (29, [some (.int 0), some (.int 0)], [.int 10], m)) rfl ?_
  exact mz_ret rfl
set_option maxHeartbeats 4000000 in
set_option maxRecDepth 100000 in
theorem kb_0_1 {m : mz_M} : mz_Me 4 mz_r66 [.int 0, .int 1] m (some (.int 20)) m := by
  refine ⟨?_, rfl⟩
  refine mz_go 1 (c' := (1, [some (.int 0), some (.int 1)], [.int 1], m)) rfl ?_
  refine mz_doQ (R := mz_r114) (as := [.int 1]) (rest := []) (r1 := some (.int 1)) (m1 := m) mz_t114 mz_v114 rfl rfl rfl rfl rfl ⟨?_, rfl⟩ ?_
  · refine mz_go 3 (c' := (4, [some (.int 1)], [.int 6, .int 0, .int 1], m)) rfl ?_
    refine mz_doQ (R := mz_r121) (as := [.int 1, .int 0, .int 6]) (rest := []) (r1 := some (.int 1)) (m1 := m) mz_t121 mz_v121 rfl rfl rfl rfl rfl ⟨?_, rfl⟩ ?_
    · refine mz_go 8 (c' := (15, [some (.int 1), some (.int 0), some (.int 6)], [.int 1], m)) rfl ?_
      exact mz_ret rfl
    exact mz_ret rfl
  refine mz_go 4 (c' := (10, [some (.int 0), some (.int 1)], [.int 3, .int 0, .int 0], m)) rfl ?_
  refine mz_doQ (R := mz_r121) (as := [.int 0, .int 0, .int 3]) (rest := []) (r1 := some (.int 1)) (m1 := m) mz_t121 mz_v121 rfl rfl rfl rfl rfl ⟨?_, rfl⟩ ?_
  · refine mz_go 8 (c' := (15, [some (.int 0), some (.int 0), some (.int 3)], [.int 1], m)) rfl ?_
    exact mz_ret rfl
  refine mz_go 9 (c' := (29, [some (.int 0), some (.int 1)], [.int 20], m)) rfl ?_
  exact mz_ret rfl
set_option maxHeartbeats 4000000 in
set_option maxRecDepth 100000 in
theorem kb_0_2 {m : mz_M} : mz_Me 4 mz_r66 [.int 0, .int 2] m (some (.int 0)) m := by
  refine ⟨?_, rfl⟩
  refine mz_go 1 (c' := (1, [some (.int 0), some (.int 2)], [.int 2], m)) rfl ?_
  refine mz_doQ (R := mz_r114) (as := [.int 2]) (rest := []) (r1 := some (.int 1)) (m1 := m) mz_t114 mz_v114 rfl rfl rfl rfl rfl ⟨?_, rfl⟩ ?_
  · refine mz_go 3 (c' := (4, [some (.int 2)], [.int 6, .int 0, .int 2], m)) rfl ?_
    refine mz_doQ (R := mz_r121) (as := [.int 2, .int 0, .int 6]) (rest := []) (r1 := some (.int 1)) (m1 := m) mz_t121 mz_v121 rfl rfl rfl rfl rfl ⟨?_, rfl⟩ ?_
    · refine mz_go 8 (c' := (15, [some (.int 2), some (.int 0), some (.int 6)], [.int 1], m)) rfl ?_
      exact mz_ret rfl
    exact mz_ret rfl
  refine mz_go 4 (c' := (10, [some (.int 0), some (.int 2)], [.int 3, .int 0, .int 0], m)) rfl ?_
  refine mz_doQ (R := mz_r121) (as := [.int 0, .int 0, .int 3]) (rest := []) (r1 := some (.int 1)) (m1 := m) mz_t121 mz_v121 rfl rfl rfl rfl rfl ⟨?_, rfl⟩ ?_
  · refine mz_go 8 (c' := (15, [some (.int 0), some (.int 0), some (.int 3)], [.int 1], m)) rfl ?_
    exact mz_ret rfl
  refine mz_go 9 (c' := (29, [some (.int 0), some (.int 2)], [.int 0], m)) rfl ?_
  exact mz_ret rfl
set_option maxHeartbeats 4000000 in
set_option maxRecDepth 100000 in
theorem kb_0_3 {m : mz_M} : mz_Me 4 mz_r66 [.int 0, .int 3] m (some (.int 0)) m := by
  refine ⟨?_, rfl⟩
  refine mz_go 1 (c' := (1, [some (.int 0), some (.int 3)], [.int 3], m)) rfl ?_
  refine mz_doQ (R := mz_r114) (as := [.int 3]) (rest := []) (r1 := some (.int 1)) (m1 := m) mz_t114 mz_v114 rfl rfl rfl rfl rfl ⟨?_, rfl⟩ ?_
  · refine mz_go 3 (c' := (4, [some (.int 3)], [.int 6, .int 0, .int 3], m)) rfl ?_
    refine mz_doQ (R := mz_r121) (as := [.int 3, .int 0, .int 6]) (rest := []) (r1 := some (.int 1)) (m1 := m) mz_t121 mz_v121 rfl rfl rfl rfl rfl ⟨?_, rfl⟩ ?_
    · refine mz_go 8 (c' := (15, [some (.int 3), some (.int 0), some (.int 6)], [.int 1], m)) rfl ?_
      exact mz_ret rfl
    exact mz_ret rfl
  refine mz_go 4 (c' := (10, [some (.int 0), some (.int 3)], [.int 3, .int 0, .int 0], m)) rfl ?_
  refine mz_doQ (R := mz_r121) (as := [.int 0, .int 0, .int 3]) (rest := []) (r1 := some (.int 1)) (m1 := m) mz_t121 mz_v121 rfl rfl rfl rfl rfl ⟨?_, rfl⟩ ?_
  · refine mz_go 8 (c' := (15, [some (.int 0), some (.int 0), some (.int 3)], [.int 1], m)) rfl ?_
    exact mz_ret rfl
  refine mz_go 9 (c' := (29, [some (.int 0), some (.int 3)], [.int 0], m)) rfl ?_
  exact mz_ret rfl
set_option maxHeartbeats 4000000 in
set_option maxRecDepth 100000 in
theorem kb_0_4 {m : mz_M} : mz_Me 4 mz_r66 [.int 0, .int 4] m (some (.int 50)) m := by
  refine ⟨?_, rfl⟩
  refine mz_go 1 (c' := (1, [some (.int 0), some (.int 4)], [.int 4], m)) rfl ?_
  refine mz_doQ (R := mz_r114) (as := [.int 4]) (rest := []) (r1 := some (.int 1)) (m1 := m) mz_t114 mz_v114 rfl rfl rfl rfl rfl ⟨?_, rfl⟩ ?_
  · refine mz_go 3 (c' := (4, [some (.int 4)], [.int 6, .int 0, .int 4], m)) rfl ?_
    refine mz_doQ (R := mz_r121) (as := [.int 4, .int 0, .int 6]) (rest := []) (r1 := some (.int 1)) (m1 := m) mz_t121 mz_v121 rfl rfl rfl rfl rfl ⟨?_, rfl⟩ ?_
    · refine mz_go 8 (c' := (15, [some (.int 4), some (.int 0), some (.int 6)], [.int 1], m)) rfl ?_
      exact mz_ret rfl
    exact mz_ret rfl
  refine mz_go 4 (c' := (10, [some (.int 0), some (.int 4)], [.int 3, .int 0, .int 0], m)) rfl ?_
  refine mz_doQ (R := mz_r121) (as := [.int 0, .int 0, .int 3]) (rest := []) (r1 := some (.int 1)) (m1 := m) mz_t121 mz_v121 rfl rfl rfl rfl rfl ⟨?_, rfl⟩ ?_
  · refine mz_go 8 (c' := (15, [some (.int 0), some (.int 0), some (.int 3)], [.int 1], m)) rfl ?_
    exact mz_ret rfl
  refine mz_go 9 (c' := (29, [some (.int 0), some (.int 4)], [.int 50], m)) rfl ?_
  exact mz_ret rfl
set_option maxHeartbeats 4000000 in
set_option maxRecDepth 100000 in
theorem kb_0_5 {m : mz_M} : mz_Me 4 mz_r66 [.int 0, .int 5] m (some (.int 0)) m := by
  refine ⟨?_, rfl⟩
  refine mz_go 1 (c' := (1, [some (.int 0), some (.int 5)], [.int 5], m)) rfl ?_
  refine mz_doQ (R := mz_r114) (as := [.int 5]) (rest := []) (r1 := some (.int 1)) (m1 := m) mz_t114 mz_v114 rfl rfl rfl rfl rfl ⟨?_, rfl⟩ ?_
  · refine mz_go 3 (c' := (4, [some (.int 5)], [.int 6, .int 0, .int 5], m)) rfl ?_
    refine mz_doQ (R := mz_r121) (as := [.int 5, .int 0, .int 6]) (rest := []) (r1 := some (.int 1)) (m1 := m) mz_t121 mz_v121 rfl rfl rfl rfl rfl ⟨?_, rfl⟩ ?_
    · refine mz_go 8 (c' := (15, [some (.int 5), some (.int 0), some (.int 6)], [.int 1], m)) rfl ?_
      exact mz_ret rfl
    exact mz_ret rfl
  refine mz_go 4 (c' := (10, [some (.int 0), some (.int 5)], [.int 3, .int 0, .int 0], m)) rfl ?_
  refine mz_doQ (R := mz_r121) (as := [.int 0, .int 0, .int 3]) (rest := []) (r1 := some (.int 1)) (m1 := m) mz_t121 mz_v121 rfl rfl rfl rfl rfl ⟨?_, rfl⟩ ?_
  · refine mz_go 8 (c' := (15, [some (.int 0), some (.int 0), some (.int 3)], [.int 1], m)) rfl ?_
    exact mz_ret rfl
  refine mz_go 9 (c' := (29, [some (.int 0), some (.int 5)], [.int 0], m)) rfl ?_
  exact mz_ret rfl
set_option maxHeartbeats 4000000 in
set_option maxRecDepth 100000 in
theorem kb_0_6 {m : mz_M} : mz_Me 4 mz_r66 [.int 0, .int 6] m (some (.int 71)) m := by
  refine ⟨?_, rfl⟩
  refine mz_go 1 (c' := (1, [some (.int 0), some (.int 6)], [.int 6], m)) rfl ?_
  refine mz_doQ (R := mz_r114) (as := [.int 6]) (rest := []) (r1 := some (.int 1)) (m1 := m) mz_t114 mz_v114 rfl rfl rfl rfl rfl ⟨?_, rfl⟩ ?_
  · refine mz_go 3 (c' := (4, [some (.int 6)], [.int 6, .int 0, .int 6], m)) rfl ?_
    refine mz_doQ (R := mz_r121) (as := [.int 6, .int 0, .int 6]) (rest := []) (r1 := some (.int 1)) (m1 := m) mz_t121 mz_v121 rfl rfl rfl rfl rfl ⟨?_, rfl⟩ ?_
    · refine mz_go 8 (c' := (15, [some (.int 6), some (.int 0), some (.int 6)], [.int 1], m)) rfl ?_
      exact mz_ret rfl
    exact mz_ret rfl
  refine mz_go 4 (c' := (10, [some (.int 0), some (.int 6)], [.int 3, .int 0, .int 0], m)) rfl ?_
  refine mz_doQ (R := mz_r121) (as := [.int 0, .int 0, .int 3]) (rest := []) (r1 := some (.int 1)) (m1 := m) mz_t121 mz_v121 rfl rfl rfl rfl rfl ⟨?_, rfl⟩ ?_
  · refine mz_go 8 (c' := (15, [some (.int 0), some (.int 0), some (.int 3)], [.int 1], m)) rfl ?_
    exact mz_ret rfl
  refine mz_go 9 (c' := (29, [some (.int 0), some (.int 6)], [.int 71], m)) rfl ?_
  exact mz_ret rfl
set_option maxHeartbeats 4000000 in
set_option maxRecDepth 100000 in
theorem kb_1_0 {m : mz_M} : mz_Me 4 mz_r66 [.int 1, .int 0] m (some (.int 11)) m := by
  refine ⟨?_, rfl⟩
  refine mz_go 1 (c' := (1, [some (.int 1), some (.int 0)], [.int 0], m)) rfl ?_
  refine mz_doQ (R := mz_r114) (as := [.int 0]) (rest := []) (r1 := some (.int 1)) (m1 := m) mz_t114 mz_v114 rfl rfl rfl rfl rfl ⟨?_, rfl⟩ ?_
  · refine mz_go 3 (c' := (4, [some (.int 0)], [.int 6, .int 0, .int 0], m)) rfl ?_
    refine mz_doQ (R := mz_r121) (as := [.int 0, .int 0, .int 6]) (rest := []) (r1 := some (.int 1)) (m1 := m) mz_t121 mz_v121 rfl rfl rfl rfl rfl ⟨?_, rfl⟩ ?_
    · refine mz_go 8 (c' := (15, [some (.int 0), some (.int 0), some (.int 6)], [.int 1], m)) rfl ?_
      exact mz_ret rfl
    exact mz_ret rfl
  refine mz_go 4 (c' := (10, [some (.int 1), some (.int 0)], [.int 3, .int 0, .int 1], m)) rfl ?_
  refine mz_doQ (R := mz_r121) (as := [.int 1, .int 0, .int 3]) (rest := []) (r1 := some (.int 1)) (m1 := m) mz_t121 mz_v121 rfl rfl rfl rfl rfl ⟨?_, rfl⟩ ?_
  · refine mz_go 8 (c' := (15, [some (.int 1), some (.int 0), some (.int 3)], [.int 1], m)) rfl ?_
    exact mz_ret rfl
  refine mz_go 9 (c' := (29, [some (.int 1), some (.int 0)], [.int 11], m)) rfl ?_
  exact mz_ret rfl
set_option maxHeartbeats 4000000 in
set_option maxRecDepth 100000 in
theorem kb_1_1 {m : mz_M} : mz_Me 4 mz_r66 [.int 1, .int 1] m (some (.int 0)) m := by
  refine ⟨?_, rfl⟩
  refine mz_go 1 (c' := (1, [some (.int 1), some (.int 1)], [.int 1], m)) rfl ?_
  refine mz_doQ (R := mz_r114) (as := [.int 1]) (rest := []) (r1 := some (.int 1)) (m1 := m) mz_t114 mz_v114 rfl rfl rfl rfl rfl ⟨?_, rfl⟩ ?_
  · refine mz_go 3 (c' := (4, [some (.int 1)], [.int 6, .int 0, .int 1], m)) rfl ?_
    refine mz_doQ (R := mz_r121) (as := [.int 1, .int 0, .int 6]) (rest := []) (r1 := some (.int 1)) (m1 := m) mz_t121 mz_v121 rfl rfl rfl rfl rfl ⟨?_, rfl⟩ ?_
    · refine mz_go 8 (c' := (15, [some (.int 1), some (.int 0), some (.int 6)], [.int 1], m)) rfl ?_
      exact mz_ret rfl
    exact mz_ret rfl
  refine mz_go 4 (c' := (10, [some (.int 1), some (.int 1)], [.int 3, .int 0, .int 1], m)) rfl ?_
  refine mz_doQ (R := mz_r121) (as := [.int 1, .int 0, .int 3]) (rest := []) (r1 := some (.int 1)) (m1 := m) mz_t121 mz_v121 rfl rfl rfl rfl rfl ⟨?_, rfl⟩ ?_
  · refine mz_go 8 (c' := (15, [some (.int 1), some (.int 0), some (.int 3)], [.int 1], m)) rfl ?_
    exact mz_ret rfl
  refine mz_go 9 (c' := (29, [some (.int 1), some (.int 1)], [.int 0], m)) rfl ?_
  exact mz_ret rfl
set_option maxHeartbeats 4000000 in
set_option maxRecDepth 100000 in
theorem kb_1_2 {m : mz_M} : mz_Me 4 mz_r66 [.int 1, .int 2] m (some (.int 30)) m := by
  refine ⟨?_, rfl⟩
  refine mz_go 1 (c' := (1, [some (.int 1), some (.int 2)], [.int 2], m)) rfl ?_
  refine mz_doQ (R := mz_r114) (as := [.int 2]) (rest := []) (r1 := some (.int 1)) (m1 := m) mz_t114 mz_v114 rfl rfl rfl rfl rfl ⟨?_, rfl⟩ ?_
  · refine mz_go 3 (c' := (4, [some (.int 2)], [.int 6, .int 0, .int 2], m)) rfl ?_
    refine mz_doQ (R := mz_r121) (as := [.int 2, .int 0, .int 6]) (rest := []) (r1 := some (.int 1)) (m1 := m) mz_t121 mz_v121 rfl rfl rfl rfl rfl ⟨?_, rfl⟩ ?_
    · refine mz_go 8 (c' := (15, [some (.int 2), some (.int 0), some (.int 6)], [.int 1], m)) rfl ?_
      exact mz_ret rfl
    exact mz_ret rfl
  refine mz_go 4 (c' := (10, [some (.int 1), some (.int 2)], [.int 3, .int 0, .int 1], m)) rfl ?_
  refine mz_doQ (R := mz_r121) (as := [.int 1, .int 0, .int 3]) (rest := []) (r1 := some (.int 1)) (m1 := m) mz_t121 mz_v121 rfl rfl rfl rfl rfl ⟨?_, rfl⟩ ?_
  · refine mz_go 8 (c' := (15, [some (.int 1), some (.int 0), some (.int 3)], [.int 1], m)) rfl ?_
    exact mz_ret rfl
  refine mz_go 9 (c' := (29, [some (.int 1), some (.int 2)], [.int 30], m)) rfl ?_
  exact mz_ret rfl
set_option maxHeartbeats 4000000 in
set_option maxRecDepth 100000 in
theorem kb_1_3 {m : mz_M} : mz_Me 4 mz_r66 [.int 1, .int 3] m (some (.int 0)) m := by
  refine ⟨?_, rfl⟩
  refine mz_go 1 (c' := (1, [some (.int 1), some (.int 3)], [.int 3], m)) rfl ?_
  refine mz_doQ (R := mz_r114) (as := [.int 3]) (rest := []) (r1 := some (.int 1)) (m1 := m) mz_t114 mz_v114 rfl rfl rfl rfl rfl ⟨?_, rfl⟩ ?_
  · refine mz_go 3 (c' := (4, [some (.int 3)], [.int 6, .int 0, .int 3], m)) rfl ?_
    refine mz_doQ (R := mz_r121) (as := [.int 3, .int 0, .int 6]) (rest := []) (r1 := some (.int 1)) (m1 := m) mz_t121 mz_v121 rfl rfl rfl rfl rfl ⟨?_, rfl⟩ ?_
    · refine mz_go 8 (c' := (15, [some (.int 3), some (.int 0), some (.int 6)], [.int 1], m)) rfl ?_
      exact mz_ret rfl
    exact mz_ret rfl
  refine mz_go 4 (c' := (10, [some (.int 1), some (.int 3)], [.int 3, .int 0, .int 1], m)) rfl ?_
  refine mz_doQ (R := mz_r121) (as := [.int 1, .int 0, .int 3]) (rest := []) (r1 := some (.int 1)) (m1 := m) mz_t121 mz_v121 rfl rfl rfl rfl rfl ⟨?_, rfl⟩ ?_
  · refine mz_go 8 (c' := (15, [some (.int 1), some (.int 0), some (.int 3)], [.int 1], m)) rfl ?_
    exact mz_ret rfl
  refine mz_go 9 (c' := (29, [some (.int 1), some (.int 3)], [.int 0], m)) rfl ?_
  exact mz_ret rfl
set_option maxHeartbeats 4000000 in
set_option maxRecDepth 100000 in
theorem kb_1_4 {m : mz_M} : mz_Me 4 mz_r66 [.int 1, .int 4] m (some (.int 0)) m := by
  refine ⟨?_, rfl⟩
  refine mz_go 1 (c' := (1, [some (.int 1), some (.int 4)], [.int 4], m)) rfl ?_
  refine mz_doQ (R := mz_r114) (as := [.int 4]) (rest := []) (r1 := some (.int 1)) (m1 := m) mz_t114 mz_v114 rfl rfl rfl rfl rfl ⟨?_, rfl⟩ ?_
  · refine mz_go 3 (c' := (4, [some (.int 4)], [.int 6, .int 0, .int 4], m)) rfl ?_
    refine mz_doQ (R := mz_r121) (as := [.int 4, .int 0, .int 6]) (rest := []) (r1 := some (.int 1)) (m1 := m) mz_t121 mz_v121 rfl rfl rfl rfl rfl ⟨?_, rfl⟩ ?_
    · refine mz_go 8 (c' := (15, [some (.int 4), some (.int 0), some (.int 6)], [.int 1], m)) rfl ?_
      exact mz_ret rfl
    exact mz_ret rfl
  refine mz_go 4 (c' := (10, [some (.int 1), some (.int 4)], [.int 3, .int 0, .int 1], m)) rfl ?_
  refine mz_doQ (R := mz_r121) (as := [.int 1, .int 0, .int 3]) (rest := []) (r1 := some (.int 1)) (m1 := m) mz_t121 mz_v121 rfl rfl rfl rfl rfl ⟨?_, rfl⟩ ?_
  · refine mz_go 8 (c' := (15, [some (.int 1), some (.int 0), some (.int 3)], [.int 1], m)) rfl ?_
    exact mz_ret rfl
  refine mz_go 9 (c' := (29, [some (.int 1), some (.int 4)], [.int 0], m)) rfl ?_
  exact mz_ret rfl
set_option maxHeartbeats 4000000 in
set_option maxRecDepth 100000 in
theorem kb_1_5 {m : mz_M} : mz_Me 4 mz_r66 [.int 1, .int 5] m (some (.int 61)) m := by
  refine ⟨?_, rfl⟩
  refine mz_go 1 (c' := (1, [some (.int 1), some (.int 5)], [.int 5], m)) rfl ?_
  refine mz_doQ (R := mz_r114) (as := [.int 5]) (rest := []) (r1 := some (.int 1)) (m1 := m) mz_t114 mz_v114 rfl rfl rfl rfl rfl ⟨?_, rfl⟩ ?_
  · refine mz_go 3 (c' := (4, [some (.int 5)], [.int 6, .int 0, .int 5], m)) rfl ?_
    refine mz_doQ (R := mz_r121) (as := [.int 5, .int 0, .int 6]) (rest := []) (r1 := some (.int 1)) (m1 := m) mz_t121 mz_v121 rfl rfl rfl rfl rfl ⟨?_, rfl⟩ ?_
    · refine mz_go 8 (c' := (15, [some (.int 5), some (.int 0), some (.int 6)], [.int 1], m)) rfl ?_
      exact mz_ret rfl
    exact mz_ret rfl
  refine mz_go 4 (c' := (10, [some (.int 1), some (.int 5)], [.int 3, .int 0, .int 1], m)) rfl ?_
  refine mz_doQ (R := mz_r121) (as := [.int 1, .int 0, .int 3]) (rest := []) (r1 := some (.int 1)) (m1 := m) mz_t121 mz_v121 rfl rfl rfl rfl rfl ⟨?_, rfl⟩ ?_
  · refine mz_go 8 (c' := (15, [some (.int 1), some (.int 0), some (.int 3)], [.int 1], m)) rfl ?_
    exact mz_ret rfl
  refine mz_go 9 (c' := (29, [some (.int 1), some (.int 5)], [.int 61], m)) rfl ?_
  exact mz_ret rfl
set_option maxHeartbeats 4000000 in
set_option maxRecDepth 100000 in
theorem kb_1_6 {m : mz_M} : mz_Me 4 mz_r66 [.int 1, .int 6] m (some (.int 70)) m := by
  refine ⟨?_, rfl⟩
  refine mz_go 1 (c' := (1, [some (.int 1), some (.int 6)], [.int 6], m)) rfl ?_
  refine mz_doQ (R := mz_r114) (as := [.int 6]) (rest := []) (r1 := some (.int 1)) (m1 := m) mz_t114 mz_v114 rfl rfl rfl rfl rfl ⟨?_, rfl⟩ ?_
  · refine mz_go 3 (c' := (4, [some (.int 6)], [.int 6, .int 0, .int 6], m)) rfl ?_
    refine mz_doQ (R := mz_r121) (as := [.int 6, .int 0, .int 6]) (rest := []) (r1 := some (.int 1)) (m1 := m) mz_t121 mz_v121 rfl rfl rfl rfl rfl ⟨?_, rfl⟩ ?_
    · refine mz_go 8 (c' := (15, [some (.int 6), some (.int 0), some (.int 6)], [.int 1], m)) rfl ?_
      exact mz_ret rfl
    exact mz_ret rfl
  refine mz_go 4 (c' := (10, [some (.int 1), some (.int 6)], [.int 3, .int 0, .int 1], m)) rfl ?_
  refine mz_doQ (R := mz_r121) (as := [.int 1, .int 0, .int 3]) (rest := []) (r1 := some (.int 1)) (m1 := m) mz_t121 mz_v121 rfl rfl rfl rfl rfl ⟨?_, rfl⟩ ?_
  · refine mz_go 8 (c' := (15, [some (.int 1), some (.int 0), some (.int 3)], [.int 1], m)) rfl ?_
    exact mz_ret rfl
  refine mz_go 9 (c' := (29, [some (.int 1), some (.int 6)], [.int 70], m)) rfl ?_
  exact mz_ret rfl
set_option maxHeartbeats 4000000 in
set_option maxRecDepth 100000 in
theorem kb_2_0 {m : mz_M} : mz_Me 4 mz_r66 [.int 2, .int 0] m (some (.int 12)) m := by
  refine ⟨?_, rfl⟩
  refine mz_go 1 (c' := (1, [some (.int 2), some (.int 0)], [.int 0], m)) rfl ?_
  refine mz_doQ (R := mz_r114) (as := [.int 0]) (rest := []) (r1 := some (.int 1)) (m1 := m) mz_t114 mz_v114 rfl rfl rfl rfl rfl ⟨?_, rfl⟩ ?_
  · refine mz_go 3 (c' := (4, [some (.int 0)], [.int 6, .int 0, .int 0], m)) rfl ?_
    refine mz_doQ (R := mz_r121) (as := [.int 0, .int 0, .int 6]) (rest := []) (r1 := some (.int 1)) (m1 := m) mz_t121 mz_v121 rfl rfl rfl rfl rfl ⟨?_, rfl⟩ ?_
    · refine mz_go 8 (c' := (15, [some (.int 0), some (.int 0), some (.int 6)], [.int 1], m)) rfl ?_
      exact mz_ret rfl
    exact mz_ret rfl
  refine mz_go 4 (c' := (10, [some (.int 2), some (.int 0)], [.int 3, .int 0, .int 2], m)) rfl ?_
  refine mz_doQ (R := mz_r121) (as := [.int 2, .int 0, .int 3]) (rest := []) (r1 := some (.int 1)) (m1 := m) mz_t121 mz_v121 rfl rfl rfl rfl rfl ⟨?_, rfl⟩ ?_
  · refine mz_go 8 (c' := (15, [some (.int 2), some (.int 0), some (.int 3)], [.int 1], m)) rfl ?_
    exact mz_ret rfl
  refine mz_go 9 (c' := (29, [some (.int 2), some (.int 0)], [.int 12], m)) rfl ?_
  exact mz_ret rfl
set_option maxHeartbeats 4000000 in
set_option maxRecDepth 100000 in
theorem kb_2_1 {m : mz_M} : mz_Me 4 mz_r66 [.int 2, .int 1] m (some (.int 21)) m := by
  refine ⟨?_, rfl⟩
  refine mz_go 1 (c' := (1, [some (.int 2), some (.int 1)], [.int 1], m)) rfl ?_
  refine mz_doQ (R := mz_r114) (as := [.int 1]) (rest := []) (r1 := some (.int 1)) (m1 := m) mz_t114 mz_v114 rfl rfl rfl rfl rfl ⟨?_, rfl⟩ ?_
  · refine mz_go 3 (c' := (4, [some (.int 1)], [.int 6, .int 0, .int 1], m)) rfl ?_
    refine mz_doQ (R := mz_r121) (as := [.int 1, .int 0, .int 6]) (rest := []) (r1 := some (.int 1)) (m1 := m) mz_t121 mz_v121 rfl rfl rfl rfl rfl ⟨?_, rfl⟩ ?_
    · refine mz_go 8 (c' := (15, [some (.int 1), some (.int 0), some (.int 6)], [.int 1], m)) rfl ?_
      exact mz_ret rfl
    exact mz_ret rfl
  refine mz_go 4 (c' := (10, [some (.int 2), some (.int 1)], [.int 3, .int 0, .int 2], m)) rfl ?_
  refine mz_doQ (R := mz_r121) (as := [.int 2, .int 0, .int 3]) (rest := []) (r1 := some (.int 1)) (m1 := m) mz_t121 mz_v121 rfl rfl rfl rfl rfl ⟨?_, rfl⟩ ?_
  · refine mz_go 8 (c' := (15, [some (.int 2), some (.int 0), some (.int 3)], [.int 1], m)) rfl ?_
    exact mz_ret rfl
  refine mz_go 9 (c' := (29, [some (.int 2), some (.int 1)], [.int 21], m)) rfl ?_
  exact mz_ret rfl
set_option maxHeartbeats 4000000 in
set_option maxRecDepth 100000 in
theorem kb_2_2 {m : mz_M} : mz_Me 4 mz_r66 [.int 2, .int 2] m (some (.int 0)) m := by
  refine ⟨?_, rfl⟩
  refine mz_go 1 (c' := (1, [some (.int 2), some (.int 2)], [.int 2], m)) rfl ?_
  refine mz_doQ (R := mz_r114) (as := [.int 2]) (rest := []) (r1 := some (.int 1)) (m1 := m) mz_t114 mz_v114 rfl rfl rfl rfl rfl ⟨?_, rfl⟩ ?_
  · refine mz_go 3 (c' := (4, [some (.int 2)], [.int 6, .int 0, .int 2], m)) rfl ?_
    refine mz_doQ (R := mz_r121) (as := [.int 2, .int 0, .int 6]) (rest := []) (r1 := some (.int 1)) (m1 := m) mz_t121 mz_v121 rfl rfl rfl rfl rfl ⟨?_, rfl⟩ ?_
    · refine mz_go 8 (c' := (15, [some (.int 2), some (.int 0), some (.int 6)], [.int 1], m)) rfl ?_
      exact mz_ret rfl
    exact mz_ret rfl
  refine mz_go 4 (c' := (10, [some (.int 2), some (.int 2)], [.int 3, .int 0, .int 2], m)) rfl ?_
  refine mz_doQ (R := mz_r121) (as := [.int 2, .int 0, .int 3]) (rest := []) (r1 := some (.int 1)) (m1 := m) mz_t121 mz_v121 rfl rfl rfl rfl rfl ⟨?_, rfl⟩ ?_
  · refine mz_go 8 (c' := (15, [some (.int 2), some (.int 0), some (.int 3)], [.int 1], m)) rfl ?_
    exact mz_ret rfl
  refine mz_go 9 (c' := (29, [some (.int 2), some (.int 2)], [.int 0], m)) rfl ?_
  exact mz_ret rfl
set_option maxHeartbeats 4000000 in
set_option maxRecDepth 100000 in
theorem kb_2_3 {m : mz_M} : mz_Me 4 mz_r66 [.int 2, .int 3] m (some (.int 40)) m := by
  refine ⟨?_, rfl⟩
  refine mz_go 1 (c' := (1, [some (.int 2), some (.int 3)], [.int 3], m)) rfl ?_
  refine mz_doQ (R := mz_r114) (as := [.int 3]) (rest := []) (r1 := some (.int 1)) (m1 := m) mz_t114 mz_v114 rfl rfl rfl rfl rfl ⟨?_, rfl⟩ ?_
  · refine mz_go 3 (c' := (4, [some (.int 3)], [.int 6, .int 0, .int 3], m)) rfl ?_
    refine mz_doQ (R := mz_r121) (as := [.int 3, .int 0, .int 6]) (rest := []) (r1 := some (.int 1)) (m1 := m) mz_t121 mz_v121 rfl rfl rfl rfl rfl ⟨?_, rfl⟩ ?_
    · refine mz_go 8 (c' := (15, [some (.int 3), some (.int 0), some (.int 6)], [.int 1], m)) rfl ?_
      exact mz_ret rfl
    exact mz_ret rfl
  refine mz_go 4 (c' := (10, [some (.int 2), some (.int 3)], [.int 3, .int 0, .int 2], m)) rfl ?_
  refine mz_doQ (R := mz_r121) (as := [.int 2, .int 0, .int 3]) (rest := []) (r1 := some (.int 1)) (m1 := m) mz_t121 mz_v121 rfl rfl rfl rfl rfl ⟨?_, rfl⟩ ?_
  · refine mz_go 8 (c' := (15, [some (.int 2), some (.int 0), some (.int 3)], [.int 1], m)) rfl ?_
    exact mz_ret rfl
  refine mz_go 9 (c' := (29, [some (.int 2), some (.int 3)], [.int 40], m)) rfl ?_
  exact mz_ret rfl
set_option maxHeartbeats 4000000 in
set_option maxRecDepth 100000 in
theorem kb_2_4 {m : mz_M} : mz_Me 4 mz_r66 [.int 2, .int 4] m (some (.int 0)) m := by
  refine ⟨?_, rfl⟩
  refine mz_go 1 (c' := (1, [some (.int 2), some (.int 4)], [.int 4], m)) rfl ?_
  refine mz_doQ (R := mz_r114) (as := [.int 4]) (rest := []) (r1 := some (.int 1)) (m1 := m) mz_t114 mz_v114 rfl rfl rfl rfl rfl ⟨?_, rfl⟩ ?_
  · refine mz_go 3 (c' := (4, [some (.int 4)], [.int 6, .int 0, .int 4], m)) rfl ?_
    refine mz_doQ (R := mz_r121) (as := [.int 4, .int 0, .int 6]) (rest := []) (r1 := some (.int 1)) (m1 := m) mz_t121 mz_v121 rfl rfl rfl rfl rfl ⟨?_, rfl⟩ ?_
    · refine mz_go 8 (c' := (15, [some (.int 4), some (.int 0), some (.int 6)], [.int 1], m)) rfl ?_
      exact mz_ret rfl
    exact mz_ret rfl
  refine mz_go 4 (c' := (10, [some (.int 2), some (.int 4)], [.int 3, .int 0, .int 2], m)) rfl ?_
  refine mz_doQ (R := mz_r121) (as := [.int 2, .int 0, .int 3]) (rest := []) (r1 := some (.int 1)) (m1 := m) mz_t121 mz_v121 rfl rfl rfl rfl rfl ⟨?_, rfl⟩ ?_
  · refine mz_go 8 (c' := (15, [some (.int 2), some (.int 0), some (.int 3)], [.int 1], m)) rfl ?_
    exact mz_ret rfl
  refine mz_go 9 (c' := (29, [some (.int 2), some (.int 4)], [.int 0], m)) rfl ?_
  exact mz_ret rfl
set_option maxHeartbeats 4000000 in
set_option maxRecDepth 100000 in
theorem kb_2_5 {m : mz_M} : mz_Me 4 mz_r66 [.int 2, .int 5] m (some (.int 60)) m := by
  refine ⟨?_, rfl⟩
  refine mz_go 1 (c' := (1, [some (.int 2), some (.int 5)], [.int 5], m)) rfl ?_
  refine mz_doQ (R := mz_r114) (as := [.int 5]) (rest := []) (r1 := some (.int 1)) (m1 := m) mz_t114 mz_v114 rfl rfl rfl rfl rfl ⟨?_, rfl⟩ ?_
  · refine mz_go 3 (c' := (4, [some (.int 5)], [.int 6, .int 0, .int 5], m)) rfl ?_
    refine mz_doQ (R := mz_r121) (as := [.int 5, .int 0, .int 6]) (rest := []) (r1 := some (.int 1)) (m1 := m) mz_t121 mz_v121 rfl rfl rfl rfl rfl ⟨?_, rfl⟩ ?_
    · refine mz_go 8 (c' := (15, [some (.int 5), some (.int 0), some (.int 6)], [.int 1], m)) rfl ?_
      exact mz_ret rfl
    exact mz_ret rfl
  refine mz_go 4 (c' := (10, [some (.int 2), some (.int 5)], [.int 3, .int 0, .int 2], m)) rfl ?_
  refine mz_doQ (R := mz_r121) (as := [.int 2, .int 0, .int 3]) (rest := []) (r1 := some (.int 1)) (m1 := m) mz_t121 mz_v121 rfl rfl rfl rfl rfl ⟨?_, rfl⟩ ?_
  · refine mz_go 8 (c' := (15, [some (.int 2), some (.int 0), some (.int 3)], [.int 1], m)) rfl ?_
    exact mz_ret rfl
  refine mz_go 9 (c' := (29, [some (.int 2), some (.int 5)], [.int 60], m)) rfl ?_
  exact mz_ret rfl
set_option maxHeartbeats 4000000 in
set_option maxRecDepth 100000 in
theorem kb_2_6 {m : mz_M} : mz_Me 4 mz_r66 [.int 2, .int 6] m (some (.int 0)) m := by
  refine ⟨?_, rfl⟩
  refine mz_go 1 (c' := (1, [some (.int 2), some (.int 6)], [.int 6], m)) rfl ?_
  refine mz_doQ (R := mz_r114) (as := [.int 6]) (rest := []) (r1 := some (.int 1)) (m1 := m) mz_t114 mz_v114 rfl rfl rfl rfl rfl ⟨?_, rfl⟩ ?_
  · refine mz_go 3 (c' := (4, [some (.int 6)], [.int 6, .int 0, .int 6], m)) rfl ?_
    refine mz_doQ (R := mz_r121) (as := [.int 6, .int 0, .int 6]) (rest := []) (r1 := some (.int 1)) (m1 := m) mz_t121 mz_v121 rfl rfl rfl rfl rfl ⟨?_, rfl⟩ ?_
    · refine mz_go 8 (c' := (15, [some (.int 6), some (.int 0), some (.int 6)], [.int 1], m)) rfl ?_
      exact mz_ret rfl
    exact mz_ret rfl
  refine mz_go 4 (c' := (10, [some (.int 2), some (.int 6)], [.int 3, .int 0, .int 2], m)) rfl ?_
  refine mz_doQ (R := mz_r121) (as := [.int 2, .int 0, .int 3]) (rest := []) (r1 := some (.int 1)) (m1 := m) mz_t121 mz_v121 rfl rfl rfl rfl rfl ⟨?_, rfl⟩ ?_
  · refine mz_go 8 (c' := (15, [some (.int 2), some (.int 0), some (.int 3)], [.int 1], m)) rfl ?_
    exact mz_ret rfl
  refine mz_go 9 (c' := (29, [some (.int 2), some (.int 6)], [.int 0], m)) rfl ?_
  exact mz_ret rfl
set_option maxHeartbeats 4000000 in
set_option maxRecDepth 100000 in
theorem kb_3_0 {m : mz_M} : mz_Me 4 mz_r66 [.int 3, .int 0] m (some (.int 13)) m := by
  refine ⟨?_, rfl⟩
  refine mz_go 1 (c' := (1, [some (.int 3), some (.int 0)], [.int 0], m)) rfl ?_
  refine mz_doQ (R := mz_r114) (as := [.int 0]) (rest := []) (r1 := some (.int 1)) (m1 := m) mz_t114 mz_v114 rfl rfl rfl rfl rfl ⟨?_, rfl⟩ ?_
  · refine mz_go 3 (c' := (4, [some (.int 0)], [.int 6, .int 0, .int 0], m)) rfl ?_
    refine mz_doQ (R := mz_r121) (as := [.int 0, .int 0, .int 6]) (rest := []) (r1 := some (.int 1)) (m1 := m) mz_t121 mz_v121 rfl rfl rfl rfl rfl ⟨?_, rfl⟩ ?_
    · refine mz_go 8 (c' := (15, [some (.int 0), some (.int 0), some (.int 6)], [.int 1], m)) rfl ?_
      exact mz_ret rfl
    exact mz_ret rfl
  refine mz_go 4 (c' := (10, [some (.int 3), some (.int 0)], [.int 3, .int 0, .int 3], m)) rfl ?_
  refine mz_doQ (R := mz_r121) (as := [.int 3, .int 0, .int 3]) (rest := []) (r1 := some (.int 1)) (m1 := m) mz_t121 mz_v121 rfl rfl rfl rfl rfl ⟨?_, rfl⟩ ?_
  · refine mz_go 8 (c' := (15, [some (.int 3), some (.int 0), some (.int 3)], [.int 1], m)) rfl ?_
    exact mz_ret rfl
  refine mz_go 9 (c' := (29, [some (.int 3), some (.int 0)], [.int 13], m)) rfl ?_
  exact mz_ret rfl
set_option maxHeartbeats 4000000 in
set_option maxRecDepth 100000 in
theorem kb_3_1 {m : mz_M} : mz_Me 4 mz_r66 [.int 3, .int 1] m (some (.int 0)) m := by
  refine ⟨?_, rfl⟩
  refine mz_go 1 (c' := (1, [some (.int 3), some (.int 1)], [.int 1], m)) rfl ?_
  refine mz_doQ (R := mz_r114) (as := [.int 1]) (rest := []) (r1 := some (.int 1)) (m1 := m) mz_t114 mz_v114 rfl rfl rfl rfl rfl ⟨?_, rfl⟩ ?_
  · refine mz_go 3 (c' := (4, [some (.int 1)], [.int 6, .int 0, .int 1], m)) rfl ?_
    refine mz_doQ (R := mz_r121) (as := [.int 1, .int 0, .int 6]) (rest := []) (r1 := some (.int 1)) (m1 := m) mz_t121 mz_v121 rfl rfl rfl rfl rfl ⟨?_, rfl⟩ ?_
    · refine mz_go 8 (c' := (15, [some (.int 1), some (.int 0), some (.int 6)], [.int 1], m)) rfl ?_
      exact mz_ret rfl
    exact mz_ret rfl
  refine mz_go 4 (c' := (10, [some (.int 3), some (.int 1)], [.int 3, .int 0, .int 3], m)) rfl ?_
  refine mz_doQ (R := mz_r121) (as := [.int 3, .int 0, .int 3]) (rest := []) (r1 := some (.int 1)) (m1 := m) mz_t121 mz_v121 rfl rfl rfl rfl rfl ⟨?_, rfl⟩ ?_
  · refine mz_go 8 (c' := (15, [some (.int 3), some (.int 0), some (.int 3)], [.int 1], m)) rfl ?_
    exact mz_ret rfl
  refine mz_go 9 (c' := (29, [some (.int 3), some (.int 1)], [.int 0], m)) rfl ?_
  exact mz_ret rfl
set_option maxHeartbeats 4000000 in
set_option maxRecDepth 100000 in
theorem kb_3_2 {m : mz_M} : mz_Me 4 mz_r66 [.int 3, .int 2] m (some (.int 31)) m := by
  refine ⟨?_, rfl⟩
  refine mz_go 1 (c' := (1, [some (.int 3), some (.int 2)], [.int 2], m)) rfl ?_
  refine mz_doQ (R := mz_r114) (as := [.int 2]) (rest := []) (r1 := some (.int 1)) (m1 := m) mz_t114 mz_v114 rfl rfl rfl rfl rfl ⟨?_, rfl⟩ ?_
  · refine mz_go 3 (c' := (4, [some (.int 2)], [.int 6, .int 0, .int 2], m)) rfl ?_
    refine mz_doQ (R := mz_r121) (as := [.int 2, .int 0, .int 6]) (rest := []) (r1 := some (.int 1)) (m1 := m) mz_t121 mz_v121 rfl rfl rfl rfl rfl ⟨?_, rfl⟩ ?_
    · refine mz_go 8 (c' := (15, [some (.int 2), some (.int 0), some (.int 6)], [.int 1], m)) rfl ?_
      exact mz_ret rfl
    exact mz_ret rfl
  refine mz_go 4 (c' := (10, [some (.int 3), some (.int 2)], [.int 3, .int 0, .int 3], m)) rfl ?_
  refine mz_doQ (R := mz_r121) (as := [.int 3, .int 0, .int 3]) (rest := []) (r1 := some (.int 1)) (m1 := m) mz_t121 mz_v121 rfl rfl rfl rfl rfl ⟨?_, rfl⟩ ?_
  · refine mz_go 8 (c' := (15, [some (.int 3), some (.int 0), some (.int 3)], [.int 1], m)) rfl ?_
    exact mz_ret rfl
  refine mz_go 9 (c' := (29, [some (.int 3), some (.int 2)], [.int 31], m)) rfl ?_
  exact mz_ret rfl
set_option maxHeartbeats 4000000 in
set_option maxRecDepth 100000 in
theorem kb_3_3 {m : mz_M} : mz_Me 4 mz_r66 [.int 3, .int 3] m (some (.int 0)) m := by
  refine ⟨?_, rfl⟩
  refine mz_go 1 (c' := (1, [some (.int 3), some (.int 3)], [.int 3], m)) rfl ?_
  refine mz_doQ (R := mz_r114) (as := [.int 3]) (rest := []) (r1 := some (.int 1)) (m1 := m) mz_t114 mz_v114 rfl rfl rfl rfl rfl ⟨?_, rfl⟩ ?_
  · refine mz_go 3 (c' := (4, [some (.int 3)], [.int 6, .int 0, .int 3], m)) rfl ?_
    refine mz_doQ (R := mz_r121) (as := [.int 3, .int 0, .int 6]) (rest := []) (r1 := some (.int 1)) (m1 := m) mz_t121 mz_v121 rfl rfl rfl rfl rfl ⟨?_, rfl⟩ ?_
    · refine mz_go 8 (c' := (15, [some (.int 3), some (.int 0), some (.int 6)], [.int 1], m)) rfl ?_
      exact mz_ret rfl
    exact mz_ret rfl
  refine mz_go 4 (c' := (10, [some (.int 3), some (.int 3)], [.int 3, .int 0, .int 3], m)) rfl ?_
  refine mz_doQ (R := mz_r121) (as := [.int 3, .int 0, .int 3]) (rest := []) (r1 := some (.int 1)) (m1 := m) mz_t121 mz_v121 rfl rfl rfl rfl rfl ⟨?_, rfl⟩ ?_
  · refine mz_go 8 (c' := (15, [some (.int 3), some (.int 0), some (.int 3)], [.int 1], m)) rfl ?_
    exact mz_ret rfl
  refine mz_go 9 (c' := (29, [some (.int 3), some (.int 3)], [.int 0], m)) rfl ?_
  exact mz_ret rfl
set_option maxHeartbeats 4000000 in
set_option maxRecDepth 100000 in
theorem kb_3_4 {m : mz_M} : mz_Me 4 mz_r66 [.int 3, .int 4] m (some (.int 51)) m := by
  refine ⟨?_, rfl⟩
  refine mz_go 1 (c' := (1, [some (.int 3), some (.int 4)], [.int 4], m)) rfl ?_
  refine mz_doQ (R := mz_r114) (as := [.int 4]) (rest := []) (r1 := some (.int 1)) (m1 := m) mz_t114 mz_v114 rfl rfl rfl rfl rfl ⟨?_, rfl⟩ ?_
  · refine mz_go 3 (c' := (4, [some (.int 4)], [.int 6, .int 0, .int 4], m)) rfl ?_
    refine mz_doQ (R := mz_r121) (as := [.int 4, .int 0, .int 6]) (rest := []) (r1 := some (.int 1)) (m1 := m) mz_t121 mz_v121 rfl rfl rfl rfl rfl ⟨?_, rfl⟩ ?_
    · refine mz_go 8 (c' := (15, [some (.int 4), some (.int 0), some (.int 6)], [.int 1], m)) rfl ?_
      exact mz_ret rfl
    exact mz_ret rfl
  refine mz_go 4 (c' := (10, [some (.int 3), some (.int 4)], [.int 3, .int 0, .int 3], m)) rfl ?_
  refine mz_doQ (R := mz_r121) (as := [.int 3, .int 0, .int 3]) (rest := []) (r1 := some (.int 1)) (m1 := m) mz_t121 mz_v121 rfl rfl rfl rfl rfl ⟨?_, rfl⟩ ?_
  · refine mz_go 8 (c' := (15, [some (.int 3), some (.int 0), some (.int 3)], [.int 1], m)) rfl ?_
    exact mz_ret rfl
  refine mz_go 9 (c' := (29, [some (.int 3), some (.int 4)], [.int 51], m)) rfl ?_
  exact mz_ret rfl
set_option maxHeartbeats 4000000 in
set_option maxRecDepth 100000 in
theorem kb_3_5 {m : mz_M} : mz_Me 4 mz_r66 [.int 3, .int 5] m (some (.int 0)) m := by
  refine ⟨?_, rfl⟩
  refine mz_go 1 (c' := (1, [some (.int 3), some (.int 5)], [.int 5], m)) rfl ?_
  refine mz_doQ (R := mz_r114) (as := [.int 5]) (rest := []) (r1 := some (.int 1)) (m1 := m) mz_t114 mz_v114 rfl rfl rfl rfl rfl ⟨?_, rfl⟩ ?_
  · refine mz_go 3 (c' := (4, [some (.int 5)], [.int 6, .int 0, .int 5], m)) rfl ?_
    refine mz_doQ (R := mz_r121) (as := [.int 5, .int 0, .int 6]) (rest := []) (r1 := some (.int 1)) (m1 := m) mz_t121 mz_v121 rfl rfl rfl rfl rfl ⟨?_, rfl⟩ ?_
    · refine mz_go 8 (c' := (15, [some (.int 5), some (.int 0), some (.int 6)], [.int 1], m)) rfl ?_
      exact mz_ret rfl
    exact mz_ret rfl
  refine mz_go 4 (c' := (10, [some (.int 3), some (.int 5)], [.int 3, .int 0, .int 3], m)) rfl ?_
  refine mz_doQ (R := mz_r121) (as := [.int 3, .int 0, .int 3]) (rest := []) (r1 := some (.int 1)) (m1 := m) mz_t121 mz_v121 rfl rfl rfl rfl rfl ⟨?_, rfl⟩ ?_
  · refine mz_go 8 (c' := (15, [some (.int 3), some (.int 0), some (.int 3)], [.int 1], m)) rfl ?_
    exact mz_ret rfl
  refine mz_go 9 (c' := (29, [some (.int 3), some (.int 5)], [.int 0], m)) rfl ?_
  exact mz_ret rfl
set_option maxHeartbeats 4000000 in
set_option maxRecDepth 100000 in
theorem kb_3_6 {m : mz_M} : mz_Me 4 mz_r66 [.int 3, .int 6] m (some (.int 0)) m := by
  refine ⟨?_, rfl⟩
  refine mz_go 1 (c' := (1, [some (.int 3), some (.int 6)], [.int 6], m)) rfl ?_
  refine mz_doQ (R := mz_r114) (as := [.int 6]) (rest := []) (r1 := some (.int 1)) (m1 := m) mz_t114 mz_v114 rfl rfl rfl rfl rfl ⟨?_, rfl⟩ ?_
  · refine mz_go 3 (c' := (4, [some (.int 6)], [.int 6, .int 0, .int 6], m)) rfl ?_
    refine mz_doQ (R := mz_r121) (as := [.int 6, .int 0, .int 6]) (rest := []) (r1 := some (.int 1)) (m1 := m) mz_t121 mz_v121 rfl rfl rfl rfl rfl ⟨?_, rfl⟩ ?_
    · refine mz_go 8 (c' := (15, [some (.int 6), some (.int 0), some (.int 6)], [.int 1], m)) rfl ?_
      exact mz_ret rfl
    exact mz_ret rfl
  refine mz_go 4 (c' := (10, [some (.int 3), some (.int 6)], [.int 3, .int 0, .int 3], m)) rfl ?_
  refine mz_doQ (R := mz_r121) (as := [.int 3, .int 0, .int 3]) (rest := []) (r1 := some (.int 1)) (m1 := m) mz_t121 mz_v121 rfl rfl rfl rfl rfl ⟨?_, rfl⟩ ?_
  · refine mz_go 8 (c' := (15, [some (.int 3), some (.int 0), some (.int 3)], [.int 1], m)) rfl ?_
    exact mz_ret rfl
  refine mz_go 9 (c' := (29, [some (.int 3), some (.int 6)], [.int 0], m)) rfl ?_
  exact mz_ret rfl
set_option maxHeartbeats 4000000 in
set_option maxRecDepth 100000 in
theorem kh_0_0 {m : mz_M} : mz_Me 6 mz_r65 [.int 0, .int 0] m (some (.int 0)) m := by
  refine ⟨?_, rfl⟩
  refine mz_go 8 (c' := (11, [some (.int 0), some (.int 0), some (.int 0), some (.int 0)], [.int 0], m)) rfl ?_
  refine mz_doQ (R := mz_r114) (as := [.int 0]) (rest := []) (r1 := some (.int 1)) (m1 := m) mz_t114 mz_v114 rfl rfl rfl rfl rfl ⟨?_, rfl⟩ ?_
  · refine mz_go 3 (c' := (4, [some (.int 0)], [.int 6, .int 0, .int 0], m)) rfl ?_
    refine mz_doQ (R := mz_r121) (as := [.int 0, .int 0, .int 6]) (rest := []) (r1 := some (.int 1)) (m1 := m) mz_t121 mz_v121 rfl rfl rfl rfl rfl ⟨?_, rfl⟩ ?_
    · refine mz_go 8 (c' := (15, [some (.int 0), some (.int 0), some (.int 6)], [.int 1], m)) rfl ?_
      exact mz_ret rfl
    exact mz_ret rfl
  refine mz_go 3 (c' := (19, [some (.int 0), some (.int 0), some (.int 0), some (.int 0)], [.int 0, .int 0], m)) rfl ?_
  refine mz_doQ (R := mz_r66) (as := [.int 0, .int 0]) (rest := []) (r1 := some (.int 10)) (m1 := m) mz_t66 mz_v66 rfl rfl rfl rfl rfl ((kb_0_0 (m := m)).deep (by decide)) ?_
  refine mz_go 2 (c' := (26, [some (.int 0), some (.int 0), some (.int 0), some (.int 0)], [.int 0], m)) rfl ?_
  exact mz_ret rfl
set_option maxHeartbeats 4000000 in
set_option maxRecDepth 100000 in
theorem kh_0_1 {m : mz_M} : mz_Me 6 mz_r65 [.int 0, .int 1] m (some (.int 1)) m := by
  refine ⟨?_, rfl⟩
  refine mz_go 8 (c' := (11, [some (.int 0), some (.int 1), some (.int 1), some (.int 0)], [.int 1], m)) rfl ?_
  refine mz_doQ (R := mz_r114) (as := [.int 1]) (rest := []) (r1 := some (.int 1)) (m1 := m) mz_t114 mz_v114 rfl rfl rfl rfl rfl ⟨?_, rfl⟩ ?_
  · refine mz_go 3 (c' := (4, [some (.int 1)], [.int 6, .int 0, .int 1], m)) rfl ?_
    refine mz_doQ (R := mz_r121) (as := [.int 1, .int 0, .int 6]) (rest := []) (r1 := some (.int 1)) (m1 := m) mz_t121 mz_v121 rfl rfl rfl rfl rfl ⟨?_, rfl⟩ ?_
    · refine mz_go 8 (c' := (15, [some (.int 1), some (.int 0), some (.int 6)], [.int 1], m)) rfl ?_
      exact mz_ret rfl
    exact mz_ret rfl
  refine mz_go 3 (c' := (19, [some (.int 0), some (.int 1), some (.int 1), some (.int 0)], [.int 1, .int 0], m)) rfl ?_
  refine mz_doQ (R := mz_r66) (as := [.int 0, .int 1]) (rest := []) (r1 := some (.int 20)) (m1 := m) mz_t66 mz_v66 rfl rfl rfl rfl rfl ((kb_0_1 (m := m)).deep (by decide)) ?_
  refine mz_go 2 (c' := (26, [some (.int 0), some (.int 1), some (.int 1), some (.int 0)], [.int 1], m)) rfl ?_
  exact mz_ret rfl
set_option maxHeartbeats 4000000 in
set_option maxRecDepth 100000 in
theorem kh_0_2 {m : mz_M} : mz_Me 6 mz_r65 [.int 0, .int 2] m (some (.int 0)) m := by
  refine ⟨?_, rfl⟩
  refine mz_go 8 (c' := (11, [some (.int 0), some (.int 2), some (.int 2), some (.int 0)], [.int 2], m)) rfl ?_
  refine mz_doQ (R := mz_r114) (as := [.int 2]) (rest := []) (r1 := some (.int 1)) (m1 := m) mz_t114 mz_v114 rfl rfl rfl rfl rfl ⟨?_, rfl⟩ ?_
  · refine mz_go 3 (c' := (4, [some (.int 2)], [.int 6, .int 0, .int 2], m)) rfl ?_
    refine mz_doQ (R := mz_r121) (as := [.int 2, .int 0, .int 6]) (rest := []) (r1 := some (.int 1)) (m1 := m) mz_t121 mz_v121 rfl rfl rfl rfl rfl ⟨?_, rfl⟩ ?_
    · refine mz_go 8 (c' := (15, [some (.int 2), some (.int 0), some (.int 6)], [.int 1], m)) rfl ?_
      exact mz_ret rfl
    exact mz_ret rfl
  refine mz_go 3 (c' := (19, [some (.int 0), some (.int 2), some (.int 2), some (.int 0)], [.int 2, .int 0], m)) rfl ?_
  refine mz_doQ (R := mz_r66) (as := [.int 0, .int 2]) (rest := []) (r1 := some (.int 0)) (m1 := m) mz_t66 mz_v66 rfl rfl rfl rfl rfl ((kb_0_2 (m := m)).deep (by decide)) ?_
  refine mz_go 11 (c' := (11, [some (.int 0), some (.int 2), some (.int 0), some (.int 1)], [.int 0], m)) rfl ?_
  refine mz_doQ (R := mz_r114) (as := [.int 0]) (rest := []) (r1 := some (.int 1)) (m1 := m) mz_t114 mz_v114 rfl rfl rfl rfl rfl ⟨?_, rfl⟩ ?_
  · refine mz_go 3 (c' := (4, [some (.int 0)], [.int 6, .int 0, .int 0], m)) rfl ?_
    refine mz_doQ (R := mz_r121) (as := [.int 0, .int 0, .int 6]) (rest := []) (r1 := some (.int 1)) (m1 := m) mz_t121 mz_v121 rfl rfl rfl rfl rfl ⟨?_, rfl⟩ ?_
    · refine mz_go 8 (c' := (15, [some (.int 0), some (.int 0), some (.int 6)], [.int 1], m)) rfl ?_
      exact mz_ret rfl
    exact mz_ret rfl
  refine mz_go 3 (c' := (19, [some (.int 0), some (.int 2), some (.int 0), some (.int 1)], [.int 0, .int 0], m)) rfl ?_
  refine mz_doQ (R := mz_r66) (as := [.int 0, .int 0]) (rest := []) (r1 := some (.int 10)) (m1 := m) mz_t66 mz_v66 rfl rfl rfl rfl rfl ((kb_0_0 (m := m)).deep (by decide)) ?_
  refine mz_go 2 (c' := (26, [some (.int 0), some (.int 2), some (.int 0), some (.int 1)], [.int 0], m)) rfl ?_
  exact mz_ret rfl
set_option maxHeartbeats 4000000 in
set_option maxRecDepth 100000 in
theorem kh_0_3 {m : mz_M} : mz_Me 6 mz_r65 [.int 0, .int 3] m (some (.int 0)) m := by
  refine ⟨?_, rfl⟩
  refine mz_go 8 (c' := (11, [some (.int 0), some (.int 3), some (.int 3), some (.int 0)], [.int 3], m)) rfl ?_
  refine mz_doQ (R := mz_r114) (as := [.int 3]) (rest := []) (r1 := some (.int 1)) (m1 := m) mz_t114 mz_v114 rfl rfl rfl rfl rfl ⟨?_, rfl⟩ ?_
  · refine mz_go 3 (c' := (4, [some (.int 3)], [.int 6, .int 0, .int 3], m)) rfl ?_
    refine mz_doQ (R := mz_r121) (as := [.int 3, .int 0, .int 6]) (rest := []) (r1 := some (.int 1)) (m1 := m) mz_t121 mz_v121 rfl rfl rfl rfl rfl ⟨?_, rfl⟩ ?_
    · refine mz_go 8 (c' := (15, [some (.int 3), some (.int 0), some (.int 6)], [.int 1], m)) rfl ?_
      exact mz_ret rfl
    exact mz_ret rfl
  refine mz_go 3 (c' := (19, [some (.int 0), some (.int 3), some (.int 3), some (.int 0)], [.int 3, .int 0], m)) rfl ?_
  refine mz_doQ (R := mz_r66) (as := [.int 0, .int 3]) (rest := []) (r1 := some (.int 0)) (m1 := m) mz_t66 mz_v66 rfl rfl rfl rfl rfl ((kb_0_3 (m := m)).deep (by decide)) ?_
  refine mz_go 11 (c' := (11, [some (.int 0), some (.int 3), some (.int 0), some (.int 1)], [.int 0], m)) rfl ?_
  refine mz_doQ (R := mz_r114) (as := [.int 0]) (rest := []) (r1 := some (.int 1)) (m1 := m) mz_t114 mz_v114 rfl rfl rfl rfl rfl ⟨?_, rfl⟩ ?_
  · refine mz_go 3 (c' := (4, [some (.int 0)], [.int 6, .int 0, .int 0], m)) rfl ?_
    refine mz_doQ (R := mz_r121) (as := [.int 0, .int 0, .int 6]) (rest := []) (r1 := some (.int 1)) (m1 := m) mz_t121 mz_v121 rfl rfl rfl rfl rfl ⟨?_, rfl⟩ ?_
    · refine mz_go 8 (c' := (15, [some (.int 0), some (.int 0), some (.int 6)], [.int 1], m)) rfl ?_
      exact mz_ret rfl
    exact mz_ret rfl
  refine mz_go 3 (c' := (19, [some (.int 0), some (.int 3), some (.int 0), some (.int 1)], [.int 0, .int 0], m)) rfl ?_
  refine mz_doQ (R := mz_r66) (as := [.int 0, .int 0]) (rest := []) (r1 := some (.int 10)) (m1 := m) mz_t66 mz_v66 rfl rfl rfl rfl rfl ((kb_0_0 (m := m)).deep (by decide)) ?_
  refine mz_go 2 (c' := (26, [some (.int 0), some (.int 3), some (.int 0), some (.int 1)], [.int 0], m)) rfl ?_
  exact mz_ret rfl
set_option maxHeartbeats 4000000 in
set_option maxRecDepth 100000 in
theorem kh_0_4 {m : mz_M} : mz_Me 6 mz_r65 [.int 0, .int 4] m (some (.int 4)) m := by
  refine ⟨?_, rfl⟩
  refine mz_go 8 (c' := (11, [some (.int 0), some (.int 4), some (.int 4), some (.int 0)], [.int 4], m)) rfl ?_
  refine mz_doQ (R := mz_r114) (as := [.int 4]) (rest := []) (r1 := some (.int 1)) (m1 := m) mz_t114 mz_v114 rfl rfl rfl rfl rfl ⟨?_, rfl⟩ ?_
  · refine mz_go 3 (c' := (4, [some (.int 4)], [.int 6, .int 0, .int 4], m)) rfl ?_
    refine mz_doQ (R := mz_r121) (as := [.int 4, .int 0, .int 6]) (rest := []) (r1 := some (.int 1)) (m1 := m) mz_t121 mz_v121 rfl rfl rfl rfl rfl ⟨?_, rfl⟩ ?_
    · refine mz_go 8 (c' := (15, [some (.int 4), some (.int 0), some (.int 6)], [.int 1], m)) rfl ?_
      exact mz_ret rfl
    exact mz_ret rfl
  refine mz_go 3 (c' := (19, [some (.int 0), some (.int 4), some (.int 4), some (.int 0)], [.int 4, .int 0], m)) rfl ?_
  refine mz_doQ (R := mz_r66) (as := [.int 0, .int 4]) (rest := []) (r1 := some (.int 50)) (m1 := m) mz_t66 mz_v66 rfl rfl rfl rfl rfl ((kb_0_4 (m := m)).deep (by decide)) ?_
  refine mz_go 2 (c' := (26, [some (.int 0), some (.int 4), some (.int 4), some (.int 0)], [.int 4], m)) rfl ?_
  exact mz_ret rfl
set_option maxHeartbeats 4000000 in
set_option maxRecDepth 100000 in
theorem kh_0_5 {m : mz_M} : mz_Me 6 mz_r65 [.int 0, .int 5] m (some (.int 0)) m := by
  refine ⟨?_, rfl⟩
  refine mz_go 8 (c' := (11, [some (.int 0), some (.int 5), some (.int 5), some (.int 0)], [.int 5], m)) rfl ?_
  refine mz_doQ (R := mz_r114) (as := [.int 5]) (rest := []) (r1 := some (.int 1)) (m1 := m) mz_t114 mz_v114 rfl rfl rfl rfl rfl ⟨?_, rfl⟩ ?_
  · refine mz_go 3 (c' := (4, [some (.int 5)], [.int 6, .int 0, .int 5], m)) rfl ?_
    refine mz_doQ (R := mz_r121) (as := [.int 5, .int 0, .int 6]) (rest := []) (r1 := some (.int 1)) (m1 := m) mz_t121 mz_v121 rfl rfl rfl rfl rfl ⟨?_, rfl⟩ ?_
    · refine mz_go 8 (c' := (15, [some (.int 5), some (.int 0), some (.int 6)], [.int 1], m)) rfl ?_
      exact mz_ret rfl
    exact mz_ret rfl
  refine mz_go 3 (c' := (19, [some (.int 0), some (.int 5), some (.int 5), some (.int 0)], [.int 5, .int 0], m)) rfl ?_
  refine mz_doQ (R := mz_r66) (as := [.int 0, .int 5]) (rest := []) (r1 := some (.int 0)) (m1 := m) mz_t66 mz_v66 rfl rfl rfl rfl rfl ((kb_0_5 (m := m)).deep (by decide)) ?_
  refine mz_go 11 (c' := (11, [some (.int 0), some (.int 5), some (.int 3), some (.int 1)], [.int 3], m)) rfl ?_
  refine mz_doQ (R := mz_r114) (as := [.int 3]) (rest := []) (r1 := some (.int 1)) (m1 := m) mz_t114 mz_v114 rfl rfl rfl rfl rfl ⟨?_, rfl⟩ ?_
  · refine mz_go 3 (c' := (4, [some (.int 3)], [.int 6, .int 0, .int 3], m)) rfl ?_
    refine mz_doQ (R := mz_r121) (as := [.int 3, .int 0, .int 6]) (rest := []) (r1 := some (.int 1)) (m1 := m) mz_t121 mz_v121 rfl rfl rfl rfl rfl ⟨?_, rfl⟩ ?_
    · refine mz_go 8 (c' := (15, [some (.int 3), some (.int 0), some (.int 6)], [.int 1], m)) rfl ?_
      exact mz_ret rfl
    exact mz_ret rfl
  refine mz_go 3 (c' := (19, [some (.int 0), some (.int 5), some (.int 3), some (.int 1)], [.int 3, .int 0], m)) rfl ?_
  refine mz_doQ (R := mz_r66) (as := [.int 0, .int 3]) (rest := []) (r1 := some (.int 0)) (m1 := m) mz_t66 mz_v66 rfl rfl rfl rfl rfl ((kb_0_3 (m := m)).deep (by decide)) ?_
  refine mz_go 11 (c' := (11, [some (.int 0), some (.int 5), some (.int 0), some (.int 2)], [.int 0], m)) rfl ?_
  refine mz_doQ (R := mz_r114) (as := [.int 0]) (rest := []) (r1 := some (.int 1)) (m1 := m) mz_t114 mz_v114 rfl rfl rfl rfl rfl ⟨?_, rfl⟩ ?_
  · refine mz_go 3 (c' := (4, [some (.int 0)], [.int 6, .int 0, .int 0], m)) rfl ?_
    refine mz_doQ (R := mz_r121) (as := [.int 0, .int 0, .int 6]) (rest := []) (r1 := some (.int 1)) (m1 := m) mz_t121 mz_v121 rfl rfl rfl rfl rfl ⟨?_, rfl⟩ ?_
    · refine mz_go 8 (c' := (15, [some (.int 0), some (.int 0), some (.int 6)], [.int 1], m)) rfl ?_
      exact mz_ret rfl
    exact mz_ret rfl
  refine mz_go 3 (c' := (19, [some (.int 0), some (.int 5), some (.int 0), some (.int 2)], [.int 0, .int 0], m)) rfl ?_
  refine mz_doQ (R := mz_r66) (as := [.int 0, .int 0]) (rest := []) (r1 := some (.int 10)) (m1 := m) mz_t66 mz_v66 rfl rfl rfl rfl rfl ((kb_0_0 (m := m)).deep (by decide)) ?_
  refine mz_go 2 (c' := (26, [some (.int 0), some (.int 5), some (.int 0), some (.int 2)], [.int 0], m)) rfl ?_
  exact mz_ret rfl
set_option maxHeartbeats 4000000 in
set_option maxRecDepth 100000 in
theorem kh_0_6 {m : mz_M} : mz_Me 6 mz_r65 [.int 0, .int 6] m (some (.int 6)) m := by
  refine ⟨?_, rfl⟩
  refine mz_go 8 (c' := (11, [some (.int 0), some (.int 6), some (.int 6), some (.int 0)], [.int 6], m)) rfl ?_
  refine mz_doQ (R := mz_r114) (as := [.int 6]) (rest := []) (r1 := some (.int 1)) (m1 := m) mz_t114 mz_v114 rfl rfl rfl rfl rfl ⟨?_, rfl⟩ ?_
  · refine mz_go 3 (c' := (4, [some (.int 6)], [.int 6, .int 0, .int 6], m)) rfl ?_
    refine mz_doQ (R := mz_r121) (as := [.int 6, .int 0, .int 6]) (rest := []) (r1 := some (.int 1)) (m1 := m) mz_t121 mz_v121 rfl rfl rfl rfl rfl ⟨?_, rfl⟩ ?_
    · refine mz_go 8 (c' := (15, [some (.int 6), some (.int 0), some (.int 6)], [.int 1], m)) rfl ?_
      exact mz_ret rfl
    exact mz_ret rfl
  refine mz_go 3 (c' := (19, [some (.int 0), some (.int 6), some (.int 6), some (.int 0)], [.int 6, .int 0], m)) rfl ?_
  refine mz_doQ (R := mz_r66) (as := [.int 0, .int 6]) (rest := []) (r1 := some (.int 71)) (m1 := m) mz_t66 mz_v66 rfl rfl rfl rfl rfl ((kb_0_6 (m := m)).deep (by decide)) ?_
  refine mz_go 2 (c' := (26, [some (.int 0), some (.int 6), some (.int 6), some (.int 0)], [.int 6], m)) rfl ?_
  exact mz_ret rfl
set_option maxHeartbeats 4000000 in
set_option maxRecDepth 100000 in
theorem kh_1_0 {m : mz_M} : mz_Me 6 mz_r65 [.int 1, .int 0] m (some (.int 0)) m := by
  refine ⟨?_, rfl⟩
  refine mz_go 8 (c' := (11, [some (.int 1), some (.int 0), some (.int 0), some (.int 0)], [.int 0], m)) rfl ?_
  refine mz_doQ (R := mz_r114) (as := [.int 0]) (rest := []) (r1 := some (.int 1)) (m1 := m) mz_t114 mz_v114 rfl rfl rfl rfl rfl ⟨?_, rfl⟩ ?_
  · refine mz_go 3 (c' := (4, [some (.int 0)], [.int 6, .int 0, .int 0], m)) rfl ?_
    refine mz_doQ (R := mz_r121) (as := [.int 0, .int 0, .int 6]) (rest := []) (r1 := some (.int 1)) (m1 := m) mz_t121 mz_v121 rfl rfl rfl rfl rfl ⟨?_, rfl⟩ ?_
    · refine mz_go 8 (c' := (15, [some (.int 0), some (.int 0), some (.int 6)], [.int 1], m)) rfl ?_
      exact mz_ret rfl
    exact mz_ret rfl
  refine mz_go 3 (c' := (19, [some (.int 1), some (.int 0), some (.int 0), some (.int 0)], [.int 0, .int 1], m)) rfl ?_
  refine mz_doQ (R := mz_r66) (as := [.int 1, .int 0]) (rest := []) (r1 := some (.int 11)) (m1 := m) mz_t66 mz_v66 rfl rfl rfl rfl rfl ((kb_1_0 (m := m)).deep (by decide)) ?_
  refine mz_go 2 (c' := (26, [some (.int 1), some (.int 0), some (.int 0), some (.int 0)], [.int 0], m)) rfl ?_
  exact mz_ret rfl
set_option maxHeartbeats 4000000 in
set_option maxRecDepth 100000 in
theorem kh_1_1 {m : mz_M} : mz_Me 6 mz_r65 [.int 1, .int 1] m (some (.int 0)) m := by
  refine ⟨?_, rfl⟩
  refine mz_go 8 (c' := (11, [some (.int 1), some (.int 1), some (.int 1), some (.int 0)], [.int 1], m)) rfl ?_
  refine mz_doQ (R := mz_r114) (as := [.int 1]) (rest := []) (r1 := some (.int 1)) (m1 := m) mz_t114 mz_v114 rfl rfl rfl rfl rfl ⟨?_, rfl⟩ ?_
  · refine mz_go 3 (c' := (4, [some (.int 1)], [.int 6, .int 0, .int 1], m)) rfl ?_
    refine mz_doQ (R := mz_r121) (as := [.int 1, .int 0, .int 6]) (rest := []) (r1 := some (.int 1)) (m1 := m) mz_t121 mz_v121 rfl rfl rfl rfl rfl ⟨?_, rfl⟩ ?_
    · refine mz_go 8 (c' := (15, [some (.int 1), some (.int 0), some (.int 6)], [.int 1], m)) rfl ?_
      exact mz_ret rfl
    exact mz_ret rfl
  refine mz_go 3 (c' := (19, [some (.int 1), some (.int 1), some (.int 1), some (.int 0)], [.int 1, .int 1], m)) rfl ?_
  refine mz_doQ (R := mz_r66) (as := [.int 1, .int 1]) (rest := []) (r1 := some (.int 0)) (m1 := m) mz_t66 mz_v66 rfl rfl rfl rfl rfl ((kb_1_1 (m := m)).deep (by decide)) ?_
  refine mz_go 11 (c' := (11, [some (.int 1), some (.int 1), some (.int 0), some (.int 1)], [.int 0], m)) rfl ?_
  refine mz_doQ (R := mz_r114) (as := [.int 0]) (rest := []) (r1 := some (.int 1)) (m1 := m) mz_t114 mz_v114 rfl rfl rfl rfl rfl ⟨?_, rfl⟩ ?_
  · refine mz_go 3 (c' := (4, [some (.int 0)], [.int 6, .int 0, .int 0], m)) rfl ?_
    refine mz_doQ (R := mz_r121) (as := [.int 0, .int 0, .int 6]) (rest := []) (r1 := some (.int 1)) (m1 := m) mz_t121 mz_v121 rfl rfl rfl rfl rfl ⟨?_, rfl⟩ ?_
    · refine mz_go 8 (c' := (15, [some (.int 0), some (.int 0), some (.int 6)], [.int 1], m)) rfl ?_
      exact mz_ret rfl
    exact mz_ret rfl
  refine mz_go 3 (c' := (19, [some (.int 1), some (.int 1), some (.int 0), some (.int 1)], [.int 0, .int 1], m)) rfl ?_
  refine mz_doQ (R := mz_r66) (as := [.int 1, .int 0]) (rest := []) (r1 := some (.int 11)) (m1 := m) mz_t66 mz_v66 rfl rfl rfl rfl rfl ((kb_1_0 (m := m)).deep (by decide)) ?_
  refine mz_go 2 (c' := (26, [some (.int 1), some (.int 1), some (.int 0), some (.int 1)], [.int 0], m)) rfl ?_
  exact mz_ret rfl
set_option maxHeartbeats 4000000 in
set_option maxRecDepth 100000 in
theorem kh_1_2 {m : mz_M} : mz_Me 6 mz_r65 [.int 1, .int 2] m (some (.int 2)) m := by
  refine ⟨?_, rfl⟩
  refine mz_go 8 (c' := (11, [some (.int 1), some (.int 2), some (.int 2), some (.int 0)], [.int 2], m)) rfl ?_
  refine mz_doQ (R := mz_r114) (as := [.int 2]) (rest := []) (r1 := some (.int 1)) (m1 := m) mz_t114 mz_v114 rfl rfl rfl rfl rfl ⟨?_, rfl⟩ ?_
  · refine mz_go 3 (c' := (4, [some (.int 2)], [.int 6, .int 0, .int 2], m)) rfl ?_
    refine mz_doQ (R := mz_r121) (as := [.int 2, .int 0, .int 6]) (rest := []) (r1 := some (.int 1)) (m1 := m) mz_t121 mz_v121 rfl rfl rfl rfl rfl ⟨?_, rfl⟩ ?_
    · refine mz_go 8 (c' := (15, [some (.int 2), some (.int 0), some (.int 6)], [.int 1], m)) rfl ?_
      exact mz_ret rfl
    exact mz_ret rfl
  refine mz_go 3 (c' := (19, [some (.int 1), some (.int 2), some (.int 2), some (.int 0)], [.int 2, .int 1], m)) rfl ?_
  refine mz_doQ (R := mz_r66) (as := [.int 1, .int 2]) (rest := []) (r1 := some (.int 30)) (m1 := m) mz_t66 mz_v66 rfl rfl rfl rfl rfl ((kb_1_2 (m := m)).deep (by decide)) ?_
  refine mz_go 2 (c' := (26, [some (.int 1), some (.int 2), some (.int 2), some (.int 0)], [.int 2], m)) rfl ?_
  exact mz_ret rfl
set_option maxHeartbeats 4000000 in
set_option maxRecDepth 100000 in
theorem kh_1_3 {m : mz_M} : mz_Me 6 mz_r65 [.int 1, .int 3] m (some (.int 0)) m := by
  refine ⟨?_, rfl⟩
  refine mz_go 8 (c' := (11, [some (.int 1), some (.int 3), some (.int 3), some (.int 0)], [.int 3], m)) rfl ?_
  refine mz_doQ (R := mz_r114) (as := [.int 3]) (rest := []) (r1 := some (.int 1)) (m1 := m) mz_t114 mz_v114 rfl rfl rfl rfl rfl ⟨?_, rfl⟩ ?_
  · refine mz_go 3 (c' := (4, [some (.int 3)], [.int 6, .int 0, .int 3], m)) rfl ?_
    refine mz_doQ (R := mz_r121) (as := [.int 3, .int 0, .int 6]) (rest := []) (r1 := some (.int 1)) (m1 := m) mz_t121 mz_v121 rfl rfl rfl rfl rfl ⟨?_, rfl⟩ ?_
    · refine mz_go 8 (c' := (15, [some (.int 3), some (.int 0), some (.int 6)], [.int 1], m)) rfl ?_
      exact mz_ret rfl
    exact mz_ret rfl
  refine mz_go 3 (c' := (19, [some (.int 1), some (.int 3), some (.int 3), some (.int 0)], [.int 3, .int 1], m)) rfl ?_
  refine mz_doQ (R := mz_r66) (as := [.int 1, .int 3]) (rest := []) (r1 := some (.int 0)) (m1 := m) mz_t66 mz_v66 rfl rfl rfl rfl rfl ((kb_1_3 (m := m)).deep (by decide)) ?_
  refine mz_go 11 (c' := (11, [some (.int 1), some (.int 3), some (.int 0), some (.int 1)], [.int 0], m)) rfl ?_
  refine mz_doQ (R := mz_r114) (as := [.int 0]) (rest := []) (r1 := some (.int 1)) (m1 := m) mz_t114 mz_v114 rfl rfl rfl rfl rfl ⟨?_, rfl⟩ ?_
  · refine mz_go 3 (c' := (4, [some (.int 0)], [.int 6, .int 0, .int 0], m)) rfl ?_
    refine mz_doQ (R := mz_r121) (as := [.int 0, .int 0, .int 6]) (rest := []) (r1 := some (.int 1)) (m1 := m) mz_t121 mz_v121 rfl rfl rfl rfl rfl ⟨?_, rfl⟩ ?_
    · refine mz_go 8 (c' := (15, [some (.int 0), some (.int 0), some (.int 6)], [.int 1], m)) rfl ?_
      exact mz_ret rfl
    exact mz_ret rfl
  refine mz_go 3 (c' := (19, [some (.int 1), some (.int 3), some (.int 0), some (.int 1)], [.int 0, .int 1], m)) rfl ?_
  refine mz_doQ (R := mz_r66) (as := [.int 1, .int 0]) (rest := []) (r1 := some (.int 11)) (m1 := m) mz_t66 mz_v66 rfl rfl rfl rfl rfl ((kb_1_0 (m := m)).deep (by decide)) ?_
  refine mz_go 2 (c' := (26, [some (.int 1), some (.int 3), some (.int 0), some (.int 1)], [.int 0], m)) rfl ?_
  exact mz_ret rfl
set_option maxHeartbeats 4000000 in
set_option maxRecDepth 100000 in
theorem kh_1_4 {m : mz_M} : mz_Me 6 mz_r65 [.int 1, .int 4] m (some (.int 0)) m := by
  refine ⟨?_, rfl⟩
  refine mz_go 8 (c' := (11, [some (.int 1), some (.int 4), some (.int 4), some (.int 0)], [.int 4], m)) rfl ?_
  refine mz_doQ (R := mz_r114) (as := [.int 4]) (rest := []) (r1 := some (.int 1)) (m1 := m) mz_t114 mz_v114 rfl rfl rfl rfl rfl ⟨?_, rfl⟩ ?_
  · refine mz_go 3 (c' := (4, [some (.int 4)], [.int 6, .int 0, .int 4], m)) rfl ?_
    refine mz_doQ (R := mz_r121) (as := [.int 4, .int 0, .int 6]) (rest := []) (r1 := some (.int 1)) (m1 := m) mz_t121 mz_v121 rfl rfl rfl rfl rfl ⟨?_, rfl⟩ ?_
    · refine mz_go 8 (c' := (15, [some (.int 4), some (.int 0), some (.int 6)], [.int 1], m)) rfl ?_
      exact mz_ret rfl
    exact mz_ret rfl
  refine mz_go 3 (c' := (19, [some (.int 1), some (.int 4), some (.int 4), some (.int 0)], [.int 4, .int 1], m)) rfl ?_
  refine mz_doQ (R := mz_r66) (as := [.int 1, .int 4]) (rest := []) (r1 := some (.int 0)) (m1 := m) mz_t66 mz_v66 rfl rfl rfl rfl rfl ((kb_1_4 (m := m)).deep (by decide)) ?_
  refine mz_go 11 (c' := (11, [some (.int 1), some (.int 4), some (.int 1), some (.int 1)], [.int 1], m)) rfl ?_
  refine mz_doQ (R := mz_r114) (as := [.int 1]) (rest := []) (r1 := some (.int 1)) (m1 := m) mz_t114 mz_v114 rfl rfl rfl rfl rfl ⟨?_, rfl⟩ ?_
  · refine mz_go 3 (c' := (4, [some (.int 1)], [.int 6, .int 0, .int 1], m)) rfl ?_
    refine mz_doQ (R := mz_r121) (as := [.int 1, .int 0, .int 6]) (rest := []) (r1 := some (.int 1)) (m1 := m) mz_t121 mz_v121 rfl rfl rfl rfl rfl ⟨?_, rfl⟩ ?_
    · refine mz_go 8 (c' := (15, [some (.int 1), some (.int 0), some (.int 6)], [.int 1], m)) rfl ?_
      exact mz_ret rfl
    exact mz_ret rfl
  refine mz_go 3 (c' := (19, [some (.int 1), some (.int 4), some (.int 1), some (.int 1)], [.int 1, .int 1], m)) rfl ?_
  refine mz_doQ (R := mz_r66) (as := [.int 1, .int 1]) (rest := []) (r1 := some (.int 0)) (m1 := m) mz_t66 mz_v66 rfl rfl rfl rfl rfl ((kb_1_1 (m := m)).deep (by decide)) ?_
  refine mz_go 11 (c' := (11, [some (.int 1), some (.int 4), some (.int 0), some (.int 2)], [.int 0], m)) rfl ?_
  refine mz_doQ (R := mz_r114) (as := [.int 0]) (rest := []) (r1 := some (.int 1)) (m1 := m) mz_t114 mz_v114 rfl rfl rfl rfl rfl ⟨?_, rfl⟩ ?_
  · refine mz_go 3 (c' := (4, [some (.int 0)], [.int 6, .int 0, .int 0], m)) rfl ?_
    refine mz_doQ (R := mz_r121) (as := [.int 0, .int 0, .int 6]) (rest := []) (r1 := some (.int 1)) (m1 := m) mz_t121 mz_v121 rfl rfl rfl rfl rfl ⟨?_, rfl⟩ ?_
    · refine mz_go 8 (c' := (15, [some (.int 0), some (.int 0), some (.int 6)], [.int 1], m)) rfl ?_
      exact mz_ret rfl
    exact mz_ret rfl
  refine mz_go 3 (c' := (19, [some (.int 1), some (.int 4), some (.int 0), some (.int 2)], [.int 0, .int 1], m)) rfl ?_
  refine mz_doQ (R := mz_r66) (as := [.int 1, .int 0]) (rest := []) (r1 := some (.int 11)) (m1 := m) mz_t66 mz_v66 rfl rfl rfl rfl rfl ((kb_1_0 (m := m)).deep (by decide)) ?_
  refine mz_go 2 (c' := (26, [some (.int 1), some (.int 4), some (.int 0), some (.int 2)], [.int 0], m)) rfl ?_
  exact mz_ret rfl
set_option maxHeartbeats 4000000 in
set_option maxRecDepth 100000 in
theorem kh_1_5 {m : mz_M} : mz_Me 6 mz_r65 [.int 1, .int 5] m (some (.int 5)) m := by
  refine ⟨?_, rfl⟩
  refine mz_go 8 (c' := (11, [some (.int 1), some (.int 5), some (.int 5), some (.int 0)], [.int 5], m)) rfl ?_
  refine mz_doQ (R := mz_r114) (as := [.int 5]) (rest := []) (r1 := some (.int 1)) (m1 := m) mz_t114 mz_v114 rfl rfl rfl rfl rfl ⟨?_, rfl⟩ ?_
  · refine mz_go 3 (c' := (4, [some (.int 5)], [.int 6, .int 0, .int 5], m)) rfl ?_
    refine mz_doQ (R := mz_r121) (as := [.int 5, .int 0, .int 6]) (rest := []) (r1 := some (.int 1)) (m1 := m) mz_t121 mz_v121 rfl rfl rfl rfl rfl ⟨?_, rfl⟩ ?_
    · refine mz_go 8 (c' := (15, [some (.int 5), some (.int 0), some (.int 6)], [.int 1], m)) rfl ?_
      exact mz_ret rfl
    exact mz_ret rfl
  refine mz_go 3 (c' := (19, [some (.int 1), some (.int 5), some (.int 5), some (.int 0)], [.int 5, .int 1], m)) rfl ?_
  refine mz_doQ (R := mz_r66) (as := [.int 1, .int 5]) (rest := []) (r1 := some (.int 61)) (m1 := m) mz_t66 mz_v66 rfl rfl rfl rfl rfl ((kb_1_5 (m := m)).deep (by decide)) ?_
  refine mz_go 2 (c' := (26, [some (.int 1), some (.int 5), some (.int 5), some (.int 0)], [.int 5], m)) rfl ?_
  exact mz_ret rfl
set_option maxHeartbeats 4000000 in
set_option maxRecDepth 100000 in
theorem kh_1_6 {m : mz_M} : mz_Me 6 mz_r65 [.int 1, .int 6] m (some (.int 6)) m := by
  refine ⟨?_, rfl⟩
  refine mz_go 8 (c' := (11, [some (.int 1), some (.int 6), some (.int 6), some (.int 0)], [.int 6], m)) rfl ?_
  refine mz_doQ (R := mz_r114) (as := [.int 6]) (rest := []) (r1 := some (.int 1)) (m1 := m) mz_t114 mz_v114 rfl rfl rfl rfl rfl ⟨?_, rfl⟩ ?_
  · refine mz_go 3 (c' := (4, [some (.int 6)], [.int 6, .int 0, .int 6], m)) rfl ?_
    refine mz_doQ (R := mz_r121) (as := [.int 6, .int 0, .int 6]) (rest := []) (r1 := some (.int 1)) (m1 := m) mz_t121 mz_v121 rfl rfl rfl rfl rfl ⟨?_, rfl⟩ ?_
    · refine mz_go 8 (c' := (15, [some (.int 6), some (.int 0), some (.int 6)], [.int 1], m)) rfl ?_
      exact mz_ret rfl
    exact mz_ret rfl
  refine mz_go 3 (c' := (19, [some (.int 1), some (.int 6), some (.int 6), some (.int 0)], [.int 6, .int 1], m)) rfl ?_
  refine mz_doQ (R := mz_r66) (as := [.int 1, .int 6]) (rest := []) (r1 := some (.int 70)) (m1 := m) mz_t66 mz_v66 rfl rfl rfl rfl rfl ((kb_1_6 (m := m)).deep (by decide)) ?_
  refine mz_go 2 (c' := (26, [some (.int 1), some (.int 6), some (.int 6), some (.int 0)], [.int 6], m)) rfl ?_
  exact mz_ret rfl
set_option maxHeartbeats 4000000 in
set_option maxRecDepth 100000 in
theorem kh_2_0 {m : mz_M} : mz_Me 6 mz_r65 [.int 2, .int 0] m (some (.int 0)) m := by
  refine ⟨?_, rfl⟩
  refine mz_go 8 (c' := (11, [some (.int 2), some (.int 0), some (.int 0), some (.int 0)], [.int 0], m)) rfl ?_
  refine mz_doQ (R := mz_r114) (as := [.int 0]) (rest := []) (r1 := some (.int 1)) (m1 := m) mz_t114 mz_v114 rfl rfl rfl rfl rfl ⟨?_, rfl⟩ ?_
  · refine mz_go 3 (c' := (4, [some (.int 0)], [.int 6, .int 0, .int 0], m)) rfl ?_
    refine mz_doQ (R := mz_r121) (as := [.int 0, .int 0, .int 6]) (rest := []) (r1 := some (.int 1)) (m1 := m) mz_t121 mz_v121 rfl rfl rfl rfl rfl ⟨?_, rfl⟩ ?_
    · refine mz_go 8 (c' := (15, [some (.int 0), some (.int 0), some (.int 6)], [.int 1], m)) rfl ?_
      exact mz_ret rfl
    exact mz_ret rfl
  refine mz_go 3 (c' := (19, [some (.int 2), some (.int 0), some (.int 0), some (.int 0)], [.int 0, .int 2], m)) rfl ?_
  refine mz_doQ (R := mz_r66) (as := [.int 2, .int 0]) (rest := []) (r1 := some (.int 12)) (m1 := m) mz_t66 mz_v66 rfl rfl rfl rfl rfl ((kb_2_0 (m := m)).deep (by decide)) ?_
  refine mz_go 2 (c' := (26, [some (.int 2), some (.int 0), some (.int 0), some (.int 0)], [.int 0], m)) rfl ?_
  exact mz_ret rfl
set_option maxHeartbeats 4000000 in
set_option maxRecDepth 100000 in
theorem kh_2_1 {m : mz_M} : mz_Me 6 mz_r65 [.int 2, .int 1] m (some (.int 1)) m := by
  refine ⟨?_, rfl⟩
  refine mz_go 8 (c' := (11, [some (.int 2), some (.int 1), some (.int 1), some (.int 0)], [.int 1], m)) rfl ?_
  refine mz_doQ (R := mz_r114) (as := [.int 1]) (rest := []) (r1 := some (.int 1)) (m1 := m) mz_t114 mz_v114 rfl rfl rfl rfl rfl ⟨?_, rfl⟩ ?_
  · refine mz_go 3 (c' := (4, [some (.int 1)], [.int 6, .int 0, .int 1], m)) rfl ?_
    refine mz_doQ (R := mz_r121) (as := [.int 1, .int 0, .int 6]) (rest := []) (r1 := some (.int 1)) (m1 := m) mz_t121 mz_v121 rfl rfl rfl rfl rfl ⟨?_, rfl⟩ ?_
    · refine mz_go 8 (c' := (15, [some (.int 1), some (.int 0), some (.int 6)], [.int 1], m)) rfl ?_
      exact mz_ret rfl
    exact mz_ret rfl
  refine mz_go 3 (c' := (19, [some (.int 2), some (.int 1), some (.int 1), some (.int 0)], [.int 1, .int 2], m)) rfl ?_
  refine mz_doQ (R := mz_r66) (as := [.int 2, .int 1]) (rest := []) (r1 := some (.int 21)) (m1 := m) mz_t66 mz_v66 rfl rfl rfl rfl rfl ((kb_2_1 (m := m)).deep (by decide)) ?_
  refine mz_go 2 (c' := (26, [some (.int 2), some (.int 1), some (.int 1), some (.int 0)], [.int 1], m)) rfl ?_
  exact mz_ret rfl
set_option maxHeartbeats 4000000 in
set_option maxRecDepth 100000 in
theorem kh_2_2 {m : mz_M} : mz_Me 6 mz_r65 [.int 2, .int 2] m (some (.int 0)) m := by
  refine ⟨?_, rfl⟩
  refine mz_go 8 (c' := (11, [some (.int 2), some (.int 2), some (.int 2), some (.int 0)], [.int 2], m)) rfl ?_
  refine mz_doQ (R := mz_r114) (as := [.int 2]) (rest := []) (r1 := some (.int 1)) (m1 := m) mz_t114 mz_v114 rfl rfl rfl rfl rfl ⟨?_, rfl⟩ ?_
  · refine mz_go 3 (c' := (4, [some (.int 2)], [.int 6, .int 0, .int 2], m)) rfl ?_
    refine mz_doQ (R := mz_r121) (as := [.int 2, .int 0, .int 6]) (rest := []) (r1 := some (.int 1)) (m1 := m) mz_t121 mz_v121 rfl rfl rfl rfl rfl ⟨?_, rfl⟩ ?_
    · refine mz_go 8 (c' := (15, [some (.int 2), some (.int 0), some (.int 6)], [.int 1], m)) rfl ?_
      exact mz_ret rfl
    exact mz_ret rfl
  refine mz_go 3 (c' := (19, [some (.int 2), some (.int 2), some (.int 2), some (.int 0)], [.int 2, .int 2], m)) rfl ?_
  refine mz_doQ (R := mz_r66) (as := [.int 2, .int 2]) (rest := []) (r1 := some (.int 0)) (m1 := m) mz_t66 mz_v66 rfl rfl rfl rfl rfl ((kb_2_2 (m := m)).deep (by decide)) ?_
  refine mz_go 11 (c' := (11, [some (.int 2), some (.int 2), some (.int 0), some (.int 1)], [.int 0], m)) rfl ?_
  refine mz_doQ (R := mz_r114) (as := [.int 0]) (rest := []) (r1 := some (.int 1)) (m1 := m) mz_t114 mz_v114 rfl rfl rfl rfl rfl ⟨?_, rfl⟩ ?_
  · refine mz_go 3 (c' := (4, [some (.int 0)], [.int 6, .int 0, .int 0], m)) rfl ?_
    refine mz_doQ (R := mz_r121) (as := [.int 0, .int 0, .int 6]) (rest := []) (r1 := some (.int 1)) (m1 := m) mz_t121 mz_v121 rfl rfl rfl rfl rfl ⟨?_, rfl⟩ ?_
    · refine mz_go 8 (c' := (15, [some (.int 0), some (.int 0), some (.int 6)], [.int 1], m)) rfl ?_
      exact mz_ret rfl
    exact mz_ret rfl
  refine mz_go 3 (c' := (19, [some (.int 2), some (.int 2), some (.int 0), some (.int 1)], [.int 0, .int 2], m)) rfl ?_
  refine mz_doQ (R := mz_r66) (as := [.int 2, .int 0]) (rest := []) (r1 := some (.int 12)) (m1 := m) mz_t66 mz_v66 rfl rfl rfl rfl rfl ((kb_2_0 (m := m)).deep (by decide)) ?_
  refine mz_go 2 (c' := (26, [some (.int 2), some (.int 2), some (.int 0), some (.int 1)], [.int 0], m)) rfl ?_
  exact mz_ret rfl
set_option maxHeartbeats 4000000 in
set_option maxRecDepth 100000 in
theorem kh_2_3 {m : mz_M} : mz_Me 6 mz_r65 [.int 2, .int 3] m (some (.int 3)) m := by
  refine ⟨?_, rfl⟩
  refine mz_go 8 (c' := (11, [some (.int 2), some (.int 3), some (.int 3), some (.int 0)], [.int 3], m)) rfl ?_
  refine mz_doQ (R := mz_r114) (as := [.int 3]) (rest := []) (r1 := some (.int 1)) (m1 := m) mz_t114 mz_v114 rfl rfl rfl rfl rfl ⟨?_, rfl⟩ ?_
  · refine mz_go 3 (c' := (4, [some (.int 3)], [.int 6, .int 0, .int 3], m)) rfl ?_
    refine mz_doQ (R := mz_r121) (as := [.int 3, .int 0, .int 6]) (rest := []) (r1 := some (.int 1)) (m1 := m) mz_t121 mz_v121 rfl rfl rfl rfl rfl ⟨?_, rfl⟩ ?_
    · refine mz_go 8 (c' := (15, [some (.int 3), some (.int 0), some (.int 6)], [.int 1], m)) rfl ?_
      exact mz_ret rfl
    exact mz_ret rfl
  refine mz_go 3 (c' := (19, [some (.int 2), some (.int 3), some (.int 3), some (.int 0)], [.int 3, .int 2], m)) rfl ?_
  refine mz_doQ (R := mz_r66) (as := [.int 2, .int 3]) (rest := []) (r1 := some (.int 40)) (m1 := m) mz_t66 mz_v66 rfl rfl rfl rfl rfl ((kb_2_3 (m := m)).deep (by decide)) ?_
  refine mz_go 2 (c' := (26, [some (.int 2), some (.int 3), some (.int 3), some (.int 0)], [.int 3], m)) rfl ?_
  exact mz_ret rfl
set_option maxHeartbeats 4000000 in
set_option maxRecDepth 100000 in
theorem kh_2_4 {m : mz_M} : mz_Me 6 mz_r65 [.int 2, .int 4] m (some (.int 1)) m := by
  refine ⟨?_, rfl⟩
  refine mz_go 8 (c' := (11, [some (.int 2), some (.int 4), some (.int 4), some (.int 0)], [.int 4], m)) rfl ?_
  refine mz_doQ (R := mz_r114) (as := [.int 4]) (rest := []) (r1 := some (.int 1)) (m1 := m) mz_t114 mz_v114 rfl rfl rfl rfl rfl ⟨?_, rfl⟩ ?_
  · refine mz_go 3 (c' := (4, [some (.int 4)], [.int 6, .int 0, .int 4], m)) rfl ?_
    refine mz_doQ (R := mz_r121) (as := [.int 4, .int 0, .int 6]) (rest := []) (r1 := some (.int 1)) (m1 := m) mz_t121 mz_v121 rfl rfl rfl rfl rfl ⟨?_, rfl⟩ ?_
    · refine mz_go 8 (c' := (15, [some (.int 4), some (.int 0), some (.int 6)], [.int 1], m)) rfl ?_
      exact mz_ret rfl
    exact mz_ret rfl
  refine mz_go 3 (c' := (19, [some (.int 2), some (.int 4), some (.int 4), some (.int 0)], [.int 4, .int 2], m)) rfl ?_
  refine mz_doQ (R := mz_r66) (as := [.int 2, .int 4]) (rest := []) (r1 := some (.int 0)) (m1 := m) mz_t66 mz_v66 rfl rfl rfl rfl rfl ((kb_2_4 (m := m)).deep (by decide)) ?_
  refine mz_go 11 (c' := (11, [some (.int 2), some (.int 4), some (.int 1), some (.int 1)], [.int 1], m)) rfl ?_
  refine mz_doQ (R := mz_r114) (as := [.int 1]) (rest := []) (r1 := some (.int 1)) (m1 := m) mz_t114 mz_v114 rfl rfl rfl rfl rfl ⟨?_, rfl⟩ ?_
  · refine mz_go 3 (c' := (4, [some (.int 1)], [.int 6, .int 0, .int 1], m)) rfl ?_
    refine mz_doQ (R := mz_r121) (as := [.int 1, .int 0, .int 6]) (rest := []) (r1 := some (.int 1)) (m1 := m) mz_t121 mz_v121 rfl rfl rfl rfl rfl ⟨?_, rfl⟩ ?_
    · refine mz_go 8 (c' := (15, [some (.int 1), some (.int 0), some (.int 6)], [.int 1], m)) rfl ?_
      exact mz_ret rfl
    exact mz_ret rfl
  refine mz_go 3 (c' := (19, [some (.int 2), some (.int 4), some (.int 1), some (.int 1)], [.int 1, .int 2], m)) rfl ?_
  refine mz_doQ (R := mz_r66) (as := [.int 2, .int 1]) (rest := []) (r1 := some (.int 21)) (m1 := m) mz_t66 mz_v66 rfl rfl rfl rfl rfl ((kb_2_1 (m := m)).deep (by decide)) ?_
  refine mz_go 2 (c' := (26, [some (.int 2), some (.int 4), some (.int 1), some (.int 1)], [.int 1], m)) rfl ?_
  exact mz_ret rfl
set_option maxHeartbeats 4000000 in
set_option maxRecDepth 100000 in
theorem kh_2_5 {m : mz_M} : mz_Me 6 mz_r65 [.int 2, .int 5] m (some (.int 5)) m := by
  refine ⟨?_, rfl⟩
  refine mz_go 8 (c' := (11, [some (.int 2), some (.int 5), some (.int 5), some (.int 0)], [.int 5], m)) rfl ?_
  refine mz_doQ (R := mz_r114) (as := [.int 5]) (rest := []) (r1 := some (.int 1)) (m1 := m) mz_t114 mz_v114 rfl rfl rfl rfl rfl ⟨?_, rfl⟩ ?_
  · refine mz_go 3 (c' := (4, [some (.int 5)], [.int 6, .int 0, .int 5], m)) rfl ?_
    refine mz_doQ (R := mz_r121) (as := [.int 5, .int 0, .int 6]) (rest := []) (r1 := some (.int 1)) (m1 := m) mz_t121 mz_v121 rfl rfl rfl rfl rfl ⟨?_, rfl⟩ ?_
    · refine mz_go 8 (c' := (15, [some (.int 5), some (.int 0), some (.int 6)], [.int 1], m)) rfl ?_
      exact mz_ret rfl
    exact mz_ret rfl
  refine mz_go 3 (c' := (19, [some (.int 2), some (.int 5), some (.int 5), some (.int 0)], [.int 5, .int 2], m)) rfl ?_
  refine mz_doQ (R := mz_r66) (as := [.int 2, .int 5]) (rest := []) (r1 := some (.int 60)) (m1 := m) mz_t66 mz_v66 rfl rfl rfl rfl rfl ((kb_2_5 (m := m)).deep (by decide)) ?_
  refine mz_go 2 (c' := (26, [some (.int 2), some (.int 5), some (.int 5), some (.int 0)], [.int 5], m)) rfl ?_
  exact mz_ret rfl
set_option maxHeartbeats 4000000 in
set_option maxRecDepth 100000 in
theorem kh_2_6 {m : mz_M} : mz_Me 6 mz_r65 [.int 2, .int 6] m (some (.int 0)) m := by
  refine ⟨?_, rfl⟩
  refine mz_go 8 (c' := (11, [some (.int 2), some (.int 6), some (.int 6), some (.int 0)], [.int 6], m)) rfl ?_
  refine mz_doQ (R := mz_r114) (as := [.int 6]) (rest := []) (r1 := some (.int 1)) (m1 := m) mz_t114 mz_v114 rfl rfl rfl rfl rfl ⟨?_, rfl⟩ ?_
  · refine mz_go 3 (c' := (4, [some (.int 6)], [.int 6, .int 0, .int 6], m)) rfl ?_
    refine mz_doQ (R := mz_r121) (as := [.int 6, .int 0, .int 6]) (rest := []) (r1 := some (.int 1)) (m1 := m) mz_t121 mz_v121 rfl rfl rfl rfl rfl ⟨?_, rfl⟩ ?_
    · refine mz_go 8 (c' := (15, [some (.int 6), some (.int 0), some (.int 6)], [.int 1], m)) rfl ?_
      exact mz_ret rfl
    exact mz_ret rfl
  refine mz_go 3 (c' := (19, [some (.int 2), some (.int 6), some (.int 6), some (.int 0)], [.int 6, .int 2], m)) rfl ?_
  refine mz_doQ (R := mz_r66) (as := [.int 2, .int 6]) (rest := []) (r1 := some (.int 0)) (m1 := m) mz_t66 mz_v66 rfl rfl rfl rfl rfl ((kb_2_6 (m := m)).deep (by decide)) ?_
  refine mz_go 11 (c' := (11, [some (.int 2), some (.int 6), some (.int 2), some (.int 1)], [.int 2], m)) rfl ?_
  refine mz_doQ (R := mz_r114) (as := [.int 2]) (rest := []) (r1 := some (.int 1)) (m1 := m) mz_t114 mz_v114 rfl rfl rfl rfl rfl ⟨?_, rfl⟩ ?_
  · refine mz_go 3 (c' := (4, [some (.int 2)], [.int 6, .int 0, .int 2], m)) rfl ?_
    refine mz_doQ (R := mz_r121) (as := [.int 2, .int 0, .int 6]) (rest := []) (r1 := some (.int 1)) (m1 := m) mz_t121 mz_v121 rfl rfl rfl rfl rfl ⟨?_, rfl⟩ ?_
    · refine mz_go 8 (c' := (15, [some (.int 2), some (.int 0), some (.int 6)], [.int 1], m)) rfl ?_
      exact mz_ret rfl
    exact mz_ret rfl
  refine mz_go 3 (c' := (19, [some (.int 2), some (.int 6), some (.int 2), some (.int 1)], [.int 2, .int 2], m)) rfl ?_
  refine mz_doQ (R := mz_r66) (as := [.int 2, .int 2]) (rest := []) (r1 := some (.int 0)) (m1 := m) mz_t66 mz_v66 rfl rfl rfl rfl rfl ((kb_2_2 (m := m)).deep (by decide)) ?_
  refine mz_go 11 (c' := (11, [some (.int 2), some (.int 6), some (.int 0), some (.int 2)], [.int 0], m)) rfl ?_
  refine mz_doQ (R := mz_r114) (as := [.int 0]) (rest := []) (r1 := some (.int 1)) (m1 := m) mz_t114 mz_v114 rfl rfl rfl rfl rfl ⟨?_, rfl⟩ ?_
  · refine mz_go 3 (c' := (4, [some (.int 0)], [.int 6, .int 0, .int 0], m)) rfl ?_
    refine mz_doQ (R := mz_r121) (as := [.int 0, .int 0, .int 6]) (rest := []) (r1 := some (.int 1)) (m1 := m) mz_t121 mz_v121 rfl rfl rfl rfl rfl ⟨?_, rfl⟩ ?_
    · refine mz_go 8 (c' := (15, [some (.int 0), some (.int 0), some (.int 6)], [.int 1], m)) rfl ?_
      exact mz_ret rfl
    exact mz_ret rfl
  refine mz_go 3 (c' := (19, [some (.int 2), some (.int 6), some (.int 0), some (.int 2)], [.int 0, .int 2], m)) rfl ?_
  refine mz_doQ (R := mz_r66) (as := [.int 2, .int 0]) (rest := []) (r1 := some (.int 12)) (m1 := m) mz_t66 mz_v66 rfl rfl rfl rfl rfl ((kb_2_0 (m := m)).deep (by decide)) ?_
  refine mz_go 2 (c' := (26, [some (.int 2), some (.int 6), some (.int 0), some (.int 2)], [.int 0], m)) rfl ?_
  exact mz_ret rfl
set_option maxHeartbeats 4000000 in
set_option maxRecDepth 100000 in
theorem kh_3_0 {m : mz_M} : mz_Me 6 mz_r65 [.int 3, .int 0] m (some (.int 0)) m := by
  refine ⟨?_, rfl⟩
  refine mz_go 8 (c' := (11, [some (.int 3), some (.int 0), some (.int 0), some (.int 0)], [.int 0], m)) rfl ?_
  refine mz_doQ (R := mz_r114) (as := [.int 0]) (rest := []) (r1 := some (.int 1)) (m1 := m) mz_t114 mz_v114 rfl rfl rfl rfl rfl ⟨?_, rfl⟩ ?_
  · refine mz_go 3 (c' := (4, [some (.int 0)], [.int 6, .int 0, .int 0], m)) rfl ?_
    refine mz_doQ (R := mz_r121) (as := [.int 0, .int 0, .int 6]) (rest := []) (r1 := some (.int 1)) (m1 := m) mz_t121 mz_v121 rfl rfl rfl rfl rfl ⟨?_, rfl⟩ ?_
    · refine mz_go 8 (c' := (15, [some (.int 0), some (.int 0), some (.int 6)], [.int 1], m)) rfl ?_
      exact mz_ret rfl
    exact mz_ret rfl
  refine mz_go 3 (c' := (19, [some (.int 3), some (.int 0), some (.int 0), some (.int 0)], [.int 0, .int 3], m)) rfl ?_
  refine mz_doQ (R := mz_r66) (as := [.int 3, .int 0]) (rest := []) (r1 := some (.int 13)) (m1 := m) mz_t66 mz_v66 rfl rfl rfl rfl rfl ((kb_3_0 (m := m)).deep (by decide)) ?_
  refine mz_go 2 (c' := (26, [some (.int 3), some (.int 0), some (.int 0), some (.int 0)], [.int 0], m)) rfl ?_
  exact mz_ret rfl
set_option maxHeartbeats 4000000 in
set_option maxRecDepth 100000 in
theorem kh_3_1 {m : mz_M} : mz_Me 6 mz_r65 [.int 3, .int 1] m (some (.int 0)) m := by
  refine ⟨?_, rfl⟩
  refine mz_go 8 (c' := (11, [some (.int 3), some (.int 1), some (.int 1), some (.int 0)], [.int 1], m)) rfl ?_
  refine mz_doQ (R := mz_r114) (as := [.int 1]) (rest := []) (r1 := some (.int 1)) (m1 := m) mz_t114 mz_v114 rfl rfl rfl rfl rfl ⟨?_, rfl⟩ ?_
  · refine mz_go 3 (c' := (4, [some (.int 1)], [.int 6, .int 0, .int 1], m)) rfl ?_
    refine mz_doQ (R := mz_r121) (as := [.int 1, .int 0, .int 6]) (rest := []) (r1 := some (.int 1)) (m1 := m) mz_t121 mz_v121 rfl rfl rfl rfl rfl ⟨?_, rfl⟩ ?_
    · refine mz_go 8 (c' := (15, [some (.int 1), some (.int 0), some (.int 6)], [.int 1], m)) rfl ?_
      exact mz_ret rfl
    exact mz_ret rfl
  refine mz_go 3 (c' := (19, [some (.int 3), some (.int 1), some (.int 1), some (.int 0)], [.int 1, .int 3], m)) rfl ?_
  refine mz_doQ (R := mz_r66) (as := [.int 3, .int 1]) (rest := []) (r1 := some (.int 0)) (m1 := m) mz_t66 mz_v66 rfl rfl rfl rfl rfl ((kb_3_1 (m := m)).deep (by decide)) ?_
  refine mz_go 11 (c' := (11, [some (.int 3), some (.int 1), some (.int 0), some (.int 1)], [.int 0], m)) rfl ?_
  refine mz_doQ (R := mz_r114) (as := [.int 0]) (rest := []) (r1 := some (.int 1)) (m1 := m) mz_t114 mz_v114 rfl rfl rfl rfl rfl ⟨?_, rfl⟩ ?_
  · refine mz_go 3 (c' := (4, [some (.int 0)], [.int 6, .int 0, .int 0], m)) rfl ?_
    refine mz_doQ (R := mz_r121) (as := [.int 0, .int 0, .int 6]) (rest := []) (r1 := some (.int 1)) (m1 := m) mz_t121 mz_v121 rfl rfl rfl rfl rfl ⟨?_, rfl⟩ ?_
    · refine mz_go 8 (c' := (15, [some (.int 0), some (.int 0), some (.int 6)], [.int 1], m)) rfl ?_
      exact mz_ret rfl
    exact mz_ret rfl
  refine mz_go 3 (c' := (19, [some (.int 3), some (.int 1), some (.int 0), some (.int 1)], [.int 0, .int 3], m)) rfl ?_
  refine mz_doQ (R := mz_r66) (as := [.int 3, .int 0]) (rest := []) (r1 := some (.int 13)) (m1 := m) mz_t66 mz_v66 rfl rfl rfl rfl rfl ((kb_3_0 (m := m)).deep (by decide)) ?_
  refine mz_go 2 (c' := (26, [some (.int 3), some (.int 1), some (.int 0), some (.int 1)], [.int 0], m)) rfl ?_
  exact mz_ret rfl
set_option maxHeartbeats 4000000 in
set_option maxRecDepth 100000 in
theorem kh_3_2 {m : mz_M} : mz_Me 6 mz_r65 [.int 3, .int 2] m (some (.int 2)) m := by
  refine ⟨?_, rfl⟩
  refine mz_go 8 (c' := (11, [some (.int 3), some (.int 2), some (.int 2), some (.int 0)], [.int 2], m)) rfl ?_
  refine mz_doQ (R := mz_r114) (as := [.int 2]) (rest := []) (r1 := some (.int 1)) (m1 := m) mz_t114 mz_v114 rfl rfl rfl rfl rfl ⟨?_, rfl⟩ ?_
  · refine mz_go 3 (c' := (4, [some (.int 2)], [.int 6, .int 0, .int 2], m)) rfl ?_
    refine mz_doQ (R := mz_r121) (as := [.int 2, .int 0, .int 6]) (rest := []) (r1 := some (.int 1)) (m1 := m) mz_t121 mz_v121 rfl rfl rfl rfl rfl ⟨?_, rfl⟩ ?_
    · refine mz_go 8 (c' := (15, [some (.int 2), some (.int 0), some (.int 6)], [.int 1], m)) rfl ?_
      exact mz_ret rfl
    exact mz_ret rfl
  refine mz_go 3 (c' := (19, [some (.int 3), some (.int 2), some (.int 2), some (.int 0)], [.int 2, .int 3], m)) rfl ?_
  refine mz_doQ (R := mz_r66) (as := [.int 3, .int 2]) (rest := []) (r1 := some (.int 31)) (m1 := m) mz_t66 mz_v66 rfl rfl rfl rfl rfl ((kb_3_2 (m := m)).deep (by decide)) ?_
  refine mz_go 2 (c' := (26, [some (.int 3), some (.int 2), some (.int 2), some (.int 0)], [.int 2], m)) rfl ?_
  exact mz_ret rfl
set_option maxHeartbeats 4000000 in
set_option maxRecDepth 100000 in
theorem kh_3_3 {m : mz_M} : mz_Me 6 mz_r65 [.int 3, .int 3] m (some (.int 0)) m := by
  refine ⟨?_, rfl⟩
  refine mz_go 8 (c' := (11, [some (.int 3), some (.int 3), some (.int 3), some (.int 0)], [.int 3], m)) rfl ?_
  refine mz_doQ (R := mz_r114) (as := [.int 3]) (rest := []) (r1 := some (.int 1)) (m1 := m) mz_t114 mz_v114 rfl rfl rfl rfl rfl ⟨?_, rfl⟩ ?_
  · refine mz_go 3 (c' := (4, [some (.int 3)], [.int 6, .int 0, .int 3], m)) rfl ?_
    refine mz_doQ (R := mz_r121) (as := [.int 3, .int 0, .int 6]) (rest := []) (r1 := some (.int 1)) (m1 := m) mz_t121 mz_v121 rfl rfl rfl rfl rfl ⟨?_, rfl⟩ ?_
    · refine mz_go 8 (c' := (15, [some (.int 3), some (.int 0), some (.int 6)], [.int 1], m)) rfl ?_
      exact mz_ret rfl
    exact mz_ret rfl
  refine mz_go 3 (c' := (19, [some (.int 3), some (.int 3), some (.int 3), some (.int 0)], [.int 3, .int 3], m)) rfl ?_
  refine mz_doQ (R := mz_r66) (as := [.int 3, .int 3]) (rest := []) (r1 := some (.int 0)) (m1 := m) mz_t66 mz_v66 rfl rfl rfl rfl rfl ((kb_3_3 (m := m)).deep (by decide)) ?_
  refine mz_go 11 (c' := (11, [some (.int 3), some (.int 3), some (.int 0), some (.int 1)], [.int 0], m)) rfl ?_
  refine mz_doQ (R := mz_r114) (as := [.int 0]) (rest := []) (r1 := some (.int 1)) (m1 := m) mz_t114 mz_v114 rfl rfl rfl rfl rfl ⟨?_, rfl⟩ ?_
  · refine mz_go 3 (c' := (4, [some (.int 0)], [.int 6, .int 0, .int 0], m)) rfl ?_
    refine mz_doQ (R := mz_r121) (as := [.int 0, .int 0, .int 6]) (rest := []) (r1 := some (.int 1)) (m1 := m) mz_t121 mz_v121 rfl rfl rfl rfl rfl ⟨?_, rfl⟩ ?_
    · refine mz_go 8 (c' := (15, [some (.int 0), some (.int 0), some (.int 6)], [.int 1], m)) rfl ?_
      exact mz_ret rfl
    exact mz_ret rfl
  refine mz_go 3 (c' := (19, [some (.int 3), some (.int 3), some (.int 0), some (.int 1)], [.int 0, .int 3], m)) rfl ?_
  refine mz_doQ (R := mz_r66) (as := [.int 3, .int 0]) (rest := []) (r1 := some (.int 13)) (m1 := m) mz_t66 mz_v66 rfl rfl rfl rfl rfl ((kb_3_0 (m := m)).deep (by decide)) ?_
  refine mz_go 2 (c' := (26, [some (.int 3), some (.int 3), some (.int 0), some (.int 1)], [.int 0], m)) rfl ?_
  exact mz_ret rfl
set_option maxHeartbeats 4000000 in
set_option maxRecDepth 100000 in
theorem kh_3_4 {m : mz_M} : mz_Me 6 mz_r65 [.int 3, .int 4] m (some (.int 4)) m := by
  refine ⟨?_, rfl⟩
  refine mz_go 8 (c' := (11, [some (.int 3), some (.int 4), some (.int 4), some (.int 0)], [.int 4], m)) rfl ?_
  refine mz_doQ (R := mz_r114) (as := [.int 4]) (rest := []) (r1 := some (.int 1)) (m1 := m) mz_t114 mz_v114 rfl rfl rfl rfl rfl ⟨?_, rfl⟩ ?_
  · refine mz_go 3 (c' := (4, [some (.int 4)], [.int 6, .int 0, .int 4], m)) rfl ?_
    refine mz_doQ (R := mz_r121) (as := [.int 4, .int 0, .int 6]) (rest := []) (r1 := some (.int 1)) (m1 := m) mz_t121 mz_v121 rfl rfl rfl rfl rfl ⟨?_, rfl⟩ ?_
    · refine mz_go 8 (c' := (15, [some (.int 4), some (.int 0), some (.int 6)], [.int 1], m)) rfl ?_
      exact mz_ret rfl
    exact mz_ret rfl
  refine mz_go 3 (c' := (19, [some (.int 3), some (.int 4), some (.int 4), some (.int 0)], [.int 4, .int 3], m)) rfl ?_
  refine mz_doQ (R := mz_r66) (as := [.int 3, .int 4]) (rest := []) (r1 := some (.int 51)) (m1 := m) mz_t66 mz_v66 rfl rfl rfl rfl rfl ((kb_3_4 (m := m)).deep (by decide)) ?_
  refine mz_go 2 (c' := (26, [some (.int 3), some (.int 4), some (.int 4), some (.int 0)], [.int 4], m)) rfl ?_
  exact mz_ret rfl
set_option maxHeartbeats 4000000 in
set_option maxRecDepth 100000 in
theorem kh_3_5 {m : mz_M} : mz_Me 6 mz_r65 [.int 3, .int 5] m (some (.int 0)) m := by
  refine ⟨?_, rfl⟩
  refine mz_go 8 (c' := (11, [some (.int 3), some (.int 5), some (.int 5), some (.int 0)], [.int 5], m)) rfl ?_
  refine mz_doQ (R := mz_r114) (as := [.int 5]) (rest := []) (r1 := some (.int 1)) (m1 := m) mz_t114 mz_v114 rfl rfl rfl rfl rfl ⟨?_, rfl⟩ ?_
  · refine mz_go 3 (c' := (4, [some (.int 5)], [.int 6, .int 0, .int 5], m)) rfl ?_
    refine mz_doQ (R := mz_r121) (as := [.int 5, .int 0, .int 6]) (rest := []) (r1 := some (.int 1)) (m1 := m) mz_t121 mz_v121 rfl rfl rfl rfl rfl ⟨?_, rfl⟩ ?_
    · refine mz_go 8 (c' := (15, [some (.int 5), some (.int 0), some (.int 6)], [.int 1], m)) rfl ?_
      exact mz_ret rfl
    exact mz_ret rfl
  refine mz_go 3 (c' := (19, [some (.int 3), some (.int 5), some (.int 5), some (.int 0)], [.int 5, .int 3], m)) rfl ?_
  refine mz_doQ (R := mz_r66) (as := [.int 3, .int 5]) (rest := []) (r1 := some (.int 0)) (m1 := m) mz_t66 mz_v66 rfl rfl rfl rfl rfl ((kb_3_5 (m := m)).deep (by decide)) ?_
  refine mz_go 11 (c' := (11, [some (.int 3), some (.int 5), some (.int 3), some (.int 1)], [.int 3], m)) rfl ?_
  refine mz_doQ (R := mz_r114) (as := [.int 3]) (rest := []) (r1 := some (.int 1)) (m1 := m) mz_t114 mz_v114 rfl rfl rfl rfl rfl ⟨?_, rfl⟩ ?_
  · refine mz_go 3 (c' := (4, [some (.int 3)], [.int 6, .int 0, .int 3], m)) rfl ?_
    refine mz_doQ (R := mz_r121) (as := [.int 3, .int 0, .int 6]) (rest := []) (r1 := some (.int 1)) (m1 := m) mz_t121 mz_v121 rfl rfl rfl rfl rfl ⟨?_, rfl⟩ ?_
    · refine mz_go 8 (c' := (15, [some (.int 3), some (.int 0), some (.int 6)], [.int 1], m)) rfl ?_
      exact mz_ret rfl
    exact mz_ret rfl
  refine mz_go 3 (c' := (19, [some (.int 3), some (.int 5), some (.int 3), some (.int 1)], [.int 3, .int 3], m)) rfl ?_
  refine mz_doQ (R := mz_r66) (as := [.int 3, .int 3]) (rest := []) (r1 := some (.int 0)) (m1 := m) mz_t66 mz_v66 rfl rfl rfl rfl rfl ((kb_3_3 (m := m)).deep (by decide)) ?_
  refine mz_go 11 (c' := (11, [some (.int 3), some (.int 5), some (.int 0), some (.int 2)], [.int 0], m)) rfl ?_
  refine mz_doQ (R := mz_r114) (as := [.int 0]) (rest := []) (r1 := some (.int 1)) (m1 := m) mz_t114 mz_v114 rfl rfl rfl rfl rfl ⟨?_, rfl⟩ ?_
  · refine mz_go 3 (c' := (4, [some (.int 0)], [.int 6, .int 0, .int 0], m)) rfl ?_
    refine mz_doQ (R := mz_r121) (as := [.int 0, .int 0, .int 6]) (rest := []) (r1 := some (.int 1)) (m1 := m) mz_t121 mz_v121 rfl rfl rfl rfl rfl ⟨?_, rfl⟩ ?_
    · refine mz_go 8 (c' := (15, [some (.int 0), some (.int 0), some (.int 6)], [.int 1], m)) rfl ?_
      exact mz_ret rfl
    exact mz_ret rfl
  refine mz_go 3 (c' := (19, [some (.int 3), some (.int 5), some (.int 0), some (.int 2)], [.int 0, .int 3], m)) rfl ?_
  refine mz_doQ (R := mz_r66) (as := [.int 3, .int 0]) (rest := []) (r1 := some (.int 13)) (m1 := m) mz_t66 mz_v66 rfl rfl rfl rfl rfl ((kb_3_0 (m := m)).deep (by decide)) ?_
  refine mz_go 2 (c' := (26, [some (.int 3), some (.int 5), some (.int 0), some (.int 2)], [.int 0], m)) rfl ?_
  exact mz_ret rfl
set_option maxHeartbeats 4000000 in
set_option maxRecDepth 100000 in
theorem kh_3_6 {m : mz_M} : mz_Me 6 mz_r65 [.int 3, .int 6] m (some (.int 2)) m := by
  refine ⟨?_, rfl⟩
  refine mz_go 8 (c' := (11, [some (.int 3), some (.int 6), some (.int 6), some (.int 0)], [.int 6], m)) rfl ?_
  refine mz_doQ (R := mz_r114) (as := [.int 6]) (rest := []) (r1 := some (.int 1)) (m1 := m) mz_t114 mz_v114 rfl rfl rfl rfl rfl ⟨?_, rfl⟩ ?_
  · refine mz_go 3 (c' := (4, [some (.int 6)], [.int 6, .int 0, .int 6], m)) rfl ?_
    refine mz_doQ (R := mz_r121) (as := [.int 6, .int 0, .int 6]) (rest := []) (r1 := some (.int 1)) (m1 := m) mz_t121 mz_v121 rfl rfl rfl rfl rfl ⟨?_, rfl⟩ ?_
    · refine mz_go 8 (c' := (15, [some (.int 6), some (.int 0), some (.int 6)], [.int 1], m)) rfl ?_
      exact mz_ret rfl
    exact mz_ret rfl
  refine mz_go 3 (c' := (19, [some (.int 3), some (.int 6), some (.int 6), some (.int 0)], [.int 6, .int 3], m)) rfl ?_
  refine mz_doQ (R := mz_r66) (as := [.int 3, .int 6]) (rest := []) (r1 := some (.int 0)) (m1 := m) mz_t66 mz_v66 rfl rfl rfl rfl rfl ((kb_3_6 (m := m)).deep (by decide)) ?_
  refine mz_go 11 (c' := (11, [some (.int 3), some (.int 6), some (.int 2), some (.int 1)], [.int 2], m)) rfl ?_
  refine mz_doQ (R := mz_r114) (as := [.int 2]) (rest := []) (r1 := some (.int 1)) (m1 := m) mz_t114 mz_v114 rfl rfl rfl rfl rfl ⟨?_, rfl⟩ ?_
  · refine mz_go 3 (c' := (4, [some (.int 2)], [.int 6, .int 0, .int 2], m)) rfl ?_
    refine mz_doQ (R := mz_r121) (as := [.int 2, .int 0, .int 6]) (rest := []) (r1 := some (.int 1)) (m1 := m) mz_t121 mz_v121 rfl rfl rfl rfl rfl ⟨?_, rfl⟩ ?_
    · refine mz_go 8 (c' := (15, [some (.int 2), some (.int 0), some (.int 6)], [.int 1], m)) rfl ?_
      exact mz_ret rfl
    exact mz_ret rfl
  refine mz_go 3 (c' := (19, [some (.int 3), some (.int 6), some (.int 2), some (.int 1)], [.int 2, .int 3], m)) rfl ?_
  refine mz_doQ (R := mz_r66) (as := [.int 3, .int 2]) (rest := []) (r1 := some (.int 31)) (m1 := m) mz_t66 mz_v66 rfl rfl rfl rfl rfl ((kb_3_2 (m := m)).deep (by decide)) ?_
  refine mz_go 2 (c' := (26, [some (.int 3), some (.int 6), some (.int 2), some (.int 1)], [.int 2], m)) rfl ?_
  exact mz_ret rfl
set_option maxHeartbeats 4000000 in
set_option maxRecDepth 100000 in
theorem vs0_0_0 {m : mz_M} {r g : Nat → Int32} (hr0 : vx_0 4 2 r) {c : Nat} (hc : c ≤ 6) (h5 : r 5 = nI c) (x : Int32) {dd : Int32} {d : Nat} (ed : dd = nI d) (hd : d ≤ 26) : ∃ z r' g', mz_Me 8 mz_r62 [.ref 57, .int 0, .int 0, .int x, .int dd] (mz_set (mz_set m 57 r) 59 g) (some (.int z)) (mz_set (mz_set m 57 r') 59 g') ∧ vx_k 4 2 r r' := by
  have hr1 := hr0
  obtain ⟨⟨B, hB, h4⟩, hp⟩ := hr1
  obtain ⟨re1, ge1, We1, Ee1⟩ := vs0_beg (m := m) (r := r) (g := g) ((vx_id hr0).1) (some (.int 0)) (some (.int 0)) (some (.int x)) (some (.int dd)) (some (.int 0)) 10 (D := 7)
  have Xe1 : vx_k 4 2 r re1 := vx_tr (vx_id hr0) We1
  refine ⟨x + (r 7), re1, ge1, ⟨?_, rfl⟩, Xe1⟩
  refine mz_go 2 (c' := (2, [some (.ref 57), some (.int 0), some (.int 0), some (.int x), some (.int dd), none, none], [.int 0, .int 0], mz_set (mz_set m 57 r) 59 g)) rfl ?_
  refine mz_doQ (R := mz_r65) (as := [.int 0, .int 0]) (rest := []) (r1 := some (.int 0)) (m1 := mz_set (mz_set m 57 r) 59 g) mz_t65 mz_v65 rfl rfl rfl rfl rfl ((kh_0_0 (m := mz_set (mz_set m 57 r) 59 g)).deep (by decide)) ?_
  refine mz_go 6 (c' := (if dd ≤ 30 then 21 else 19, [some (.ref 57), some (.int 0), some (.int 0), some (.int x), some (.int dd), some (.int 0), none], [], mz_set (mz_set m 57 r) 59 g)) rfl ?_
  refine mz_ifT (show (dd ≤ 30) from (sm_leN ed rfl (show d ≤ 30 by omega) (show 30 < 2 ^ 31 by omega))) ?_
  refine mz_go 2 (c' := (24, [some (.ref 57), some (.int 0), some (.int 0), some (.int x), some (.int dd), some (.int 0), none], [.int 0, .int 0], mz_set (mz_set m 57 r) 59 g)) rfl ?_
  refine mz_doQ (R := mz_r66) (as := [.int 0, .int 0]) (rest := []) (r1 := some (.int 10)) (m1 := mz_set (mz_set m 57 r) 59 g) mz_t66 mz_v66 rfl rfl rfl rfl rfl ((kb_0_0 (m := mz_set (mz_set m 57 r) 59 g)).deep (by decide)) ?_
  refine mz_go 1 (c' := (29, [some (.ref 57), some (.int 0), some (.int 0), some (.int x), some (.int dd), some (.int 0), some (.int 10)], [], mz_set (mz_set m 57 r) 59 g)) rfl ?_
  refine Ee1 _ ?_
  refine mz_go 9 (c' := (73, [some (.ref 57), some (.int 0), some (.int 0), some (.int x), some (.int dd), some (.int 0), some (.int 10)], [.int (dd + 1), .int x, .int (-1), .int 10, .ref 57], mz_set (mz_set m 57 re1) 59 ge1)) rfl ?_
  refine mz_doQ (R := mz_r63) (as := [.ref 57, .int 10, .int (-1), .int x, .int (dd + 1)]) (rest := []) (r1 := some (.int (x + (r 7)))) (m1 := mz_set (mz_set m 57 re1) 59 ge1) mz_t63 mz_v63_57 rfl rfl rfl rfl rfl ⟨?_, rfl⟩ ?_
  · refine mz_go 5 (c' := (129, [some (.ref 57), some (.int 10), some (.int (-1)), some (.int x), some (.int (dd + 1))], [.int (re1 7), .int x], mz_set (mz_set m 57 re1) 59 ge1)) rfl ?_
    rw [show re1 7 = r 7 from Xe1.2 7 (by decide) (by decide)]
    refine mz_go 1 (c' := (130, [some (.ref 57), some (.int 10), some (.int (-1)), some (.int x), some (.int (dd + 1))], [.int (x + (r 7))], mz_set (mz_set m 57 re1) 59 ge1)) rfl ?_
    exact mz_ret rfl
  exact mz_ret rfl
set_option maxHeartbeats 4000000 in
set_option maxRecDepth 100000 in
theorem vs0_0_1 {m : mz_M} {r g : Nat → Int32} (hr0 : vx_0 4 2 r) {c : Nat} (hc : c ≤ 6) (h5 : r 5 = nI c) (x : Int32) {dd : Int32} {d : Nat} (ed : dd = nI d) (hd : d ≤ 25) : ∃ z r' g', mz_Me 11 mz_r62 [.ref 57, .int 0, .int 1, .int x, .int dd] (mz_set (mz_set m 57 r) 59 g) (some (.int z)) (mz_set (mz_set m 57 r') 59 g') ∧ vx_k 4 2 r r' := by
  have hr1 := hr0
  obtain ⟨⟨B, hB, h4⟩, hp⟩ := hr1
  obtain ⟨re1, ge1, We1, Ee1⟩ := vs0_beg (m := m) (r := r) (g := g) ((vx_id hr0).1) (some (.int 0)) (some (.int 1)) (some (.int x)) (some (.int dd)) (some (.int 1)) 20 (D := 10)
  have Xe1 : vx_k 4 2 r re1 := vx_tr (vx_id hr0) We1
  obtain ⟨ve2, re2, ge2, Ee2, We2⟩ := vs0_0_0 (m := m) (r := re1) (g := ge1) (Xe1.1) hc ((Xe1.2 5 (by decide) (by decide)).trans h5)  x (dd := dd + 1) (d := (d + 1)) (sm_addN ed rfl) (by omega)
  have Xe2 : vx_k 4 2 r re2 := vx_tr Xe1 We2
  refine ⟨ve2 - 1, re2, ge2, ⟨?_, rfl⟩, Xe2⟩
  refine mz_go 2 (c' := (2, [some (.ref 57), some (.int 0), some (.int 1), some (.int x), some (.int dd), none, none], [.int 1, .int 0], mz_set (mz_set m 57 r) 59 g)) rfl ?_
  refine mz_doQ (R := mz_r65) (as := [.int 0, .int 1]) (rest := []) (r1 := some (.int 1)) (m1 := mz_set (mz_set m 57 r) 59 g) mz_t65 mz_v65 rfl rfl rfl rfl rfl ((kh_0_1 (m := mz_set (mz_set m 57 r) 59 g)).deep (by decide)) ?_
  refine mz_go 6 (c' := (if dd ≤ 30 then 21 else 19, [some (.ref 57), some (.int 0), some (.int 1), some (.int x), some (.int dd), some (.int 1), none], [], mz_set (mz_set m 57 r) 59 g)) rfl ?_
  refine mz_ifT (show (dd ≤ 30) from (sm_leN ed rfl (show d ≤ 30 by omega) (show 30 < 2 ^ 31 by omega))) ?_
  refine mz_go 2 (c' := (24, [some (.ref 57), some (.int 0), some (.int 1), some (.int x), some (.int dd), some (.int 1), none], [.int 1, .int 0], mz_set (mz_set m 57 r) 59 g)) rfl ?_
  refine mz_doQ (R := mz_r66) (as := [.int 0, .int 1]) (rest := []) (r1 := some (.int 20)) (m1 := mz_set (mz_set m 57 r) 59 g) mz_t66 mz_v66 rfl rfl rfl rfl rfl ((kb_0_1 (m := mz_set (mz_set m 57 r) 59 g)).deep (by decide)) ?_
  refine mz_go 1 (c' := (29, [some (.ref 57), some (.int 0), some (.int 1), some (.int x), some (.int dd), some (.int 1), some (.int 20)], [], mz_set (mz_set m 57 r) 59 g)) rfl ?_
  refine Ee1 _ ?_
  refine mz_go 9 (c' := (73, [some (.ref 57), some (.int 0), some (.int 1), some (.int x), some (.int dd), some (.int 1), some (.int 20)], [.int (dd + 1), .int x, .int 0, .int 20, .ref 57], mz_set (mz_set m 57 re1) 59 ge1)) rfl ?_
  refine mz_doQ (R := mz_r63) (as := [.ref 57, .int 20, .int 0, .int x, .int (dd + 1)]) (rest := []) (r1 := some (.int (ve2 - 1))) (m1 := mz_set (mz_set m 57 re2) 59 ge2) mz_t63 mz_v63_57 rfl rfl rfl rfl rfl ⟨?_, rfl⟩ ?_
  · refine mz_go 7 (c' := (176, [some (.ref 57), some (.int 20), some (.int 0), some (.int x), some (.int (dd + 1))], [.int (dd + 1), .int x, .int 0, .int 0, .ref 57], mz_set (mz_set m 57 re1) 59 ge1)) rfl ?_
    refine mz_doQ (R := mz_r62) (as := [.ref 57, .int 0, .int 0, .int x, .int (dd + 1)]) (rest := []) (r1 := some (.int ve2)) (m1 := mz_set (mz_set m 57 re2) 59 ge2) mz_t62 mz_v62_57 rfl rfl rfl rfl rfl (Ee2.deep (by decide)) ?_
    refine mz_go 2 (c' := (181, [some (.ref 57), some (.int 20), some (.int 0), some (.int x), some (.int (dd + 1))], [.int (ve2 - 1)], mz_set (mz_set m 57 re2) 59 ge2)) rfl ?_
    exact mz_ret rfl
  exact mz_ret rfl
set_option maxHeartbeats 4000000 in
set_option maxRecDepth 100000 in
theorem vs0_0_2 {m : mz_M} {r g : Nat → Int32} (hr0 : vx_0 4 2 r) {c : Nat} (hc : c ≤ 6) (h5 : r 5 = nI c) (x : Int32) {dd : Int32} {d : Nat} (ed : dd = nI d) (hd : d ≤ 26) : ∃ z r' g', mz_Me 8 mz_r62 [.ref 57, .int 0, .int 2, .int x, .int dd] (mz_set (mz_set m 57 r) 59 g) (some (.int z)) (mz_set (mz_set m 57 r') 59 g') ∧ vx_k 4 2 r r' := by
  have hr1 := hr0
  obtain ⟨⟨B, hB, h4⟩, hp⟩ := hr1
  obtain ⟨re1, ge1, We1, Ee1⟩ := vs0_beg (m := m) (r := r) (g := g) ((vx_id hr0).1) (some (.int 0)) (some (.int 2)) (some (.int x)) (some (.int dd)) (some (.int 0)) 10 (D := 7)
  have Xe1 : vx_k 4 2 r re1 := vx_tr (vx_id hr0) We1
  refine ⟨x + (r 7), re1, ge1, ⟨?_, rfl⟩, Xe1⟩
  refine mz_go 2 (c' := (2, [some (.ref 57), some (.int 0), some (.int 2), some (.int x), some (.int dd), none, none], [.int 2, .int 0], mz_set (mz_set m 57 r) 59 g)) rfl ?_
  refine mz_doQ (R := mz_r65) (as := [.int 0, .int 2]) (rest := []) (r1 := some (.int 0)) (m1 := mz_set (mz_set m 57 r) 59 g) mz_t65 mz_v65 rfl rfl rfl rfl rfl ((kh_0_2 (m := mz_set (mz_set m 57 r) 59 g)).deep (by decide)) ?_
  refine mz_go 6 (c' := (if dd ≤ 30 then 21 else 19, [some (.ref 57), some (.int 0), some (.int 2), some (.int x), some (.int dd), some (.int 0), none], [], mz_set (mz_set m 57 r) 59 g)) rfl ?_
  refine mz_ifT (show (dd ≤ 30) from (sm_leN ed rfl (show d ≤ 30 by omega) (show 30 < 2 ^ 31 by omega))) ?_
  refine mz_go 2 (c' := (24, [some (.ref 57), some (.int 0), some (.int 2), some (.int x), some (.int dd), some (.int 0), none], [.int 0, .int 0], mz_set (mz_set m 57 r) 59 g)) rfl ?_
  refine mz_doQ (R := mz_r66) (as := [.int 0, .int 0]) (rest := []) (r1 := some (.int 10)) (m1 := mz_set (mz_set m 57 r) 59 g) mz_t66 mz_v66 rfl rfl rfl rfl rfl ((kb_0_0 (m := mz_set (mz_set m 57 r) 59 g)).deep (by decide)) ?_
  refine mz_go 1 (c' := (29, [some (.ref 57), some (.int 0), some (.int 2), some (.int x), some (.int dd), some (.int 0), some (.int 10)], [], mz_set (mz_set m 57 r) 59 g)) rfl ?_
  refine Ee1 _ ?_
  refine mz_go 9 (c' := (73, [some (.ref 57), some (.int 0), some (.int 2), some (.int x), some (.int dd), some (.int 0), some (.int 10)], [.int (dd + 1), .int x, .int (-1), .int 10, .ref 57], mz_set (mz_set m 57 re1) 59 ge1)) rfl ?_
  refine mz_doQ (R := mz_r63) (as := [.ref 57, .int 10, .int (-1), .int x, .int (dd + 1)]) (rest := []) (r1 := some (.int (x + (r 7)))) (m1 := mz_set (mz_set m 57 re1) 59 ge1) mz_t63 mz_v63_57 rfl rfl rfl rfl rfl ⟨?_, rfl⟩ ?_
  · refine mz_go 5 (c' := (129, [some (.ref 57), some (.int 10), some (.int (-1)), some (.int x), some (.int (dd + 1))], [.int (re1 7), .int x], mz_set (mz_set m 57 re1) 59 ge1)) rfl ?_
    rw [show re1 7 = r 7 from Xe1.2 7 (by decide) (by decide)]
    refine mz_go 1 (c' := (130, [some (.ref 57), some (.int 10), some (.int (-1)), some (.int x), some (.int (dd + 1))], [.int (x + (r 7))], mz_set (mz_set m 57 re1) 59 ge1)) rfl ?_
    exact mz_ret rfl
  exact mz_ret rfl
set_option maxHeartbeats 4000000 in
set_option maxRecDepth 100000 in
theorem vs0_0_3 {m : mz_M} {r g : Nat → Int32} (hr0 : vx_0 4 2 r) {c : Nat} (hc : c ≤ 6) (h5 : r 5 = nI c) (x : Int32) {dd : Int32} {d : Nat} (ed : dd = nI d) (hd : d ≤ 26) : ∃ z r' g', mz_Me 8 mz_r62 [.ref 57, .int 0, .int 3, .int x, .int dd] (mz_set (mz_set m 57 r) 59 g) (some (.int z)) (mz_set (mz_set m 57 r') 59 g') ∧ vx_k 4 2 r r' := by
  have hr1 := hr0
  obtain ⟨⟨B, hB, h4⟩, hp⟩ := hr1
  obtain ⟨re1, ge1, We1, Ee1⟩ := vs0_beg (m := m) (r := r) (g := g) ((vx_id hr0).1) (some (.int 0)) (some (.int 3)) (some (.int x)) (some (.int dd)) (some (.int 0)) 10 (D := 7)
  have Xe1 : vx_k 4 2 r re1 := vx_tr (vx_id hr0) We1
  refine ⟨x + (r 7), re1, ge1, ⟨?_, rfl⟩, Xe1⟩
  refine mz_go 2 (c' := (2, [some (.ref 57), some (.int 0), some (.int 3), some (.int x), some (.int dd), none, none], [.int 3, .int 0], mz_set (mz_set m 57 r) 59 g)) rfl ?_
  refine mz_doQ (R := mz_r65) (as := [.int 0, .int 3]) (rest := []) (r1 := some (.int 0)) (m1 := mz_set (mz_set m 57 r) 59 g) mz_t65 mz_v65 rfl rfl rfl rfl rfl ((kh_0_3 (m := mz_set (mz_set m 57 r) 59 g)).deep (by decide)) ?_
  refine mz_go 6 (c' := (if dd ≤ 30 then 21 else 19, [some (.ref 57), some (.int 0), some (.int 3), some (.int x), some (.int dd), some (.int 0), none], [], mz_set (mz_set m 57 r) 59 g)) rfl ?_
  refine mz_ifT (show (dd ≤ 30) from (sm_leN ed rfl (show d ≤ 30 by omega) (show 30 < 2 ^ 31 by omega))) ?_
  refine mz_go 2 (c' := (24, [some (.ref 57), some (.int 0), some (.int 3), some (.int x), some (.int dd), some (.int 0), none], [.int 0, .int 0], mz_set (mz_set m 57 r) 59 g)) rfl ?_
  refine mz_doQ (R := mz_r66) (as := [.int 0, .int 0]) (rest := []) (r1 := some (.int 10)) (m1 := mz_set (mz_set m 57 r) 59 g) mz_t66 mz_v66 rfl rfl rfl rfl rfl ((kb_0_0 (m := mz_set (mz_set m 57 r) 59 g)).deep (by decide)) ?_
  refine mz_go 1 (c' := (29, [some (.ref 57), some (.int 0), some (.int 3), some (.int x), some (.int dd), some (.int 0), some (.int 10)], [], mz_set (mz_set m 57 r) 59 g)) rfl ?_
  refine Ee1 _ ?_
  refine mz_go 9 (c' := (73, [some (.ref 57), some (.int 0), some (.int 3), some (.int x), some (.int dd), some (.int 0), some (.int 10)], [.int (dd + 1), .int x, .int (-1), .int 10, .ref 57], mz_set (mz_set m 57 re1) 59 ge1)) rfl ?_
  refine mz_doQ (R := mz_r63) (as := [.ref 57, .int 10, .int (-1), .int x, .int (dd + 1)]) (rest := []) (r1 := some (.int (x + (r 7)))) (m1 := mz_set (mz_set m 57 re1) 59 ge1) mz_t63 mz_v63_57 rfl rfl rfl rfl rfl ⟨?_, rfl⟩ ?_
  · refine mz_go 5 (c' := (129, [some (.ref 57), some (.int 10), some (.int (-1)), some (.int x), some (.int (dd + 1))], [.int (re1 7), .int x], mz_set (mz_set m 57 re1) 59 ge1)) rfl ?_
    rw [show re1 7 = r 7 from Xe1.2 7 (by decide) (by decide)]
    refine mz_go 1 (c' := (130, [some (.ref 57), some (.int 10), some (.int (-1)), some (.int x), some (.int (dd + 1))], [.int (x + (r 7))], mz_set (mz_set m 57 re1) 59 ge1)) rfl ?_
    exact mz_ret rfl
  exact mz_ret rfl
set_option maxHeartbeats 4000000 in
set_option maxRecDepth 100000 in
theorem vs0_0_4 {m : mz_M} {r g : Nat → Int32} (hr0 : vx_0 4 2 r) {c : Nat} (hc : c ≤ 6) (h5 : r 5 = nI c) (x : Int32) {dd : Int32} {d : Nat} (ed : dd = nI d) (hd : d ≤ 24) : ∃ z r' g', mz_Me 14 mz_r62 [.ref 57, .int 0, .int 4, .int x, .int dd] (mz_set (mz_set m 57 r) 59 g) (some (.int z)) (mz_set (mz_set m 57 r') 59 g') ∧ vx_k 4 2 r r' := by
  have hr1 := hr0
  obtain ⟨⟨B, hB, h4⟩, hp⟩ := hr1
  obtain ⟨re1, ge1, We1, Ee1⟩ := vs0_beg (m := m) (r := r) (g := g) ((vx_id hr0).1) (some (.int 0)) (some (.int 4)) (some (.int x)) (some (.int dd)) (some (.int 4)) 50 (D := 13)
  have Xe1 : vx_k 4 2 r re1 := vx_tr (vx_id hr0) We1
  obtain ⟨ve2, re2, ge2, Ee2, We2⟩ := vs0_0_1 (m := m) (r := re1) (g := ge1) (Xe1.1) hc ((Xe1.2 5 (by decide) (by decide)).trans h5)  (x / 2) (dd := dd + 1) (d := (d + 1)) (sm_addN ed rfl) (by omega)
  have Xe2 : vx_k 4 2 r re2 := vx_tr Xe1 We2
  refine ⟨ve2, re2, ge2, ⟨?_, rfl⟩, Xe2⟩
  refine mz_go 2 (c' := (2, [some (.ref 57), some (.int 0), some (.int 4), some (.int x), some (.int dd), none, none], [.int 4, .int 0], mz_set (mz_set m 57 r) 59 g)) rfl ?_
  refine mz_doQ (R := mz_r65) (as := [.int 0, .int 4]) (rest := []) (r1 := some (.int 4)) (m1 := mz_set (mz_set m 57 r) 59 g) mz_t65 mz_v65 rfl rfl rfl rfl rfl ((kh_0_4 (m := mz_set (mz_set m 57 r) 59 g)).deep (by decide)) ?_
  refine mz_go 6 (c' := (if dd ≤ 30 then 21 else 19, [some (.ref 57), some (.int 0), some (.int 4), some (.int x), some (.int dd), some (.int 4), none], [], mz_set (mz_set m 57 r) 59 g)) rfl ?_
  refine mz_ifT (show (dd ≤ 30) from (sm_leN ed rfl (show d ≤ 30 by omega) (show 30 < 2 ^ 31 by omega))) ?_
  refine mz_go 2 (c' := (24, [some (.ref 57), some (.int 0), some (.int 4), some (.int x), some (.int dd), some (.int 4), none], [.int 4, .int 0], mz_set (mz_set m 57 r) 59 g)) rfl ?_
  refine mz_doQ (R := mz_r66) (as := [.int 0, .int 4]) (rest := []) (r1 := some (.int 50)) (m1 := mz_set (mz_set m 57 r) 59 g) mz_t66 mz_v66 rfl rfl rfl rfl rfl ((kb_0_4 (m := mz_set (mz_set m 57 r) 59 g)).deep (by decide)) ?_
  refine mz_go 1 (c' := (29, [some (.ref 57), some (.int 0), some (.int 4), some (.int x), some (.int dd), some (.int 4), some (.int 50)], [], mz_set (mz_set m 57 r) 59 g)) rfl ?_
  refine Ee1 _ ?_
  refine mz_go 9 (c' := (73, [some (.ref 57), some (.int 0), some (.int 4), some (.int x), some (.int dd), some (.int 4), some (.int 50)], [.int (dd + 1), .int x, .int 1, .int 50, .ref 57], mz_set (mz_set m 57 re1) 59 ge1)) rfl ?_
  refine mz_doQ (R := mz_r63) (as := [.ref 57, .int 50, .int 1, .int x, .int (dd + 1)]) (rest := []) (r1 := some (.int ve2)) (m1 := mz_set (mz_set m 57 re2) 59 ge2) mz_t63 mz_v63_57 rfl rfl rfl rfl rfl ⟨?_, rfl⟩ ?_
  · refine mz_go 9 (c' := (252, [some (.ref 57), some (.int 50), some (.int 1), some (.int x), some (.int (dd + 1))], [.int (dd + 1), .int (x / 2), .int 1, .int 0, .ref 57], mz_set (mz_set m 57 re1) 59 ge1)) rfl ?_
    refine mz_doQ (R := mz_r62) (as := [.ref 57, .int 0, .int 1, .int (x / 2), .int (dd + 1)]) (rest := []) (r1 := some (.int ve2)) (m1 := mz_set (mz_set m 57 re2) 59 ge2) mz_t62 mz_v62_57 rfl rfl rfl rfl rfl (Ee2.deep (by decide)) ?_
    exact mz_ret rfl
  exact mz_ret rfl
set_option maxHeartbeats 4000000 in
set_option maxRecDepth 100000 in
theorem vs0_0_5 {m : mz_M} {r g : Nat → Int32} (hr0 : vx_0 4 2 r) {c : Nat} (hc : c ≤ 6) (h5 : r 5 = nI c) (x : Int32) {dd : Int32} {d : Nat} (ed : dd = nI d) (hd : d ≤ 26) : ∃ z r' g', mz_Me 8 mz_r62 [.ref 57, .int 0, .int 5, .int x, .int dd] (mz_set (mz_set m 57 r) 59 g) (some (.int z)) (mz_set (mz_set m 57 r') 59 g') ∧ vx_k 4 2 r r' := by
  have hr1 := hr0
  obtain ⟨⟨B, hB, h4⟩, hp⟩ := hr1
  obtain ⟨re1, ge1, We1, Ee1⟩ := vs0_beg (m := m) (r := r) (g := g) ((vx_id hr0).1) (some (.int 0)) (some (.int 5)) (some (.int x)) (some (.int dd)) (some (.int 0)) 10 (D := 7)
  have Xe1 : vx_k 4 2 r re1 := vx_tr (vx_id hr0) We1
  refine ⟨x + (r 7), re1, ge1, ⟨?_, rfl⟩, Xe1⟩
  refine mz_go 2 (c' := (2, [some (.ref 57), some (.int 0), some (.int 5), some (.int x), some (.int dd), none, none], [.int 5, .int 0], mz_set (mz_set m 57 r) 59 g)) rfl ?_
  refine mz_doQ (R := mz_r65) (as := [.int 0, .int 5]) (rest := []) (r1 := some (.int 0)) (m1 := mz_set (mz_set m 57 r) 59 g) mz_t65 mz_v65 rfl rfl rfl rfl rfl ((kh_0_5 (m := mz_set (mz_set m 57 r) 59 g)).deep (by decide)) ?_
  refine mz_go 6 (c' := (if dd ≤ 30 then 21 else 19, [some (.ref 57), some (.int 0), some (.int 5), some (.int x), some (.int dd), some (.int 0), none], [], mz_set (mz_set m 57 r) 59 g)) rfl ?_
  refine mz_ifT (show (dd ≤ 30) from (sm_leN ed rfl (show d ≤ 30 by omega) (show 30 < 2 ^ 31 by omega))) ?_
  refine mz_go 2 (c' := (24, [some (.ref 57), some (.int 0), some (.int 5), some (.int x), some (.int dd), some (.int 0), none], [.int 0, .int 0], mz_set (mz_set m 57 r) 59 g)) rfl ?_
  refine mz_doQ (R := mz_r66) (as := [.int 0, .int 0]) (rest := []) (r1 := some (.int 10)) (m1 := mz_set (mz_set m 57 r) 59 g) mz_t66 mz_v66 rfl rfl rfl rfl rfl ((kb_0_0 (m := mz_set (mz_set m 57 r) 59 g)).deep (by decide)) ?_
  refine mz_go 1 (c' := (29, [some (.ref 57), some (.int 0), some (.int 5), some (.int x), some (.int dd), some (.int 0), some (.int 10)], [], mz_set (mz_set m 57 r) 59 g)) rfl ?_
  refine Ee1 _ ?_
  refine mz_go 9 (c' := (73, [some (.ref 57), some (.int 0), some (.int 5), some (.int x), some (.int dd), some (.int 0), some (.int 10)], [.int (dd + 1), .int x, .int (-1), .int 10, .ref 57], mz_set (mz_set m 57 re1) 59 ge1)) rfl ?_
  refine mz_doQ (R := mz_r63) (as := [.ref 57, .int 10, .int (-1), .int x, .int (dd + 1)]) (rest := []) (r1 := some (.int (x + (r 7)))) (m1 := mz_set (mz_set m 57 re1) 59 ge1) mz_t63 mz_v63_57 rfl rfl rfl rfl rfl ⟨?_, rfl⟩ ?_
  · refine mz_go 5 (c' := (129, [some (.ref 57), some (.int 10), some (.int (-1)), some (.int x), some (.int (dd + 1))], [.int (re1 7), .int x], mz_set (mz_set m 57 re1) 59 ge1)) rfl ?_
    rw [show re1 7 = r 7 from Xe1.2 7 (by decide) (by decide)]
    refine mz_go 1 (c' := (130, [some (.ref 57), some (.int 10), some (.int (-1)), some (.int x), some (.int (dd + 1))], [.int (x + (r 7))], mz_set (mz_set m 57 re1) 59 ge1)) rfl ?_
    exact mz_ret rfl
  exact mz_ret rfl
set_option maxHeartbeats 4000000 in
set_option maxRecDepth 100000 in
theorem vs0_0_6 {m : mz_M} {r g : Nat → Int32} (hr0 : vx_0 4 2 r) {c : Nat} (hc : c ≤ 6) (h5 : r 5 = nI c) (x : Int32) {dd : Int32} {d : Nat} (ed : dd = nI d) (hd : d ≤ 26) : ∃ z r' g', mz_Me 8 mz_r62 [.ref 57, .int 0, .int 6, .int x, .int dd] (mz_set (mz_set m 57 r) 59 g) (some (.int z)) (mz_set (mz_set m 57 r') 59 g') ∧ vx_k 4 2 r r' := by
  have hr1 := hr0
  obtain ⟨⟨B, hB, h4⟩, hp⟩ := hr1
  obtain ⟨re1, ge1, We1, Ee1⟩ := vs0_beg (m := m) (r := r) (g := g) ((vx_id hr0).1) (some (.int 0)) (some (.int 6)) (some (.int x)) (some (.int dd)) (some (.int 6)) 71 (D := 7)
  have Xe1 : vx_k 4 2 r re1 := vx_tr (vx_id hr0) We1
  refine ⟨5, re1, ge1, ⟨?_, rfl⟩, Xe1⟩
  refine mz_go 2 (c' := (2, [some (.ref 57), some (.int 0), some (.int 6), some (.int x), some (.int dd), none, none], [.int 6, .int 0], mz_set (mz_set m 57 r) 59 g)) rfl ?_
  refine mz_doQ (R := mz_r65) (as := [.int 0, .int 6]) (rest := []) (r1 := some (.int 6)) (m1 := mz_set (mz_set m 57 r) 59 g) mz_t65 mz_v65 rfl rfl rfl rfl rfl ((kh_0_6 (m := mz_set (mz_set m 57 r) 59 g)).deep (by decide)) ?_
  refine mz_go 6 (c' := (if dd ≤ 30 then 21 else 19, [some (.ref 57), some (.int 0), some (.int 6), some (.int x), some (.int dd), some (.int 6), none], [], mz_set (mz_set m 57 r) 59 g)) rfl ?_
  refine mz_ifT (show (dd ≤ 30) from (sm_leN ed rfl (show d ≤ 30 by omega) (show 30 < 2 ^ 31 by omega))) ?_
  refine mz_go 2 (c' := (24, [some (.ref 57), some (.int 0), some (.int 6), some (.int x), some (.int dd), some (.int 6), none], [.int 6, .int 0], mz_set (mz_set m 57 r) 59 g)) rfl ?_
  refine mz_doQ (R := mz_r66) (as := [.int 0, .int 6]) (rest := []) (r1 := some (.int 71)) (m1 := mz_set (mz_set m 57 r) 59 g) mz_t66 mz_v66 rfl rfl rfl rfl rfl ((kb_0_6 (m := mz_set (mz_set m 57 r) 59 g)).deep (by decide)) ?_
  refine mz_go 1 (c' := (29, [some (.ref 57), some (.int 0), some (.int 6), some (.int x), some (.int dd), some (.int 6), some (.int 71)], [], mz_set (mz_set m 57 r) 59 g)) rfl ?_
  refine Ee1 _ ?_
  refine mz_go 9 (c' := (73, [some (.ref 57), some (.int 0), some (.int 6), some (.int x), some (.int dd), some (.int 6), some (.int 71)], [.int (dd + 1), .int x, .int 2, .int 71, .ref 57], mz_set (mz_set m 57 re1) 59 ge1)) rfl ?_
  refine mz_doQ (R := mz_r63) (as := [.ref 57, .int 71, .int 2, .int x, .int (dd + 1)]) (rest := []) (r1 := some (.int 5)) (m1 := mz_set (mz_set m 57 re1) 59 ge1) mz_t63 mz_v63_57 rfl rfl rfl rfl rfl ⟨?_, rfl⟩ ?_
  · refine mz_go 3 (c' := (319, [some (.ref 57), some (.int 71), some (.int 2), some (.int x), some (.int (dd + 1))], [.int 5], mz_set (mz_set m 57 re1) 59 ge1)) rfl ?_
    exact mz_ret rfl
  exact mz_ret rfl
set_option maxHeartbeats 4000000 in
set_option maxRecDepth 100000 in
theorem vs0_0_any {m : mz_M} {r g : Nat → Int32} (hr0 : vx_0 4 2 r) {c : Nat} (hc : c ≤ 6) (h5 : r 5 = nI c) {f : Nat} (hf : f ≤ 6) (x : Int32) {dd : Int32} {d : Nat} (ed : dd = nI d) (hd : d ≤ 23) : ∃ z r' g', mz_Me 20 mz_r62 [.ref 57, .int 0, .int (nI f), .int x, .int dd] (mz_set (mz_set m 57 r) 59 g) (some (.int z)) (mz_set (mz_set m 57 r') 59 g') ∧ vx_k 4 2 r r' := by
  rcases (show f = 0 ∨ f = 1 ∨ f = 2 ∨ f = 3 ∨ f = 4 ∨ f = 5 ∨ f = 6 by omega) with rfl | rfl | rfl | rfl | rfl | rfl | rfl
  · obtain ⟨z, r', g', E, W⟩ := vs0_0_0 (m := m) (g := g) hr0 hc h5 x ed (by omega)
    exact ⟨z, r', g', E.deep (by decide), W⟩
  · obtain ⟨z, r', g', E, W⟩ := vs0_0_1 (m := m) (g := g) hr0 hc h5 x ed (by omega)
    exact ⟨z, r', g', E.deep (by decide), W⟩
  · obtain ⟨z, r', g', E, W⟩ := vs0_0_2 (m := m) (g := g) hr0 hc h5 x ed (by omega)
    exact ⟨z, r', g', E.deep (by decide), W⟩
  · obtain ⟨z, r', g', E, W⟩ := vs0_0_3 (m := m) (g := g) hr0 hc h5 x ed (by omega)
    exact ⟨z, r', g', E.deep (by decide), W⟩
  · obtain ⟨z, r', g', E, W⟩ := vs0_0_4 (m := m) (g := g) hr0 hc h5 x ed (by omega)
    exact ⟨z, r', g', E.deep (by decide), W⟩
  · obtain ⟨z, r', g', E, W⟩ := vs0_0_5 (m := m) (g := g) hr0 hc h5 x ed (by omega)
    exact ⟨z, r', g', E.deep (by decide), W⟩
  · obtain ⟨z, r', g', E, W⟩ := vs0_0_6 (m := m) (g := g) hr0 hc h5 x ed (by omega)
    exact ⟨z, r', g', E.deep (by decide), W⟩
set_option maxHeartbeats 4000000 in
set_option maxRecDepth 100000 in
theorem vs0_1_0 {m : mz_M} {r g : Nat → Int32} (hr0 : vx_0 4 2 r) {c : Nat} (hc : c ≤ 6) (h5 : r 5 = nI c) (x : Int32) {dd : Int32} {d : Nat} (ed : dd = nI d) (hd : d ≤ 22) : ∃ z r' g', mz_Me 23 mz_r62 [.ref 57, .int 1, .int 0, .int x, .int dd] (mz_set (mz_set m 57 r) 59 g) (some (.int z)) (mz_set (mz_set m 57 r') 59 g') ∧ vx_k 4 2 r r' := by
  have hr1 := hr0
  obtain ⟨⟨B, hB, h4⟩, hp⟩ := hr1
  obtain ⟨re1, ge1, We1, Ee1⟩ := vs0_beg (m := m) (r := r) (g := g) ((vx_id hr0).1) (some (.int 1)) (some (.int 0)) (some (.int x)) (some (.int dd)) (some (.int 0)) 11 (D := 22)
  have Xe1 : vx_k 4 2 r re1 := vx_tr (vx_id hr0) We1
  obtain ⟨ve2, re2, ge2, Ee2, We2⟩ := vs0_0_any (m := m) (r := re1) (g := ge1) (Xe1.1) hc ((Xe1.2 5 (by decide) (by decide)).trans h5) (f := c) hc x (dd := dd + 1) (d := (d + 1)) (sm_addN ed rfl) (by omega)
  have Xe2 : vx_k 4 2 r re2 := vx_tr Xe1 We2
  refine ⟨ve2 * 2, re2, ge2, ⟨?_, rfl⟩, Xe2⟩
  refine mz_go 2 (c' := (2, [some (.ref 57), some (.int 1), some (.int 0), some (.int x), some (.int dd), none, none], [.int 0, .int 1], mz_set (mz_set m 57 r) 59 g)) rfl ?_
  refine mz_doQ (R := mz_r65) (as := [.int 1, .int 0]) (rest := []) (r1 := some (.int 0)) (m1 := mz_set (mz_set m 57 r) 59 g) mz_t65 mz_v65 rfl rfl rfl rfl rfl ((kh_1_0 (m := mz_set (mz_set m 57 r) 59 g)).deep (by decide)) ?_
  refine mz_go 6 (c' := (if dd ≤ 30 then 21 else 19, [some (.ref 57), some (.int 1), some (.int 0), some (.int x), some (.int dd), some (.int 0), none], [], mz_set (mz_set m 57 r) 59 g)) rfl ?_
  refine mz_ifT (show (dd ≤ 30) from (sm_leN ed rfl (show d ≤ 30 by omega) (show 30 < 2 ^ 31 by omega))) ?_
  refine mz_go 2 (c' := (24, [some (.ref 57), some (.int 1), some (.int 0), some (.int x), some (.int dd), some (.int 0), none], [.int 0, .int 1], mz_set (mz_set m 57 r) 59 g)) rfl ?_
  refine mz_doQ (R := mz_r66) (as := [.int 1, .int 0]) (rest := []) (r1 := some (.int 11)) (m1 := mz_set (mz_set m 57 r) 59 g) mz_t66 mz_v66 rfl rfl rfl rfl rfl ((kb_1_0 (m := mz_set (mz_set m 57 r) 59 g)).deep (by decide)) ?_
  refine mz_go 1 (c' := (29, [some (.ref 57), some (.int 1), some (.int 0), some (.int x), some (.int dd), some (.int 0), some (.int 11)], [], mz_set (mz_set m 57 r) 59 g)) rfl ?_
  refine Ee1 _ ?_
  refine mz_go 9 (c' := (73, [some (.ref 57), some (.int 1), some (.int 0), some (.int x), some (.int dd), some (.int 0), some (.int 11)], [.int (dd + 1), .int x, .int (-1), .int 11, .ref 57], mz_set (mz_set m 57 re1) 59 ge1)) rfl ?_
  refine mz_doQ (R := mz_r63) (as := [.ref 57, .int 11, .int (-1), .int x, .int (dd + 1)]) (rest := []) (r1 := some (.int (ve2 * 2))) (m1 := mz_set (mz_set m 57 re2) 59 ge2) mz_t63 mz_v63_57 rfl rfl rfl rfl rfl ⟨?_, rfl⟩ ?_
  · refine mz_go 6 (c' := (137, [some (.ref 57), some (.int 11), some (.int (-1)), some (.int x), some (.int (dd + 1))], [.int (re1 5), .int 0, .ref 57], mz_set (mz_set m 57 re1) 59 ge1)) rfl ?_
    rw [show re1 5 = r 5 from Xe1.2 5 (by decide) (by decide)]
    rw [h5]
    refine mz_go 2 (c' := (140, [some (.ref 57), some (.int 11), some (.int (-1)), some (.int x), some (.int (dd + 1))], [.int (dd + 1), .int x, .int (nI c), .int 0, .ref 57], mz_set (mz_set m 57 re1) 59 ge1)) rfl ?_
    refine mz_doQ (R := mz_r62) (as := [.ref 57, .int 0, .int (nI c), .int x, .int (dd + 1)]) (rest := []) (r1 := some (.int ve2)) (m1 := mz_set (mz_set m 57 re2) 59 ge2) mz_t62 mz_v62_57 rfl rfl rfl rfl rfl (Ee2.deep (by decide)) ?_
    refine mz_go 2 (c' := (145, [some (.ref 57), some (.int 11), some (.int (-1)), some (.int x), some (.int (dd + 1))], [.int (ve2 * 2)], mz_set (mz_set m 57 re2) 59 ge2)) rfl ?_
    exact mz_ret rfl
  exact mz_ret rfl
set_option maxHeartbeats 4000000 in
set_option maxRecDepth 100000 in
theorem vs0_1_1 {m : mz_M} {r g : Nat → Int32} (hr0 : vx_0 4 2 r) {c : Nat} (hc : c ≤ 6) (h5 : r 5 = nI c) (x : Int32) {dd : Int32} {d : Nat} (ed : dd = nI d) (hd : d ≤ 22) : ∃ z r' g', mz_Me 23 mz_r62 [.ref 57, .int 1, .int 1, .int x, .int dd] (mz_set (mz_set m 57 r) 59 g) (some (.int z)) (mz_set (mz_set m 57 r') 59 g') ∧ vx_k 4 2 r r' := by
  have hr1 := hr0
  obtain ⟨⟨B, hB, h4⟩, hp⟩ := hr1
  obtain ⟨re1, ge1, We1, Ee1⟩ := vs0_beg (m := m) (r := r) (g := g) ((vx_id hr0).1) (some (.int 1)) (some (.int 1)) (some (.int x)) (some (.int dd)) (some (.int 0)) 11 (D := 22)
  have Xe1 : vx_k 4 2 r re1 := vx_tr (vx_id hr0) We1
  obtain ⟨ve2, re2, ge2, Ee2, We2⟩ := vs0_0_any (m := m) (r := re1) (g := ge1) (Xe1.1) hc ((Xe1.2 5 (by decide) (by decide)).trans h5) (f := c) hc x (dd := dd + 1) (d := (d + 1)) (sm_addN ed rfl) (by omega)
  have Xe2 : vx_k 4 2 r re2 := vx_tr Xe1 We2
  refine ⟨ve2 * 2, re2, ge2, ⟨?_, rfl⟩, Xe2⟩
  refine mz_go 2 (c' := (2, [some (.ref 57), some (.int 1), some (.int 1), some (.int x), some (.int dd), none, none], [.int 1, .int 1], mz_set (mz_set m 57 r) 59 g)) rfl ?_
  refine mz_doQ (R := mz_r65) (as := [.int 1, .int 1]) (rest := []) (r1 := some (.int 0)) (m1 := mz_set (mz_set m 57 r) 59 g) mz_t65 mz_v65 rfl rfl rfl rfl rfl ((kh_1_1 (m := mz_set (mz_set m 57 r) 59 g)).deep (by decide)) ?_
  refine mz_go 6 (c' := (if dd ≤ 30 then 21 else 19, [some (.ref 57), some (.int 1), some (.int 1), some (.int x), some (.int dd), some (.int 0), none], [], mz_set (mz_set m 57 r) 59 g)) rfl ?_
  refine mz_ifT (show (dd ≤ 30) from (sm_leN ed rfl (show d ≤ 30 by omega) (show 30 < 2 ^ 31 by omega))) ?_
  refine mz_go 2 (c' := (24, [some (.ref 57), some (.int 1), some (.int 1), some (.int x), some (.int dd), some (.int 0), none], [.int 0, .int 1], mz_set (mz_set m 57 r) 59 g)) rfl ?_
  refine mz_doQ (R := mz_r66) (as := [.int 1, .int 0]) (rest := []) (r1 := some (.int 11)) (m1 := mz_set (mz_set m 57 r) 59 g) mz_t66 mz_v66 rfl rfl rfl rfl rfl ((kb_1_0 (m := mz_set (mz_set m 57 r) 59 g)).deep (by decide)) ?_
  refine mz_go 1 (c' := (29, [some (.ref 57), some (.int 1), some (.int 1), some (.int x), some (.int dd), some (.int 0), some (.int 11)], [], mz_set (mz_set m 57 r) 59 g)) rfl ?_
  refine Ee1 _ ?_
  refine mz_go 9 (c' := (73, [some (.ref 57), some (.int 1), some (.int 1), some (.int x), some (.int dd), some (.int 0), some (.int 11)], [.int (dd + 1), .int x, .int (-1), .int 11, .ref 57], mz_set (mz_set m 57 re1) 59 ge1)) rfl ?_
  refine mz_doQ (R := mz_r63) (as := [.ref 57, .int 11, .int (-1), .int x, .int (dd + 1)]) (rest := []) (r1 := some (.int (ve2 * 2))) (m1 := mz_set (mz_set m 57 re2) 59 ge2) mz_t63 mz_v63_57 rfl rfl rfl rfl rfl ⟨?_, rfl⟩ ?_
  · refine mz_go 6 (c' := (137, [some (.ref 57), some (.int 11), some (.int (-1)), some (.int x), some (.int (dd + 1))], [.int (re1 5), .int 0, .ref 57], mz_set (mz_set m 57 re1) 59 ge1)) rfl ?_
    rw [show re1 5 = r 5 from Xe1.2 5 (by decide) (by decide)]
    rw [h5]
    refine mz_go 2 (c' := (140, [some (.ref 57), some (.int 11), some (.int (-1)), some (.int x), some (.int (dd + 1))], [.int (dd + 1), .int x, .int (nI c), .int 0, .ref 57], mz_set (mz_set m 57 re1) 59 ge1)) rfl ?_
    refine mz_doQ (R := mz_r62) (as := [.ref 57, .int 0, .int (nI c), .int x, .int (dd + 1)]) (rest := []) (r1 := some (.int ve2)) (m1 := mz_set (mz_set m 57 re2) 59 ge2) mz_t62 mz_v62_57 rfl rfl rfl rfl rfl (Ee2.deep (by decide)) ?_
    refine mz_go 2 (c' := (145, [some (.ref 57), some (.int 11), some (.int (-1)), some (.int x), some (.int (dd + 1))], [.int (ve2 * 2)], mz_set (mz_set m 57 re2) 59 ge2)) rfl ?_
    exact mz_ret rfl
  exact mz_ret rfl
set_option maxHeartbeats 4000000 in
set_option maxRecDepth 100000 in
theorem vs0_1_2 {m : mz_M} {r g : Nat → Int32} (hr0 : vx_0 4 2 r) {c : Nat} (hc : c ≤ 6) (h5 : r 5 = nI c) (x : Int32) {dd : Int32} {d : Nat} (ed : dd = nI d) (hd : d ≤ 21) : ∃ z r' g', mz_Me 26 mz_r62 [.ref 57, .int 1, .int 2, .int x, .int dd] (mz_set (mz_set m 57 r) 59 g) (some (.int z)) (mz_set (mz_set m 57 r') 59 g') ∧ vx_k 4 2 r r' := by
  have hr1 := hr0
  obtain ⟨⟨B, hB, h4⟩, hp⟩ := hr1
  obtain ⟨re1, ge1, We1, Ee1⟩ := vs0_beg (m := m) (r := r) (g := g) ((vx_id hr0).1) (some (.int 1)) (some (.int 2)) (some (.int x)) (some (.int dd)) (some (.int 2)) 30 (D := 25)
  have Xe1 : vx_k 4 2 r re1 := vx_tr (vx_id hr0) We1
  obtain ⟨ve2, re2, ge2, Ee2, We2⟩ := vs0_1_0 (m := m) (r := re1) (g := ge1) (Xe1.1) hc ((Xe1.2 5 (by decide) (by decide)).trans h5)  x (dd := dd + 1) (d := (d + 1)) (sm_addN ed rfl) (by omega)
  have Xe2 : vx_k 4 2 r re2 := vx_tr Xe1 We2
  refine ⟨0 - ve2, re2, ge2, ⟨?_, rfl⟩, Xe2⟩
  refine mz_go 2 (c' := (2, [some (.ref 57), some (.int 1), some (.int 2), some (.int x), some (.int dd), none, none], [.int 2, .int 1], mz_set (mz_set m 57 r) 59 g)) rfl ?_
  refine mz_doQ (R := mz_r65) (as := [.int 1, .int 2]) (rest := []) (r1 := some (.int 2)) (m1 := mz_set (mz_set m 57 r) 59 g) mz_t65 mz_v65 rfl rfl rfl rfl rfl ((kh_1_2 (m := mz_set (mz_set m 57 r) 59 g)).deep (by decide)) ?_
  refine mz_go 6 (c' := (if dd ≤ 30 then 21 else 19, [some (.ref 57), some (.int 1), some (.int 2), some (.int x), some (.int dd), some (.int 2), none], [], mz_set (mz_set m 57 r) 59 g)) rfl ?_
  refine mz_ifT (show (dd ≤ 30) from (sm_leN ed rfl (show d ≤ 30 by omega) (show 30 < 2 ^ 31 by omega))) ?_
  refine mz_go 2 (c' := (24, [some (.ref 57), some (.int 1), some (.int 2), some (.int x), some (.int dd), some (.int 2), none], [.int 2, .int 1], mz_set (mz_set m 57 r) 59 g)) rfl ?_
  refine mz_doQ (R := mz_r66) (as := [.int 1, .int 2]) (rest := []) (r1 := some (.int 30)) (m1 := mz_set (mz_set m 57 r) 59 g) mz_t66 mz_v66 rfl rfl rfl rfl rfl ((kb_1_2 (m := mz_set (mz_set m 57 r) 59 g)).deep (by decide)) ?_
  refine mz_go 1 (c' := (29, [some (.ref 57), some (.int 1), some (.int 2), some (.int x), some (.int dd), some (.int 2), some (.int 30)], [], mz_set (mz_set m 57 r) 59 g)) rfl ?_
  refine Ee1 _ ?_
  refine mz_go 9 (c' := (73, [some (.ref 57), some (.int 1), some (.int 2), some (.int x), some (.int dd), some (.int 2), some (.int 30)], [.int (dd + 1), .int x, .int 0, .int 30, .ref 57], mz_set (mz_set m 57 re1) 59 ge1)) rfl ?_
  refine mz_doQ (R := mz_r63) (as := [.ref 57, .int 30, .int 0, .int x, .int (dd + 1)]) (rest := []) (r1 := some (.int (0 - ve2))) (m1 := mz_set (mz_set m 57 re2) 59 ge2) mz_t63 mz_v63_57 rfl rfl rfl rfl rfl ⟨?_, rfl⟩ ?_
  · refine mz_go 8 (c' := (204, [some (.ref 57), some (.int 30), some (.int 0), some (.int x), some (.int (dd + 1))], [.int (dd + 1), .int x, .int 0, .int 1, .ref 57, .int 0], mz_set (mz_set m 57 re1) 59 ge1)) rfl ?_
    refine mz_doQ (R := mz_r62) (as := [.ref 57, .int 1, .int 0, .int x, .int (dd + 1)]) (rest := [.int 0]) (r1 := some (.int ve2)) (m1 := mz_set (mz_set m 57 re2) 59 ge2) mz_t62 mz_v62_57 rfl rfl rfl rfl rfl (Ee2.deep (by decide)) ?_
    refine mz_go 1 (c' := (208, [some (.ref 57), some (.int 30), some (.int 0), some (.int x), some (.int (dd + 1))], [.int (0 - ve2)], mz_set (mz_set m 57 re2) 59 ge2)) rfl ?_
    exact mz_ret rfl
  exact mz_ret rfl
set_option maxHeartbeats 4000000 in
set_option maxRecDepth 100000 in
theorem vs0_1_3 {m : mz_M} {r g : Nat → Int32} (hr0 : vx_0 4 2 r) {c : Nat} (hc : c ≤ 6) (h5 : r 5 = nI c) (x : Int32) {dd : Int32} {d : Nat} (ed : dd = nI d) (hd : d ≤ 22) : ∃ z r' g', mz_Me 23 mz_r62 [.ref 57, .int 1, .int 3, .int x, .int dd] (mz_set (mz_set m 57 r) 59 g) (some (.int z)) (mz_set (mz_set m 57 r') 59 g') ∧ vx_k 4 2 r r' := by
  have hr1 := hr0
  obtain ⟨⟨B, hB, h4⟩, hp⟩ := hr1
  obtain ⟨re1, ge1, We1, Ee1⟩ := vs0_beg (m := m) (r := r) (g := g) ((vx_id hr0).1) (some (.int 1)) (some (.int 3)) (some (.int x)) (some (.int dd)) (some (.int 0)) 11 (D := 22)
  have Xe1 : vx_k 4 2 r re1 := vx_tr (vx_id hr0) We1
  obtain ⟨ve2, re2, ge2, Ee2, We2⟩ := vs0_0_any (m := m) (r := re1) (g := ge1) (Xe1.1) hc ((Xe1.2 5 (by decide) (by decide)).trans h5) (f := c) hc x (dd := dd + 1) (d := (d + 1)) (sm_addN ed rfl) (by omega)
  have Xe2 : vx_k 4 2 r re2 := vx_tr Xe1 We2
  refine ⟨ve2 * 2, re2, ge2, ⟨?_, rfl⟩, Xe2⟩
  refine mz_go 2 (c' := (2, [some (.ref 57), some (.int 1), some (.int 3), some (.int x), some (.int dd), none, none], [.int 3, .int 1], mz_set (mz_set m 57 r) 59 g)) rfl ?_
  refine mz_doQ (R := mz_r65) (as := [.int 1, .int 3]) (rest := []) (r1 := some (.int 0)) (m1 := mz_set (mz_set m 57 r) 59 g) mz_t65 mz_v65 rfl rfl rfl rfl rfl ((kh_1_3 (m := mz_set (mz_set m 57 r) 59 g)).deep (by decide)) ?_
  refine mz_go 6 (c' := (if dd ≤ 30 then 21 else 19, [some (.ref 57), some (.int 1), some (.int 3), some (.int x), some (.int dd), some (.int 0), none], [], mz_set (mz_set m 57 r) 59 g)) rfl ?_
  refine mz_ifT (show (dd ≤ 30) from (sm_leN ed rfl (show d ≤ 30 by omega) (show 30 < 2 ^ 31 by omega))) ?_
  refine mz_go 2 (c' := (24, [some (.ref 57), some (.int 1), some (.int 3), some (.int x), some (.int dd), some (.int 0), none], [.int 0, .int 1], mz_set (mz_set m 57 r) 59 g)) rfl ?_
  refine mz_doQ (R := mz_r66) (as := [.int 1, .int 0]) (rest := []) (r1 := some (.int 11)) (m1 := mz_set (mz_set m 57 r) 59 g) mz_t66 mz_v66 rfl rfl rfl rfl rfl ((kb_1_0 (m := mz_set (mz_set m 57 r) 59 g)).deep (by decide)) ?_
  refine mz_go 1 (c' := (29, [some (.ref 57), some (.int 1), some (.int 3), some (.int x), some (.int dd), some (.int 0), some (.int 11)], [], mz_set (mz_set m 57 r) 59 g)) rfl ?_
  refine Ee1 _ ?_
  refine mz_go 9 (c' := (73, [some (.ref 57), some (.int 1), some (.int 3), some (.int x), some (.int dd), some (.int 0), some (.int 11)], [.int (dd + 1), .int x, .int (-1), .int 11, .ref 57], mz_set (mz_set m 57 re1) 59 ge1)) rfl ?_
  refine mz_doQ (R := mz_r63) (as := [.ref 57, .int 11, .int (-1), .int x, .int (dd + 1)]) (rest := []) (r1 := some (.int (ve2 * 2))) (m1 := mz_set (mz_set m 57 re2) 59 ge2) mz_t63 mz_v63_57 rfl rfl rfl rfl rfl ⟨?_, rfl⟩ ?_
  · refine mz_go 6 (c' := (137, [some (.ref 57), some (.int 11), some (.int (-1)), some (.int x), some (.int (dd + 1))], [.int (re1 5), .int 0, .ref 57], mz_set (mz_set m 57 re1) 59 ge1)) rfl ?_
    rw [show re1 5 = r 5 from Xe1.2 5 (by decide) (by decide)]
    rw [h5]
    refine mz_go 2 (c' := (140, [some (.ref 57), some (.int 11), some (.int (-1)), some (.int x), some (.int (dd + 1))], [.int (dd + 1), .int x, .int (nI c), .int 0, .ref 57], mz_set (mz_set m 57 re1) 59 ge1)) rfl ?_
    refine mz_doQ (R := mz_r62) (as := [.ref 57, .int 0, .int (nI c), .int x, .int (dd + 1)]) (rest := []) (r1 := some (.int ve2)) (m1 := mz_set (mz_set m 57 re2) 59 ge2) mz_t62 mz_v62_57 rfl rfl rfl rfl rfl (Ee2.deep (by decide)) ?_
    refine mz_go 2 (c' := (145, [some (.ref 57), some (.int 11), some (.int (-1)), some (.int x), some (.int (dd + 1))], [.int (ve2 * 2)], mz_set (mz_set m 57 re2) 59 ge2)) rfl ?_
    exact mz_ret rfl
  exact mz_ret rfl
set_option maxHeartbeats 4000000 in
set_option maxRecDepth 100000 in
theorem vs0_1_4 {m : mz_M} {r g : Nat → Int32} (hr0 : vx_0 4 2 r) {c : Nat} (hc : c ≤ 6) (h5 : r 5 = nI c) (x : Int32) {dd : Int32} {d : Nat} (ed : dd = nI d) (hd : d ≤ 22) : ∃ z r' g', mz_Me 23 mz_r62 [.ref 57, .int 1, .int 4, .int x, .int dd] (mz_set (mz_set m 57 r) 59 g) (some (.int z)) (mz_set (mz_set m 57 r') 59 g') ∧ vx_k 4 2 r r' := by
  have hr1 := hr0
  obtain ⟨⟨B, hB, h4⟩, hp⟩ := hr1
  obtain ⟨re1, ge1, We1, Ee1⟩ := vs0_beg (m := m) (r := r) (g := g) ((vx_id hr0).1) (some (.int 1)) (some (.int 4)) (some (.int x)) (some (.int dd)) (some (.int 0)) 11 (D := 22)
  have Xe1 : vx_k 4 2 r re1 := vx_tr (vx_id hr0) We1
  obtain ⟨ve2, re2, ge2, Ee2, We2⟩ := vs0_0_any (m := m) (r := re1) (g := ge1) (Xe1.1) hc ((Xe1.2 5 (by decide) (by decide)).trans h5) (f := c) hc x (dd := dd + 1) (d := (d + 1)) (sm_addN ed rfl) (by omega)
  have Xe2 : vx_k 4 2 r re2 := vx_tr Xe1 We2
  refine ⟨ve2 * 2, re2, ge2, ⟨?_, rfl⟩, Xe2⟩
  refine mz_go 2 (c' := (2, [some (.ref 57), some (.int 1), some (.int 4), some (.int x), some (.int dd), none, none], [.int 4, .int 1], mz_set (mz_set m 57 r) 59 g)) rfl ?_
  refine mz_doQ (R := mz_r65) (as := [.int 1, .int 4]) (rest := []) (r1 := some (.int 0)) (m1 := mz_set (mz_set m 57 r) 59 g) mz_t65 mz_v65 rfl rfl rfl rfl rfl ((kh_1_4 (m := mz_set (mz_set m 57 r) 59 g)).deep (by decide)) ?_
  refine mz_go 6 (c' := (if dd ≤ 30 then 21 else 19, [some (.ref 57), some (.int 1), some (.int 4), some (.int x), some (.int dd), some (.int 0), none], [], mz_set (mz_set m 57 r) 59 g)) rfl ?_
  refine mz_ifT (show (dd ≤ 30) from (sm_leN ed rfl (show d ≤ 30 by omega) (show 30 < 2 ^ 31 by omega))) ?_
  refine mz_go 2 (c' := (24, [some (.ref 57), some (.int 1), some (.int 4), some (.int x), some (.int dd), some (.int 0), none], [.int 0, .int 1], mz_set (mz_set m 57 r) 59 g)) rfl ?_
  refine mz_doQ (R := mz_r66) (as := [.int 1, .int 0]) (rest := []) (r1 := some (.int 11)) (m1 := mz_set (mz_set m 57 r) 59 g) mz_t66 mz_v66 rfl rfl rfl rfl rfl ((kb_1_0 (m := mz_set (mz_set m 57 r) 59 g)).deep (by decide)) ?_
  refine mz_go 1 (c' := (29, [some (.ref 57), some (.int 1), some (.int 4), some (.int x), some (.int dd), some (.int 0), some (.int 11)], [], mz_set (mz_set m 57 r) 59 g)) rfl ?_
  refine Ee1 _ ?_
  refine mz_go 9 (c' := (73, [some (.ref 57), some (.int 1), some (.int 4), some (.int x), some (.int dd), some (.int 0), some (.int 11)], [.int (dd + 1), .int x, .int (-1), .int 11, .ref 57], mz_set (mz_set m 57 re1) 59 ge1)) rfl ?_
  refine mz_doQ (R := mz_r63) (as := [.ref 57, .int 11, .int (-1), .int x, .int (dd + 1)]) (rest := []) (r1 := some (.int (ve2 * 2))) (m1 := mz_set (mz_set m 57 re2) 59 ge2) mz_t63 mz_v63_57 rfl rfl rfl rfl rfl ⟨?_, rfl⟩ ?_
  · refine mz_go 6 (c' := (137, [some (.ref 57), some (.int 11), some (.int (-1)), some (.int x), some (.int (dd + 1))], [.int (re1 5), .int 0, .ref 57], mz_set (mz_set m 57 re1) 59 ge1)) rfl ?_
    rw [show re1 5 = r 5 from Xe1.2 5 (by decide) (by decide)]
    rw [h5]
    refine mz_go 2 (c' := (140, [some (.ref 57), some (.int 11), some (.int (-1)), some (.int x), some (.int (dd + 1))], [.int (dd + 1), .int x, .int (nI c), .int 0, .ref 57], mz_set (mz_set m 57 re1) 59 ge1)) rfl ?_
    refine mz_doQ (R := mz_r62) (as := [.ref 57, .int 0, .int (nI c), .int x, .int (dd + 1)]) (rest := []) (r1 := some (.int ve2)) (m1 := mz_set (mz_set m 57 re2) 59 ge2) mz_t62 mz_v62_57 rfl rfl rfl rfl rfl (Ee2.deep (by decide)) ?_
    refine mz_go 2 (c' := (145, [some (.ref 57), some (.int 11), some (.int (-1)), some (.int x), some (.int (dd + 1))], [.int (ve2 * 2)], mz_set (mz_set m 57 re2) 59 ge2)) rfl ?_
    exact mz_ret rfl
  exact mz_ret rfl
set_option maxHeartbeats 4000000 in
set_option maxRecDepth 100000 in
theorem vs0_1_5 {m : mz_M} {r g : Nat → Int32} (hr0 : vx_0 4 2 r) {c : Nat} (hc : c ≤ 6) (h5 : r 5 = nI c) (x : Int32) {dd : Int32} {d : Nat} (ed : dd = nI d) (hd : d ≤ 21) : ∃ z r' g', mz_Me 26 mz_r62 [.ref 57, .int 1, .int 5, .int x, .int dd] (mz_set (mz_set m 57 r) 59 g) (some (.int z)) (mz_set (mz_set m 57 r') 59 g') ∧ vx_k 4 2 r r' := by
  have hr1 := hr0
  obtain ⟨⟨B, hB, h4⟩, hp⟩ := hr1
  obtain ⟨re1, ge1, We1, Ee1⟩ := vs0_beg (m := m) (r := r) (g := g) ((vx_id hr0).1) (some (.int 1)) (some (.int 5)) (some (.int x)) (some (.int dd)) (some (.int 5)) 61 (D := 25)
  have Xe1 : vx_k 4 2 r re1 := vx_tr (vx_id hr0) We1
  obtain ⟨ve2, re2, ge2, Ee2, We2⟩ := vs0_1_3 (m := m) (r := re1) (g := ge1) (Xe1.1) hc ((Xe1.2 5 (by decide) (by decide)).trans h5)  x (dd := dd + 1) (d := (d + 1)) (sm_addN ed rfl) (by omega)
  have Xe2 : vx_k 4 2 r re2 := vx_tr Xe1 We2
  refine ⟨ve2 + (r 6), re2, ge2, ⟨?_, rfl⟩, Xe2⟩
  refine mz_go 2 (c' := (2, [some (.ref 57), some (.int 1), some (.int 5), some (.int x), some (.int dd), none, none], [.int 5, .int 1], mz_set (mz_set m 57 r) 59 g)) rfl ?_
  refine mz_doQ (R := mz_r65) (as := [.int 1, .int 5]) (rest := []) (r1 := some (.int 5)) (m1 := mz_set (mz_set m 57 r) 59 g) mz_t65 mz_v65 rfl rfl rfl rfl rfl ((kh_1_5 (m := mz_set (mz_set m 57 r) 59 g)).deep (by decide)) ?_
  refine mz_go 6 (c' := (if dd ≤ 30 then 21 else 19, [some (.ref 57), some (.int 1), some (.int 5), some (.int x), some (.int dd), some (.int 5), none], [], mz_set (mz_set m 57 r) 59 g)) rfl ?_
  refine mz_ifT (show (dd ≤ 30) from (sm_leN ed rfl (show d ≤ 30 by omega) (show 30 < 2 ^ 31 by omega))) ?_
  refine mz_go 2 (c' := (24, [some (.ref 57), some (.int 1), some (.int 5), some (.int x), some (.int dd), some (.int 5), none], [.int 5, .int 1], mz_set (mz_set m 57 r) 59 g)) rfl ?_
  refine mz_doQ (R := mz_r66) (as := [.int 1, .int 5]) (rest := []) (r1 := some (.int 61)) (m1 := mz_set (mz_set m 57 r) 59 g) mz_t66 mz_v66 rfl rfl rfl rfl rfl ((kb_1_5 (m := mz_set (mz_set m 57 r) 59 g)).deep (by decide)) ?_
  refine mz_go 1 (c' := (29, [some (.ref 57), some (.int 1), some (.int 5), some (.int x), some (.int dd), some (.int 5), some (.int 61)], [], mz_set (mz_set m 57 r) 59 g)) rfl ?_
  refine Ee1 _ ?_
  refine mz_go 9 (c' := (73, [some (.ref 57), some (.int 1), some (.int 5), some (.int x), some (.int dd), some (.int 5), some (.int 61)], [.int (dd + 1), .int x, .int 3, .int 61, .ref 57], mz_set (mz_set m 57 re1) 59 ge1)) rfl ?_
  refine mz_doQ (R := mz_r63) (as := [.ref 57, .int 61, .int 3, .int x, .int (dd + 1)]) (rest := []) (r1 := some (.int (ve2 + (r 6)))) (m1 := mz_set (mz_set m 57 re2) 59 ge2) mz_t63 mz_v63_57 rfl rfl rfl rfl rfl ⟨?_, rfl⟩ ?_
  · refine mz_go 7 (c' := (297, [some (.ref 57), some (.int 61), some (.int 3), some (.int x), some (.int (dd + 1))], [.int (dd + 1), .int x, .int 3, .int 1, .ref 57], mz_set (mz_set m 57 re1) 59 ge1)) rfl ?_
    refine mz_doQ (R := mz_r62) (as := [.ref 57, .int 1, .int 3, .int x, .int (dd + 1)]) (rest := []) (r1 := some (.int ve2)) (m1 := mz_set (mz_set m 57 re2) 59 ge2) mz_t62 mz_v62_57 rfl rfl rfl rfl rfl (Ee2.deep (by decide)) ?_
    refine mz_go 2 (c' := (304, [some (.ref 57), some (.int 61), some (.int 3), some (.int x), some (.int (dd + 1))], [.int (re2 6), .int ve2], mz_set (mz_set m 57 re2) 59 ge2)) rfl ?_
    rw [show re2 6 = r 6 from Xe2.2 6 (by decide) (by decide)]
    refine mz_go 1 (c' := (305, [some (.ref 57), some (.int 61), some (.int 3), some (.int x), some (.int (dd + 1))], [.int (ve2 + (r 6))], mz_set (mz_set m 57 re2) 59 ge2)) rfl ?_
    exact mz_ret rfl
  exact mz_ret rfl
set_option maxHeartbeats 4000000 in
set_option maxRecDepth 100000 in
theorem vs0_1_6 {m : mz_M} {r g : Nat → Int32} (hr0 : vx_0 4 2 r) {c : Nat} (hc : c ≤ 6) (h5 : r 5 = nI c) (x : Int32) {dd : Int32} {d : Nat} (ed : dd = nI d) (hd : d ≤ 20) : ∃ z r' g', mz_Me 29 mz_r62 [.ref 57, .int 1, .int 6, .int x, .int dd] (mz_set (mz_set m 57 r) 59 g) (some (.int z)) (mz_set (mz_set m 57 r') 59 g') ∧ vx_k 4 2 r r' := by
  have hr1 := hr0
  obtain ⟨⟨B, hB, h4⟩, hp⟩ := hr1
  obtain ⟨re1, ge1, We1, Ee1⟩ := vs0_beg (m := m) (r := r) (g := g) ((vx_id hr0).1) (some (.int 1)) (some (.int 6)) (some (.int x)) (some (.int dd)) (some (.int 6)) 70 (D := 28)
  have Xe1 : vx_k 4 2 r re1 := vx_tr (vx_id hr0) We1
  obtain ⟨ve2, re2, ge2, Ee2, We2⟩ := vs0_1_2 (m := m) (r := re1) (g := ge1) (Xe1.1) hc ((Xe1.2 5 (by decide) (by decide)).trans h5)  x (dd := dd + 1) (d := (d + 1)) (sm_addN ed rfl) (by omega)
  have Xe2 : vx_k 4 2 r re2 := vx_tr Xe1 We2
  refine ⟨ve2 * 2, re2, ge2, ⟨?_, rfl⟩, Xe2⟩
  refine mz_go 2 (c' := (2, [some (.ref 57), some (.int 1), some (.int 6), some (.int x), some (.int dd), none, none], [.int 6, .int 1], mz_set (mz_set m 57 r) 59 g)) rfl ?_
  refine mz_doQ (R := mz_r65) (as := [.int 1, .int 6]) (rest := []) (r1 := some (.int 6)) (m1 := mz_set (mz_set m 57 r) 59 g) mz_t65 mz_v65 rfl rfl rfl rfl rfl ((kh_1_6 (m := mz_set (mz_set m 57 r) 59 g)).deep (by decide)) ?_
  refine mz_go 6 (c' := (if dd ≤ 30 then 21 else 19, [some (.ref 57), some (.int 1), some (.int 6), some (.int x), some (.int dd), some (.int 6), none], [], mz_set (mz_set m 57 r) 59 g)) rfl ?_
  refine mz_ifT (show (dd ≤ 30) from (sm_leN ed rfl (show d ≤ 30 by omega) (show 30 < 2 ^ 31 by omega))) ?_
  refine mz_go 2 (c' := (24, [some (.ref 57), some (.int 1), some (.int 6), some (.int x), some (.int dd), some (.int 6), none], [.int 6, .int 1], mz_set (mz_set m 57 r) 59 g)) rfl ?_
  refine mz_doQ (R := mz_r66) (as := [.int 1, .int 6]) (rest := []) (r1 := some (.int 70)) (m1 := mz_set (mz_set m 57 r) 59 g) mz_t66 mz_v66 rfl rfl rfl rfl rfl ((kb_1_6 (m := mz_set (mz_set m 57 r) 59 g)).deep (by decide)) ?_
  refine mz_go 1 (c' := (29, [some (.ref 57), some (.int 1), some (.int 6), some (.int x), some (.int dd), some (.int 6), some (.int 70)], [], mz_set (mz_set m 57 r) 59 g)) rfl ?_
  refine Ee1 _ ?_
  refine mz_go 9 (c' := (73, [some (.ref 57), some (.int 1), some (.int 6), some (.int x), some (.int dd), some (.int 6), some (.int 70)], [.int (dd + 1), .int x, .int 2, .int 70, .ref 57], mz_set (mz_set m 57 re1) 59 ge1)) rfl ?_
  refine mz_doQ (R := mz_r63) (as := [.ref 57, .int 70, .int 2, .int x, .int (dd + 1)]) (rest := []) (r1 := some (.int (ve2 * 2))) (m1 := mz_set (mz_set m 57 re2) 59 ge2) mz_t63 mz_v63_57 rfl rfl rfl rfl rfl ⟨?_, rfl⟩ ?_
  · refine mz_go 7 (c' := (312, [some (.ref 57), some (.int 70), some (.int 2), some (.int x), some (.int (dd + 1))], [.int (dd + 1), .int x, .int 2, .int 1, .ref 57], mz_set (mz_set m 57 re1) 59 ge1)) rfl ?_
    refine mz_doQ (R := mz_r62) (as := [.ref 57, .int 1, .int 2, .int x, .int (dd + 1)]) (rest := []) (r1 := some (.int ve2)) (m1 := mz_set (mz_set m 57 re2) 59 ge2) mz_t62 mz_v62_57 rfl rfl rfl rfl rfl (Ee2.deep (by decide)) ?_
    refine mz_go 2 (c' := (317, [some (.ref 57), some (.int 70), some (.int 2), some (.int x), some (.int (dd + 1))], [.int (ve2 * 2)], mz_set (mz_set m 57 re2) 59 ge2)) rfl ?_
    exact mz_ret rfl
  exact mz_ret rfl
set_option maxHeartbeats 4000000 in
set_option maxRecDepth 100000 in
theorem vs0_1_any {m : mz_M} {r g : Nat → Int32} (hr0 : vx_0 4 2 r) {c : Nat} (hc : c ≤ 6) (h5 : r 5 = nI c) {f : Nat} (hf : f ≤ 6) (x : Int32) {dd : Int32} {d : Nat} (ed : dd = nI d) (hd : d ≤ 19) : ∃ z r' g', mz_Me 36 mz_r62 [.ref 57, .int 1, .int (nI f), .int x, .int dd] (mz_set (mz_set m 57 r) 59 g) (some (.int z)) (mz_set (mz_set m 57 r') 59 g') ∧ vx_k 4 2 r r' := by
  rcases (show f = 0 ∨ f = 1 ∨ f = 2 ∨ f = 3 ∨ f = 4 ∨ f = 5 ∨ f = 6 by omega) with rfl | rfl | rfl | rfl | rfl | rfl | rfl
  · obtain ⟨z, r', g', E, W⟩ := vs0_1_0 (m := m) (g := g) hr0 hc h5 x ed (by omega)
    exact ⟨z, r', g', E.deep (by decide), W⟩
  · obtain ⟨z, r', g', E, W⟩ := vs0_1_1 (m := m) (g := g) hr0 hc h5 x ed (by omega)
    exact ⟨z, r', g', E.deep (by decide), W⟩
  · obtain ⟨z, r', g', E, W⟩ := vs0_1_2 (m := m) (g := g) hr0 hc h5 x ed (by omega)
    exact ⟨z, r', g', E.deep (by decide), W⟩
  · obtain ⟨z, r', g', E, W⟩ := vs0_1_3 (m := m) (g := g) hr0 hc h5 x ed (by omega)
    exact ⟨z, r', g', E.deep (by decide), W⟩
  · obtain ⟨z, r', g', E, W⟩ := vs0_1_4 (m := m) (g := g) hr0 hc h5 x ed (by omega)
    exact ⟨z, r', g', E.deep (by decide), W⟩
  · obtain ⟨z, r', g', E, W⟩ := vs0_1_5 (m := m) (g := g) hr0 hc h5 x ed (by omega)
    exact ⟨z, r', g', E.deep (by decide), W⟩
  · obtain ⟨z, r', g', E, W⟩ := vs0_1_6 (m := m) (g := g) hr0 hc h5 x ed (by omega)
    exact ⟨z, r', g', E.deep (by decide), W⟩
set_option maxHeartbeats 4000000 in
set_option maxRecDepth 100000 in
theorem vs0_2_0 {m : mz_M} {r g : Nat → Int32} (hr0 : vx_0 4 2 r) {c : Nat} (hc : c ≤ 6) (h5 : r 5 = nI c) (x : Int32) {dd : Int32} {d : Nat} (ed : dd = nI d) (hd : d ≤ 18) : ∃ z r' g', mz_Me 39 mz_r62 [.ref 57, .int 2, .int 0, .int x, .int dd] (mz_set (mz_set m 57 r) 59 g) (some (.int z)) (mz_set (mz_set m 57 r') 59 g') ∧ vx_k 4 2 r r' := by
  have hr1 := hr0
  obtain ⟨⟨B, hB, h4⟩, hp⟩ := hr1
  obtain ⟨re1, ge1, We1, Ee1⟩ := vs0_beg (m := m) (r := r) (g := g) ((vx_id hr0).1) (some (.int 2)) (some (.int 0)) (some (.int x)) (some (.int dd)) (some (.int 0)) 12 (D := 38)
  have Xe1 : vx_k 4 2 r re1 := vx_tr (vx_id hr0) We1
  obtain ⟨ve2, re2, ge2, Ee2, We2⟩ := vs0_1_any (m := m) (r := re1) (g := ge1) (Xe1.1) hc ((Xe1.2 5 (by decide) (by decide)).trans h5) (f := c) hc x (dd := dd + 1) (d := (d + 1)) (sm_addN ed rfl) (by omega)
  have Xe2 : vx_k 4 2 r re2 := vx_tr Xe1 We2
  refine ⟨ve2 - (r 6), re2, ge2, ⟨?_, rfl⟩, Xe2⟩
  refine mz_go 2 (c' := (2, [some (.ref 57), some (.int 2), some (.int 0), some (.int x), some (.int dd), none, none], [.int 0, .int 2], mz_set (mz_set m 57 r) 59 g)) rfl ?_
  refine mz_doQ (R := mz_r65) (as := [.int 2, .int 0]) (rest := []) (r1 := some (.int 0)) (m1 := mz_set (mz_set m 57 r) 59 g) mz_t65 mz_v65 rfl rfl rfl rfl rfl ((kh_2_0 (m := mz_set (mz_set m 57 r) 59 g)).deep (by decide)) ?_
  refine mz_go 6 (c' := (if dd ≤ 30 then 21 else 19, [some (.ref 57), some (.int 2), some (.int 0), some (.int x), some (.int dd), some (.int 0), none], [], mz_set (mz_set m 57 r) 59 g)) rfl ?_
  refine mz_ifT (show (dd ≤ 30) from (sm_leN ed rfl (show d ≤ 30 by omega) (show 30 < 2 ^ 31 by omega))) ?_
  refine mz_go 2 (c' := (24, [some (.ref 57), some (.int 2), some (.int 0), some (.int x), some (.int dd), some (.int 0), none], [.int 0, .int 2], mz_set (mz_set m 57 r) 59 g)) rfl ?_
  refine mz_doQ (R := mz_r66) (as := [.int 2, .int 0]) (rest := []) (r1 := some (.int 12)) (m1 := mz_set (mz_set m 57 r) 59 g) mz_t66 mz_v66 rfl rfl rfl rfl rfl ((kb_2_0 (m := mz_set (mz_set m 57 r) 59 g)).deep (by decide)) ?_
  refine mz_go 1 (c' := (29, [some (.ref 57), some (.int 2), some (.int 0), some (.int x), some (.int dd), some (.int 0), some (.int 12)], [], mz_set (mz_set m 57 r) 59 g)) rfl ?_
  refine Ee1 _ ?_
  refine mz_go 9 (c' := (73, [some (.ref 57), some (.int 2), some (.int 0), some (.int x), some (.int dd), some (.int 0), some (.int 12)], [.int (dd + 1), .int x, .int (-1), .int 12, .ref 57], mz_set (mz_set m 57 re1) 59 ge1)) rfl ?_
  refine mz_doQ (R := mz_r63) (as := [.ref 57, .int 12, .int (-1), .int x, .int (dd + 1)]) (rest := []) (r1 := some (.int (ve2 - (r 6)))) (m1 := mz_set (mz_set m 57 re2) 59 ge2) mz_t63 mz_v63_57 rfl rfl rfl rfl rfl ⟨?_, rfl⟩ ?_
  · refine mz_go 6 (c' := (152, [some (.ref 57), some (.int 12), some (.int (-1)), some (.int x), some (.int (dd + 1))], [.int (re1 5), .int 1, .ref 57], mz_set (mz_set m 57 re1) 59 ge1)) rfl ?_
    rw [show re1 5 = r 5 from Xe1.2 5 (by decide) (by decide)]
    rw [h5]
    refine mz_go 2 (c' := (155, [some (.ref 57), some (.int 12), some (.int (-1)), some (.int x), some (.int (dd + 1))], [.int (dd + 1), .int x, .int (nI c), .int 1, .ref 57], mz_set (mz_set m 57 re1) 59 ge1)) rfl ?_
    refine mz_doQ (R := mz_r62) (as := [.ref 57, .int 1, .int (nI c), .int x, .int (dd + 1)]) (rest := []) (r1 := some (.int ve2)) (m1 := mz_set (mz_set m 57 re2) 59 ge2) mz_t62 mz_v62_57 rfl rfl rfl rfl rfl (Ee2.deep (by decide)) ?_
    refine mz_go 2 (c' := (162, [some (.ref 57), some (.int 12), some (.int (-1)), some (.int x), some (.int (dd + 1))], [.int (re2 6), .int ve2], mz_set (mz_set m 57 re2) 59 ge2)) rfl ?_
    rw [show re2 6 = r 6 from Xe2.2 6 (by decide) (by decide)]
    refine mz_go 1 (c' := (163, [some (.ref 57), some (.int 12), some (.int (-1)), some (.int x), some (.int (dd + 1))], [.int (ve2 - (r 6))], mz_set (mz_set m 57 re2) 59 ge2)) rfl ?_
    exact mz_ret rfl
  exact mz_ret rfl
set_option maxHeartbeats 4000000 in
set_option maxRecDepth 100000 in
theorem vs0_2_1 {m : mz_M} {r g : Nat → Int32} (hr0 : vx_0 4 2 r) {c : Nat} (hc : c ≤ 6) (h5 : r 5 = nI c) (x : Int32) {dd : Int32} {d : Nat} (ed : dd = nI d) (hd : d ≤ 17) : ∃ z r' g', mz_Me 42 mz_r62 [.ref 57, .int 2, .int 1, .int x, .int dd] (mz_set (mz_set m 57 r) 59 g) (some (.int z)) (mz_set (mz_set m 57 r') 59 g') ∧ vx_k 4 2 r r' := by
  have hr1 := hr0
  obtain ⟨⟨B, hB, h4⟩, hp⟩ := hr1
  obtain ⟨re1, ge1, We1, Ee1⟩ := vs0_beg (m := m) (r := r) (g := g) ((vx_id hr0).1) (some (.int 2)) (some (.int 1)) (some (.int x)) (some (.int dd)) (some (.int 1)) 21 (D := 41)
  have Xe1 : vx_k 4 2 r re1 := vx_tr (vx_id hr0) We1
  obtain ⟨ve2, re2, ge2, Ee2, We2⟩ := vs0_2_0 (m := m) (r := re1) (g := ge1) (Xe1.1) hc ((Xe1.2 5 (by decide) (by decide)).trans h5)  x (dd := dd + 1) (d := (d + 1)) (sm_addN ed rfl) (by omega)
  have Xe2 : vx_k 4 2 r re2 := vx_tr Xe1 We2
  refine ⟨ve2 ^^^ (r 7), re2, ge2, ⟨?_, rfl⟩, Xe2⟩
  refine mz_go 2 (c' := (2, [some (.ref 57), some (.int 2), some (.int 1), some (.int x), some (.int dd), none, none], [.int 1, .int 2], mz_set (mz_set m 57 r) 59 g)) rfl ?_
  refine mz_doQ (R := mz_r65) (as := [.int 2, .int 1]) (rest := []) (r1 := some (.int 1)) (m1 := mz_set (mz_set m 57 r) 59 g) mz_t65 mz_v65 rfl rfl rfl rfl rfl ((kh_2_1 (m := mz_set (mz_set m 57 r) 59 g)).deep (by decide)) ?_
  refine mz_go 6 (c' := (if dd ≤ 30 then 21 else 19, [some (.ref 57), some (.int 2), some (.int 1), some (.int x), some (.int dd), some (.int 1), none], [], mz_set (mz_set m 57 r) 59 g)) rfl ?_
  refine mz_ifT (show (dd ≤ 30) from (sm_leN ed rfl (show d ≤ 30 by omega) (show 30 < 2 ^ 31 by omega))) ?_
  refine mz_go 2 (c' := (24, [some (.ref 57), some (.int 2), some (.int 1), some (.int x), some (.int dd), some (.int 1), none], [.int 1, .int 2], mz_set (mz_set m 57 r) 59 g)) rfl ?_
  refine mz_doQ (R := mz_r66) (as := [.int 2, .int 1]) (rest := []) (r1 := some (.int 21)) (m1 := mz_set (mz_set m 57 r) 59 g) mz_t66 mz_v66 rfl rfl rfl rfl rfl ((kb_2_1 (m := mz_set (mz_set m 57 r) 59 g)).deep (by decide)) ?_
  refine mz_go 1 (c' := (29, [some (.ref 57), some (.int 2), some (.int 1), some (.int x), some (.int dd), some (.int 1), some (.int 21)], [], mz_set (mz_set m 57 r) 59 g)) rfl ?_
  refine Ee1 _ ?_
  refine mz_go 9 (c' := (73, [some (.ref 57), some (.int 2), some (.int 1), some (.int x), some (.int dd), some (.int 1), some (.int 21)], [.int (dd + 1), .int x, .int 0, .int 21, .ref 57], mz_set (mz_set m 57 re1) 59 ge1)) rfl ?_
  refine mz_doQ (R := mz_r63) (as := [.ref 57, .int 21, .int 0, .int x, .int (dd + 1)]) (rest := []) (r1 := some (.int (ve2 ^^^ (r 7)))) (m1 := mz_set (mz_set m 57 re2) 59 ge2) mz_t63 mz_v63_57 rfl rfl rfl rfl rfl ⟨?_, rfl⟩ ?_
  · refine mz_go 7 (c' := (188, [some (.ref 57), some (.int 21), some (.int 0), some (.int x), some (.int (dd + 1))], [.int (dd + 1), .int x, .int 0, .int 2, .ref 57], mz_set (mz_set m 57 re1) 59 ge1)) rfl ?_
    refine mz_doQ (R := mz_r62) (as := [.ref 57, .int 2, .int 0, .int x, .int (dd + 1)]) (rest := []) (r1 := some (.int ve2)) (m1 := mz_set (mz_set m 57 re2) 59 ge2) mz_t62 mz_v62_57 rfl rfl rfl rfl rfl (Ee2.deep (by decide)) ?_
    refine mz_go 2 (c' := (195, [some (.ref 57), some (.int 21), some (.int 0), some (.int x), some (.int (dd + 1))], [.int (re2 7), .int ve2], mz_set (mz_set m 57 re2) 59 ge2)) rfl ?_
    rw [show re2 7 = r 7 from Xe2.2 7 (by decide) (by decide)]
    refine mz_go 1 (c' := (196, [some (.ref 57), some (.int 21), some (.int 0), some (.int x), some (.int (dd + 1))], [.int (ve2 ^^^ (r 7))], mz_set (mz_set m 57 re2) 59 ge2)) rfl ?_
    exact mz_ret rfl
  exact mz_ret rfl
set_option maxHeartbeats 4000000 in
set_option maxRecDepth 100000 in
theorem vs0_2_2 {m : mz_M} {r g : Nat → Int32} (hr0 : vx_0 4 2 r) {c : Nat} (hc : c ≤ 6) (h5 : r 5 = nI c) (x : Int32) {dd : Int32} {d : Nat} (ed : dd = nI d) (hd : d ≤ 18) : ∃ z r' g', mz_Me 39 mz_r62 [.ref 57, .int 2, .int 2, .int x, .int dd] (mz_set (mz_set m 57 r) 59 g) (some (.int z)) (mz_set (mz_set m 57 r') 59 g') ∧ vx_k 4 2 r r' := by
  have hr1 := hr0
  obtain ⟨⟨B, hB, h4⟩, hp⟩ := hr1
  obtain ⟨re1, ge1, We1, Ee1⟩ := vs0_beg (m := m) (r := r) (g := g) ((vx_id hr0).1) (some (.int 2)) (some (.int 2)) (some (.int x)) (some (.int dd)) (some (.int 0)) 12 (D := 38)
  have Xe1 : vx_k 4 2 r re1 := vx_tr (vx_id hr0) We1
  obtain ⟨ve2, re2, ge2, Ee2, We2⟩ := vs0_1_any (m := m) (r := re1) (g := ge1) (Xe1.1) hc ((Xe1.2 5 (by decide) (by decide)).trans h5) (f := c) hc x (dd := dd + 1) (d := (d + 1)) (sm_addN ed rfl) (by omega)
  have Xe2 : vx_k 4 2 r re2 := vx_tr Xe1 We2
  refine ⟨ve2 - (r 6), re2, ge2, ⟨?_, rfl⟩, Xe2⟩
  refine mz_go 2 (c' := (2, [some (.ref 57), some (.int 2), some (.int 2), some (.int x), some (.int dd), none, none], [.int 2, .int 2], mz_set (mz_set m 57 r) 59 g)) rfl ?_
  refine mz_doQ (R := mz_r65) (as := [.int 2, .int 2]) (rest := []) (r1 := some (.int 0)) (m1 := mz_set (mz_set m 57 r) 59 g) mz_t65 mz_v65 rfl rfl rfl rfl rfl ((kh_2_2 (m := mz_set (mz_set m 57 r) 59 g)).deep (by decide)) ?_
  refine mz_go 6 (c' := (if dd ≤ 30 then 21 else 19, [some (.ref 57), some (.int 2), some (.int 2), some (.int x), some (.int dd), some (.int 0), none], [], mz_set (mz_set m 57 r) 59 g)) rfl ?_
  refine mz_ifT (show (dd ≤ 30) from (sm_leN ed rfl (show d ≤ 30 by omega) (show 30 < 2 ^ 31 by omega))) ?_
  refine mz_go 2 (c' := (24, [some (.ref 57), some (.int 2), some (.int 2), some (.int x), some (.int dd), some (.int 0), none], [.int 0, .int 2], mz_set (mz_set m 57 r) 59 g)) rfl ?_
  refine mz_doQ (R := mz_r66) (as := [.int 2, .int 0]) (rest := []) (r1 := some (.int 12)) (m1 := mz_set (mz_set m 57 r) 59 g) mz_t66 mz_v66 rfl rfl rfl rfl rfl ((kb_2_0 (m := mz_set (mz_set m 57 r) 59 g)).deep (by decide)) ?_
  refine mz_go 1 (c' := (29, [some (.ref 57), some (.int 2), some (.int 2), some (.int x), some (.int dd), some (.int 0), some (.int 12)], [], mz_set (mz_set m 57 r) 59 g)) rfl ?_
  refine Ee1 _ ?_
  refine mz_go 9 (c' := (73, [some (.ref 57), some (.int 2), some (.int 2), some (.int x), some (.int dd), some (.int 0), some (.int 12)], [.int (dd + 1), .int x, .int (-1), .int 12, .ref 57], mz_set (mz_set m 57 re1) 59 ge1)) rfl ?_
  refine mz_doQ (R := mz_r63) (as := [.ref 57, .int 12, .int (-1), .int x, .int (dd + 1)]) (rest := []) (r1 := some (.int (ve2 - (r 6)))) (m1 := mz_set (mz_set m 57 re2) 59 ge2) mz_t63 mz_v63_57 rfl rfl rfl rfl rfl ⟨?_, rfl⟩ ?_
  · refine mz_go 6 (c' := (152, [some (.ref 57), some (.int 12), some (.int (-1)), some (.int x), some (.int (dd + 1))], [.int (re1 5), .int 1, .ref 57], mz_set (mz_set m 57 re1) 59 ge1)) rfl ?_
    rw [show re1 5 = r 5 from Xe1.2 5 (by decide) (by decide)]
    rw [h5]
    refine mz_go 2 (c' := (155, [some (.ref 57), some (.int 12), some (.int (-1)), some (.int x), some (.int (dd + 1))], [.int (dd + 1), .int x, .int (nI c), .int 1, .ref 57], mz_set (mz_set m 57 re1) 59 ge1)) rfl ?_
    refine mz_doQ (R := mz_r62) (as := [.ref 57, .int 1, .int (nI c), .int x, .int (dd + 1)]) (rest := []) (r1 := some (.int ve2)) (m1 := mz_set (mz_set m 57 re2) 59 ge2) mz_t62 mz_v62_57 rfl rfl rfl rfl rfl (Ee2.deep (by decide)) ?_
    refine mz_go 2 (c' := (162, [some (.ref 57), some (.int 12), some (.int (-1)), some (.int x), some (.int (dd + 1))], [.int (re2 6), .int ve2], mz_set (mz_set m 57 re2) 59 ge2)) rfl ?_
    rw [show re2 6 = r 6 from Xe2.2 6 (by decide) (by decide)]
    refine mz_go 1 (c' := (163, [some (.ref 57), some (.int 12), some (.int (-1)), some (.int x), some (.int (dd + 1))], [.int (ve2 - (r 6))], mz_set (mz_set m 57 re2) 59 ge2)) rfl ?_
    exact mz_ret rfl
  exact mz_ret rfl
set_option maxHeartbeats 4000000 in
set_option maxRecDepth 100000 in
theorem vs0_2_3 {m : mz_M} {r g : Nat → Int32} (hr0 : vx_0 4 2 r) {c : Nat} (hc : c ≤ 6) (h5 : r 5 = nI c) (x : Int32) {dd : Int32} {d : Nat} (ed : dd = nI d) (hd : d ≤ 17) : ∃ z r' g', mz_Me 42 mz_r62 [.ref 57, .int 2, .int 3, .int x, .int dd] (mz_set (mz_set m 57 r) 59 g) (some (.int z)) (mz_set (mz_set m 57 r') 59 g') ∧ vx_k 4 2 r r' := by
  have hr1 := hr0
  obtain ⟨⟨B, hB, h4⟩, hp⟩ := hr1
  obtain ⟨re1, ge1, We1, Ee1⟩ := vs0_beg (m := m) (r := r) (g := g) ((vx_id hr0).1) (some (.int 2)) (some (.int 3)) (some (.int x)) (some (.int dd)) (some (.int 3)) 40 (D := 41)
  have Xe1 : vx_k 4 2 r re1 := vx_tr (vx_id hr0) We1
  obtain ⟨ve2, re2, ge2, Ee2, We2⟩ := vs0_2_0 (m := m) (r := re1) (g := ge1) (Xe1.1) hc ((Xe1.2 5 (by decide) (by decide)).trans h5)  (x + 2) (dd := dd + 1) (d := (d + 1)) (sm_addN ed rfl) (by omega)
  have Xe2 : vx_k 4 2 r re2 := vx_tr Xe1 We2
  refine ⟨ve2, re2, ge2, ⟨?_, rfl⟩, Xe2⟩
  refine mz_go 2 (c' := (2, [some (.ref 57), some (.int 2), some (.int 3), some (.int x), some (.int dd), none, none], [.int 3, .int 2], mz_set (mz_set m 57 r) 59 g)) rfl ?_
  refine mz_doQ (R := mz_r65) (as := [.int 2, .int 3]) (rest := []) (r1 := some (.int 3)) (m1 := mz_set (mz_set m 57 r) 59 g) mz_t65 mz_v65 rfl rfl rfl rfl rfl ((kh_2_3 (m := mz_set (mz_set m 57 r) 59 g)).deep (by decide)) ?_
  refine mz_go 6 (c' := (if dd ≤ 30 then 21 else 19, [some (.ref 57), some (.int 2), some (.int 3), some (.int x), some (.int dd), some (.int 3), none], [], mz_set (mz_set m 57 r) 59 g)) rfl ?_
  refine mz_ifT (show (dd ≤ 30) from (sm_leN ed rfl (show d ≤ 30 by omega) (show 30 < 2 ^ 31 by omega))) ?_
  refine mz_go 2 (c' := (24, [some (.ref 57), some (.int 2), some (.int 3), some (.int x), some (.int dd), some (.int 3), none], [.int 3, .int 2], mz_set (mz_set m 57 r) 59 g)) rfl ?_
  refine mz_doQ (R := mz_r66) (as := [.int 2, .int 3]) (rest := []) (r1 := some (.int 40)) (m1 := mz_set (mz_set m 57 r) 59 g) mz_t66 mz_v66 rfl rfl rfl rfl rfl ((kb_2_3 (m := mz_set (mz_set m 57 r) 59 g)).deep (by decide)) ?_
  refine mz_go 1 (c' := (29, [some (.ref 57), some (.int 2), some (.int 3), some (.int x), some (.int dd), some (.int 3), some (.int 40)], [], mz_set (mz_set m 57 r) 59 g)) rfl ?_
  refine Ee1 _ ?_
  refine mz_go 9 (c' := (73, [some (.ref 57), some (.int 2), some (.int 3), some (.int x), some (.int dd), some (.int 3), some (.int 40)], [.int (dd + 1), .int x, .int 0, .int 40, .ref 57], mz_set (mz_set m 57 re1) 59 ge1)) rfl ?_
  refine mz_doQ (R := mz_r63) (as := [.ref 57, .int 40, .int 0, .int x, .int (dd + 1)]) (rest := []) (r1 := some (.int ve2)) (m1 := mz_set (mz_set m 57 re2) 59 ge2) mz_t63 mz_v63_57 rfl rfl rfl rfl rfl ⟨?_, rfl⟩ ?_
  · refine mz_go 9 (c' := (240, [some (.ref 57), some (.int 40), some (.int 0), some (.int x), some (.int (dd + 1))], [.int (dd + 1), .int (x + 2), .int 0, .int 2, .ref 57], mz_set (mz_set m 57 re1) 59 ge1)) rfl ?_
    refine mz_doQ (R := mz_r62) (as := [.ref 57, .int 2, .int 0, .int (x + 2), .int (dd + 1)]) (rest := []) (r1 := some (.int ve2)) (m1 := mz_set (mz_set m 57 re2) 59 ge2) mz_t62 mz_v62_57 rfl rfl rfl rfl rfl (Ee2.deep (by decide)) ?_
    exact mz_ret rfl
  exact mz_ret rfl
set_option maxHeartbeats 4000000 in
set_option maxRecDepth 100000 in
theorem vs0_2_4 {m : mz_M} {r g : Nat → Int32} (hr0 : vx_0 4 2 r) {c : Nat} (hc : c ≤ 6) (h5 : r 5 = nI c) (x : Int32) {dd : Int32} {d : Nat} (ed : dd = nI d) (hd : d ≤ 17) : ∃ z r' g', mz_Me 42 mz_r62 [.ref 57, .int 2, .int 4, .int x, .int dd] (mz_set (mz_set m 57 r) 59 g) (some (.int z)) (mz_set (mz_set m 57 r') 59 g') ∧ vx_k 4 2 r r' := by
  have hr1 := hr0
  obtain ⟨⟨B, hB, h4⟩, hp⟩ := hr1
  obtain ⟨re1, ge1, We1, Ee1⟩ := vs0_beg (m := m) (r := r) (g := g) ((vx_id hr0).1) (some (.int 2)) (some (.int 4)) (some (.int x)) (some (.int dd)) (some (.int 1)) 21 (D := 41)
  have Xe1 : vx_k 4 2 r re1 := vx_tr (vx_id hr0) We1
  obtain ⟨ve2, re2, ge2, Ee2, We2⟩ := vs0_2_0 (m := m) (r := re1) (g := ge1) (Xe1.1) hc ((Xe1.2 5 (by decide) (by decide)).trans h5)  x (dd := dd + 1) (d := (d + 1)) (sm_addN ed rfl) (by omega)
  have Xe2 : vx_k 4 2 r re2 := vx_tr Xe1 We2
  refine ⟨ve2 ^^^ (r 7), re2, ge2, ⟨?_, rfl⟩, Xe2⟩
  refine mz_go 2 (c' := (2, [some (.ref 57), some (.int 2), some (.int 4), some (.int x), some (.int dd), none, none], [.int 4, .int 2], mz_set (mz_set m 57 r) 59 g)) rfl ?_
  refine mz_doQ (R := mz_r65) (as := [.int 2, .int 4]) (rest := []) (r1 := some (.int 1)) (m1 := mz_set (mz_set m 57 r) 59 g) mz_t65 mz_v65 rfl rfl rfl rfl rfl ((kh_2_4 (m := mz_set (mz_set m 57 r) 59 g)).deep (by decide)) ?_
  refine mz_go 6 (c' := (if dd ≤ 30 then 21 else 19, [some (.ref 57), some (.int 2), some (.int 4), some (.int x), some (.int dd), some (.int 1), none], [], mz_set (mz_set m 57 r) 59 g)) rfl ?_
  refine mz_ifT (show (dd ≤ 30) from (sm_leN ed rfl (show d ≤ 30 by omega) (show 30 < 2 ^ 31 by omega))) ?_
  refine mz_go 2 (c' := (24, [some (.ref 57), some (.int 2), some (.int 4), some (.int x), some (.int dd), some (.int 1), none], [.int 1, .int 2], mz_set (mz_set m 57 r) 59 g)) rfl ?_
  refine mz_doQ (R := mz_r66) (as := [.int 2, .int 1]) (rest := []) (r1 := some (.int 21)) (m1 := mz_set (mz_set m 57 r) 59 g) mz_t66 mz_v66 rfl rfl rfl rfl rfl ((kb_2_1 (m := mz_set (mz_set m 57 r) 59 g)).deep (by decide)) ?_
  refine mz_go 1 (c' := (29, [some (.ref 57), some (.int 2), some (.int 4), some (.int x), some (.int dd), some (.int 1), some (.int 21)], [], mz_set (mz_set m 57 r) 59 g)) rfl ?_
  refine Ee1 _ ?_
  refine mz_go 9 (c' := (73, [some (.ref 57), some (.int 2), some (.int 4), some (.int x), some (.int dd), some (.int 1), some (.int 21)], [.int (dd + 1), .int x, .int 0, .int 21, .ref 57], mz_set (mz_set m 57 re1) 59 ge1)) rfl ?_
  refine mz_doQ (R := mz_r63) (as := [.ref 57, .int 21, .int 0, .int x, .int (dd + 1)]) (rest := []) (r1 := some (.int (ve2 ^^^ (r 7)))) (m1 := mz_set (mz_set m 57 re2) 59 ge2) mz_t63 mz_v63_57 rfl rfl rfl rfl rfl ⟨?_, rfl⟩ ?_
  · refine mz_go 7 (c' := (188, [some (.ref 57), some (.int 21), some (.int 0), some (.int x), some (.int (dd + 1))], [.int (dd + 1), .int x, .int 0, .int 2, .ref 57], mz_set (mz_set m 57 re1) 59 ge1)) rfl ?_
    refine mz_doQ (R := mz_r62) (as := [.ref 57, .int 2, .int 0, .int x, .int (dd + 1)]) (rest := []) (r1 := some (.int ve2)) (m1 := mz_set (mz_set m 57 re2) 59 ge2) mz_t62 mz_v62_57 rfl rfl rfl rfl rfl (Ee2.deep (by decide)) ?_
    refine mz_go 2 (c' := (195, [some (.ref 57), some (.int 21), some (.int 0), some (.int x), some (.int (dd + 1))], [.int (re2 7), .int ve2], mz_set (mz_set m 57 re2) 59 ge2)) rfl ?_
    rw [show re2 7 = r 7 from Xe2.2 7 (by decide) (by decide)]
    refine mz_go 1 (c' := (196, [some (.ref 57), some (.int 21), some (.int 0), some (.int x), some (.int (dd + 1))], [.int (ve2 ^^^ (r 7))], mz_set (mz_set m 57 re2) 59 ge2)) rfl ?_
    exact mz_ret rfl
  exact mz_ret rfl
set_option maxHeartbeats 4000000 in
set_option maxRecDepth 100000 in
theorem vs0_2_5 {m : mz_M} {r g : Nat → Int32} (hr0 : vx_0 4 2 r) {c : Nat} (hc : c ≤ 6) (h5 : r 5 = nI c) (x : Int32) {dd : Int32} {d : Nat} (ed : dd = nI d) (hd : d ≤ 16) : ∃ z r' g', mz_Me 45 mz_r62 [.ref 57, .int 2, .int 5, .int x, .int dd] (mz_set (mz_set m 57 r) 59 g) (some (.int z)) (mz_set (mz_set m 57 r') 59 g') ∧ vx_k 4 2 r r' := by
  have hr1 := hr0
  obtain ⟨⟨B, hB, h4⟩, hp⟩ := hr1
  obtain ⟨re1, ge1, We1, Ee1⟩ := vs0_beg (m := m) (r := r) (g := g) ((vx_id hr0).1) (some (.int 2)) (some (.int 5)) (some (.int x)) (some (.int dd)) (some (.int 5)) 60 (D := 44)
  have Xe1 : vx_k 4 2 r re1 := vx_tr (vx_id hr0) We1
  obtain ⟨ve2, re2, ge2, Ee2, We2⟩ := vs0_2_3 (m := m) (r := re1) (g := ge1) (Xe1.1) hc ((Xe1.2 5 (by decide) (by decide)).trans h5)  x (dd := dd + 1) (d := (d + 1)) (sm_addN ed rfl) (by omega)
  have Xe2 : vx_k 4 2 r re2 := vx_tr Xe1 We2
  refine ⟨ve2 * 3, re2, ge2, ⟨?_, rfl⟩, Xe2⟩
  refine mz_go 2 (c' := (2, [some (.ref 57), some (.int 2), some (.int 5), some (.int x), some (.int dd), none, none], [.int 5, .int 2], mz_set (mz_set m 57 r) 59 g)) rfl ?_
  refine mz_doQ (R := mz_r65) (as := [.int 2, .int 5]) (rest := []) (r1 := some (.int 5)) (m1 := mz_set (mz_set m 57 r) 59 g) mz_t65 mz_v65 rfl rfl rfl rfl rfl ((kh_2_5 (m := mz_set (mz_set m 57 r) 59 g)).deep (by decide)) ?_
  refine mz_go 6 (c' := (if dd ≤ 30 then 21 else 19, [some (.ref 57), some (.int 2), some (.int 5), some (.int x), some (.int dd), some (.int 5), none], [], mz_set (mz_set m 57 r) 59 g)) rfl ?_
  refine mz_ifT (show (dd ≤ 30) from (sm_leN ed rfl (show d ≤ 30 by omega) (show 30 < 2 ^ 31 by omega))) ?_
  refine mz_go 2 (c' := (24, [some (.ref 57), some (.int 2), some (.int 5), some (.int x), some (.int dd), some (.int 5), none], [.int 5, .int 2], mz_set (mz_set m 57 r) 59 g)) rfl ?_
  refine mz_doQ (R := mz_r66) (as := [.int 2, .int 5]) (rest := []) (r1 := some (.int 60)) (m1 := mz_set (mz_set m 57 r) 59 g) mz_t66 mz_v66 rfl rfl rfl rfl rfl ((kb_2_5 (m := mz_set (mz_set m 57 r) 59 g)).deep (by decide)) ?_
  refine mz_go 1 (c' := (29, [some (.ref 57), some (.int 2), some (.int 5), some (.int x), some (.int dd), some (.int 5), some (.int 60)], [], mz_set (mz_set m 57 r) 59 g)) rfl ?_
  refine Ee1 _ ?_
  refine mz_go 9 (c' := (73, [some (.ref 57), some (.int 2), some (.int 5), some (.int x), some (.int dd), some (.int 5), some (.int 60)], [.int (dd + 1), .int x, .int 3, .int 60, .ref 57], mz_set (mz_set m 57 re1) 59 ge1)) rfl ?_
  refine mz_doQ (R := mz_r63) (as := [.ref 57, .int 60, .int 3, .int x, .int (dd + 1)]) (rest := []) (r1 := some (.int (ve2 * 3))) (m1 := mz_set (mz_set m 57 re2) 59 ge2) mz_t63 mz_v63_57 rfl rfl rfl rfl rfl ⟨?_, rfl⟩ ?_
  · refine mz_go 7 (c' := (285, [some (.ref 57), some (.int 60), some (.int 3), some (.int x), some (.int (dd + 1))], [.int (dd + 1), .int x, .int 3, .int 2, .ref 57], mz_set (mz_set m 57 re1) 59 ge1)) rfl ?_
    refine mz_doQ (R := mz_r62) (as := [.ref 57, .int 2, .int 3, .int x, .int (dd + 1)]) (rest := []) (r1 := some (.int ve2)) (m1 := mz_set (mz_set m 57 re2) 59 ge2) mz_t62 mz_v62_57 rfl rfl rfl rfl rfl (Ee2.deep (by decide)) ?_
    refine mz_go 2 (c' := (290, [some (.ref 57), some (.int 60), some (.int 3), some (.int x), some (.int (dd + 1))], [.int (ve2 * 3)], mz_set (mz_set m 57 re2) 59 ge2)) rfl ?_
    exact mz_ret rfl
  exact mz_ret rfl
set_option maxHeartbeats 4000000 in
set_option maxRecDepth 100000 in
theorem vs0_2_6 {m : mz_M} {r g : Nat → Int32} (hr0 : vx_0 4 2 r) {c : Nat} (hc : c ≤ 6) (h5 : r 5 = nI c) (x : Int32) {dd : Int32} {d : Nat} (ed : dd = nI d) (hd : d ≤ 18) : ∃ z r' g', mz_Me 39 mz_r62 [.ref 57, .int 2, .int 6, .int x, .int dd] (mz_set (mz_set m 57 r) 59 g) (some (.int z)) (mz_set (mz_set m 57 r') 59 g') ∧ vx_k 4 2 r r' := by
  have hr1 := hr0
  obtain ⟨⟨B, hB, h4⟩, hp⟩ := hr1
  obtain ⟨re1, ge1, We1, Ee1⟩ := vs0_beg (m := m) (r := r) (g := g) ((vx_id hr0).1) (some (.int 2)) (some (.int 6)) (some (.int x)) (some (.int dd)) (some (.int 0)) 12 (D := 38)
  have Xe1 : vx_k 4 2 r re1 := vx_tr (vx_id hr0) We1
  obtain ⟨ve2, re2, ge2, Ee2, We2⟩ := vs0_1_any (m := m) (r := re1) (g := ge1) (Xe1.1) hc ((Xe1.2 5 (by decide) (by decide)).trans h5) (f := c) hc x (dd := dd + 1) (d := (d + 1)) (sm_addN ed rfl) (by omega)
  have Xe2 : vx_k 4 2 r re2 := vx_tr Xe1 We2
  refine ⟨ve2 - (r 6), re2, ge2, ⟨?_, rfl⟩, Xe2⟩
  refine mz_go 2 (c' := (2, [some (.ref 57), some (.int 2), some (.int 6), some (.int x), some (.int dd), none, none], [.int 6, .int 2], mz_set (mz_set m 57 r) 59 g)) rfl ?_
  refine mz_doQ (R := mz_r65) (as := [.int 2, .int 6]) (rest := []) (r1 := some (.int 0)) (m1 := mz_set (mz_set m 57 r) 59 g) mz_t65 mz_v65 rfl rfl rfl rfl rfl ((kh_2_6 (m := mz_set (mz_set m 57 r) 59 g)).deep (by decide)) ?_
  refine mz_go 6 (c' := (if dd ≤ 30 then 21 else 19, [some (.ref 57), some (.int 2), some (.int 6), some (.int x), some (.int dd), some (.int 0), none], [], mz_set (mz_set m 57 r) 59 g)) rfl ?_
  refine mz_ifT (show (dd ≤ 30) from (sm_leN ed rfl (show d ≤ 30 by omega) (show 30 < 2 ^ 31 by omega))) ?_
  refine mz_go 2 (c' := (24, [some (.ref 57), some (.int 2), some (.int 6), some (.int x), some (.int dd), some (.int 0), none], [.int 0, .int 2], mz_set (mz_set m 57 r) 59 g)) rfl ?_
  refine mz_doQ (R := mz_r66) (as := [.int 2, .int 0]) (rest := []) (r1 := some (.int 12)) (m1 := mz_set (mz_set m 57 r) 59 g) mz_t66 mz_v66 rfl rfl rfl rfl rfl ((kb_2_0 (m := mz_set (mz_set m 57 r) 59 g)).deep (by decide)) ?_
  refine mz_go 1 (c' := (29, [some (.ref 57), some (.int 2), some (.int 6), some (.int x), some (.int dd), some (.int 0), some (.int 12)], [], mz_set (mz_set m 57 r) 59 g)) rfl ?_
  refine Ee1 _ ?_
  refine mz_go 9 (c' := (73, [some (.ref 57), some (.int 2), some (.int 6), some (.int x), some (.int dd), some (.int 0), some (.int 12)], [.int (dd + 1), .int x, .int (-1), .int 12, .ref 57], mz_set (mz_set m 57 re1) 59 ge1)) rfl ?_
  refine mz_doQ (R := mz_r63) (as := [.ref 57, .int 12, .int (-1), .int x, .int (dd + 1)]) (rest := []) (r1 := some (.int (ve2 - (r 6)))) (m1 := mz_set (mz_set m 57 re2) 59 ge2) mz_t63 mz_v63_57 rfl rfl rfl rfl rfl ⟨?_, rfl⟩ ?_
  · refine mz_go 6 (c' := (152, [some (.ref 57), some (.int 12), some (.int (-1)), some (.int x), some (.int (dd + 1))], [.int (re1 5), .int 1, .ref 57], mz_set (mz_set m 57 re1) 59 ge1)) rfl ?_
    rw [show re1 5 = r 5 from Xe1.2 5 (by decide) (by decide)]
    rw [h5]
    refine mz_go 2 (c' := (155, [some (.ref 57), some (.int 12), some (.int (-1)), some (.int x), some (.int (dd + 1))], [.int (dd + 1), .int x, .int (nI c), .int 1, .ref 57], mz_set (mz_set m 57 re1) 59 ge1)) rfl ?_
    refine mz_doQ (R := mz_r62) (as := [.ref 57, .int 1, .int (nI c), .int x, .int (dd + 1)]) (rest := []) (r1 := some (.int ve2)) (m1 := mz_set (mz_set m 57 re2) 59 ge2) mz_t62 mz_v62_57 rfl rfl rfl rfl rfl (Ee2.deep (by decide)) ?_
    refine mz_go 2 (c' := (162, [some (.ref 57), some (.int 12), some (.int (-1)), some (.int x), some (.int (dd + 1))], [.int (re2 6), .int ve2], mz_set (mz_set m 57 re2) 59 ge2)) rfl ?_
    rw [show re2 6 = r 6 from Xe2.2 6 (by decide) (by decide)]
    refine mz_go 1 (c' := (163, [some (.ref 57), some (.int 12), some (.int (-1)), some (.int x), some (.int (dd + 1))], [.int (ve2 - (r 6))], mz_set (mz_set m 57 re2) 59 ge2)) rfl ?_
    exact mz_ret rfl
  exact mz_ret rfl
set_option maxHeartbeats 4000000 in
set_option maxRecDepth 100000 in
theorem vs0_2_any {m : mz_M} {r g : Nat → Int32} (hr0 : vx_0 4 2 r) {c : Nat} (hc : c ≤ 6) (h5 : r 5 = nI c) {f : Nat} (hf : f ≤ 6) (x : Int32) {dd : Int32} {d : Nat} (ed : dd = nI d) (hd : d ≤ 15) : ∃ z r' g', mz_Me 52 mz_r62 [.ref 57, .int 2, .int (nI f), .int x, .int dd] (mz_set (mz_set m 57 r) 59 g) (some (.int z)) (mz_set (mz_set m 57 r') 59 g') ∧ vx_k 4 2 r r' := by
  rcases (show f = 0 ∨ f = 1 ∨ f = 2 ∨ f = 3 ∨ f = 4 ∨ f = 5 ∨ f = 6 by omega) with rfl | rfl | rfl | rfl | rfl | rfl | rfl
  · obtain ⟨z, r', g', E, W⟩ := vs0_2_0 (m := m) (g := g) hr0 hc h5 x ed (by omega)
    exact ⟨z, r', g', E.deep (by decide), W⟩
  · obtain ⟨z, r', g', E, W⟩ := vs0_2_1 (m := m) (g := g) hr0 hc h5 x ed (by omega)
    exact ⟨z, r', g', E.deep (by decide), W⟩
  · obtain ⟨z, r', g', E, W⟩ := vs0_2_2 (m := m) (g := g) hr0 hc h5 x ed (by omega)
    exact ⟨z, r', g', E.deep (by decide), W⟩
  · obtain ⟨z, r', g', E, W⟩ := vs0_2_3 (m := m) (g := g) hr0 hc h5 x ed (by omega)
    exact ⟨z, r', g', E.deep (by decide), W⟩
  · obtain ⟨z, r', g', E, W⟩ := vs0_2_4 (m := m) (g := g) hr0 hc h5 x ed (by omega)
    exact ⟨z, r', g', E.deep (by decide), W⟩
  · obtain ⟨z, r', g', E, W⟩ := vs0_2_5 (m := m) (g := g) hr0 hc h5 x ed (by omega)
    exact ⟨z, r', g', E.deep (by decide), W⟩
  · obtain ⟨z, r', g', E, W⟩ := vs0_2_6 (m := m) (g := g) hr0 hc h5 x ed (by omega)
    exact ⟨z, r', g', E.deep (by decide), W⟩
set_option maxHeartbeats 4000000 in
set_option maxRecDepth 100000 in
theorem vs0_3_0 {m : mz_M} {r g : Nat → Int32} (hr0 : vx_0 4 2 r) {c : Nat} (hc : c ≤ 6) (h5 : r 5 = nI c) (x : Int32) {dd : Int32} {d : Nat} (ed : dd = nI d) (hd : d ≤ 14) : ∃ z r' g', mz_Me 55 mz_r62 [.ref 57, .int 3, .int 0, .int x, .int dd] (mz_set (mz_set m 57 r) 59 g) (some (.int z)) (mz_set (mz_set m 57 r') 59 g') ∧ vx_k 4 2 r r' := by
  have hr1 := hr0
  obtain ⟨⟨B, hB, h4⟩, hp⟩ := hr1
  obtain ⟨re1, ge1, We1, Ee1⟩ := vs0_beg (m := m) (r := r) (g := g) ((vx_id hr0).1) (some (.int 3)) (some (.int 0)) (some (.int x)) (some (.int dd)) (some (.int 0)) 13 (D := 54)
  have Xe1 : vx_k 4 2 r re1 := vx_tr (vx_id hr0) We1
  by_cases q1 : ((r 7) - (r 6)) = 0
  · have V2 : vx_k 4 2 r (sm_upd re1 2 1) := vx_p (by decide) (Or.inr rfl) Xe1
    refine ⟨0, (sm_upd re1 2 1), ge1, ⟨?_, rfl⟩, V2⟩
    refine mz_go 2 (c' := (2, [some (.ref 57), some (.int 3), some (.int 0), some (.int x), some (.int dd), none, none], [.int 0, .int 3], mz_set (mz_set m 57 r) 59 g)) rfl ?_
    refine mz_doQ (R := mz_r65) (as := [.int 3, .int 0]) (rest := []) (r1 := some (.int 0)) (m1 := mz_set (mz_set m 57 r) 59 g) mz_t65 mz_v65 rfl rfl rfl rfl rfl ((kh_3_0 (m := mz_set (mz_set m 57 r) 59 g)).deep (by decide)) ?_
    refine mz_go 6 (c' := (if dd ≤ 30 then 21 else 19, [some (.ref 57), some (.int 3), some (.int 0), some (.int x), some (.int dd), some (.int 0), none], [], mz_set (mz_set m 57 r) 59 g)) rfl ?_
    refine mz_ifT (show (dd ≤ 30) from (sm_leN ed rfl (show d ≤ 30 by omega) (show 30 < 2 ^ 31 by omega))) ?_
    refine mz_go 2 (c' := (24, [some (.ref 57), some (.int 3), some (.int 0), some (.int x), some (.int dd), some (.int 0), none], [.int 0, .int 3], mz_set (mz_set m 57 r) 59 g)) rfl ?_
    refine mz_doQ (R := mz_r66) (as := [.int 3, .int 0]) (rest := []) (r1 := some (.int 13)) (m1 := mz_set (mz_set m 57 r) 59 g) mz_t66 mz_v66 rfl rfl rfl rfl rfl ((kb_3_0 (m := mz_set (mz_set m 57 r) 59 g)).deep (by decide)) ?_
    refine mz_go 1 (c' := (29, [some (.ref 57), some (.int 3), some (.int 0), some (.int x), some (.int dd), some (.int 0), some (.int 13)], [], mz_set (mz_set m 57 r) 59 g)) rfl ?_
    refine Ee1 _ ?_
    refine mz_go 9 (c' := (73, [some (.ref 57), some (.int 3), some (.int 0), some (.int x), some (.int dd), some (.int 0), some (.int 13)], [.int (dd + 1), .int x, .int (-1), .int 13, .ref 57], mz_set (mz_set m 57 re1) 59 ge1)) rfl ?_
    refine mz_doQ (R := mz_r63) (as := [.ref 57, .int 13, .int (-1), .int x, .int (dd + 1)]) (rest := []) (r1 := some (.int 0)) (m1 := mz_set (mz_set m 57 (sm_upd re1 2 1)) 59 ge1) mz_t63 mz_v63_57 rfl rfl rfl rfl rfl ⟨?_, rfl⟩ ?_
    · refine mz_go 4 (c' := (166, [some (.ref 57), some (.int 13), some (.int (-1)), some (.int x), some (.int (dd + 1))], [.int x, .ref 57], mz_set (mz_set m 57 re1) 59 ge1)) rfl ?_
      refine mz_doQ (R := mz_r64) (as := [.ref 57, .int x]) (rest := []) (r1 := some (.int 0)) (m1 := mz_set (mz_set m 57 (sm_upd re1 2 1)) 59 ge1) mz_t64 mz_v64_57 rfl rfl rfl rfl rfl ⟨?_, rfl⟩ ?_
      · refine mz_go 2 (c' := (4, [some (.ref 57), some (.int x), none], [.int (re1 7)], mz_set (mz_set m 57 re1) 59 ge1)) rfl ?_
        rw [show re1 7 = r 7 from Xe1.2 7 (by decide) (by decide)]
        refine mz_go 2 (c' := (8, [some (.ref 57), some (.int x), none], [.int (re1 6), .int (r 7)], mz_set (mz_set m 57 re1) 59 ge1)) rfl ?_
        rw [show re1 6 = r 6 from Xe1.2 6 (by decide) (by decide)]
        refine mz_go 4 (c' := (if ((r 7) - (r 6)) = 0 then 14 else 21, [some (.ref 57), some (.int x), some (.int ((r 7) - (r 6)))], [], mz_set (mz_set m 57 re1) 59 ge1)) rfl ?_
        refine mz_ifT q1 ?_
        refine mz_go 3 (c' := (19, [some (.ref 57), some (.int x), some (.int ((r 7) - (r 6)))], [], mz_up (mz_set (mz_set m 57 re1) 59 ge1) 57 2 1)) rfl ?_
        rw [vx_up57]
        refine mz_go 1 (c' := (20, [some (.ref 57), some (.int x), some (.int ((r 7) - (r 6)))], [.int 0], mz_set (mz_set m 57 (sm_upd re1 2 1)) 59 ge1)) rfl ?_
        exact mz_ret rfl
      exact mz_ret rfl
    exact mz_ret rfl
  · refine ⟨x / ((r 7) - (r 6)), re1, ge1, ⟨?_, rfl⟩, Xe1⟩
    refine mz_go 2 (c' := (2, [some (.ref 57), some (.int 3), some (.int 0), some (.int x), some (.int dd), none, none], [.int 0, .int 3], mz_set (mz_set m 57 r) 59 g)) rfl ?_
    refine mz_doQ (R := mz_r65) (as := [.int 3, .int 0]) (rest := []) (r1 := some (.int 0)) (m1 := mz_set (mz_set m 57 r) 59 g) mz_t65 mz_v65 rfl rfl rfl rfl rfl ((kh_3_0 (m := mz_set (mz_set m 57 r) 59 g)).deep (by decide)) ?_
    refine mz_go 6 (c' := (if dd ≤ 30 then 21 else 19, [some (.ref 57), some (.int 3), some (.int 0), some (.int x), some (.int dd), some (.int 0), none], [], mz_set (mz_set m 57 r) 59 g)) rfl ?_
    refine mz_ifT (show (dd ≤ 30) from (sm_leN ed rfl (show d ≤ 30 by omega) (show 30 < 2 ^ 31 by omega))) ?_
    refine mz_go 2 (c' := (24, [some (.ref 57), some (.int 3), some (.int 0), some (.int x), some (.int dd), some (.int 0), none], [.int 0, .int 3], mz_set (mz_set m 57 r) 59 g)) rfl ?_
    refine mz_doQ (R := mz_r66) (as := [.int 3, .int 0]) (rest := []) (r1 := some (.int 13)) (m1 := mz_set (mz_set m 57 r) 59 g) mz_t66 mz_v66 rfl rfl rfl rfl rfl ((kb_3_0 (m := mz_set (mz_set m 57 r) 59 g)).deep (by decide)) ?_
    refine mz_go 1 (c' := (29, [some (.ref 57), some (.int 3), some (.int 0), some (.int x), some (.int dd), some (.int 0), some (.int 13)], [], mz_set (mz_set m 57 r) 59 g)) rfl ?_
    refine Ee1 _ ?_
    refine mz_go 9 (c' := (73, [some (.ref 57), some (.int 3), some (.int 0), some (.int x), some (.int dd), some (.int 0), some (.int 13)], [.int (dd + 1), .int x, .int (-1), .int 13, .ref 57], mz_set (mz_set m 57 re1) 59 ge1)) rfl ?_
    refine mz_doQ (R := mz_r63) (as := [.ref 57, .int 13, .int (-1), .int x, .int (dd + 1)]) (rest := []) (r1 := some (.int (x / ((r 7) - (r 6))))) (m1 := mz_set (mz_set m 57 re1) 59 ge1) mz_t63 mz_v63_57 rfl rfl rfl rfl rfl ⟨?_, rfl⟩ ?_
    · refine mz_go 4 (c' := (166, [some (.ref 57), some (.int 13), some (.int (-1)), some (.int x), some (.int (dd + 1))], [.int x, .ref 57], mz_set (mz_set m 57 re1) 59 ge1)) rfl ?_
      refine mz_doQ (R := mz_r64) (as := [.ref 57, .int x]) (rest := []) (r1 := some (.int (x / ((r 7) - (r 6))))) (m1 := mz_set (mz_set m 57 re1) 59 ge1) mz_t64 mz_v64_57 rfl rfl rfl rfl rfl ⟨?_, rfl⟩ ?_
      · refine mz_go 2 (c' := (4, [some (.ref 57), some (.int x), none], [.int (re1 7)], mz_set (mz_set m 57 re1) 59 ge1)) rfl ?_
        rw [show re1 7 = r 7 from Xe1.2 7 (by decide) (by decide)]
        refine mz_go 2 (c' := (8, [some (.ref 57), some (.int x), none], [.int (re1 6), .int (r 7)], mz_set (mz_set m 57 re1) 59 ge1)) rfl ?_
        rw [show re1 6 = r 6 from Xe1.2 6 (by decide) (by decide)]
        refine mz_go 4 (c' := (if ((r 7) - (r 6)) = 0 then 14 else 21, [some (.ref 57), some (.int x), some (.int ((r 7) - (r 6)))], [], mz_set (mz_set m 57 re1) 59 ge1)) rfl ?_
        refine mz_ifF q1 ?_
        refine mz_go 2 (c' := (23, [some (.ref 57), some (.int x), some (.int ((r 7) - (r 6)))], [.int ((r 7) - (r 6)), .int x], mz_set (mz_set m 57 re1) 59 ge1)) rfl ?_
        refine mz_div (c' := (24, [some (.ref 57), some (.int x), some (.int ((r 7) - (r 6)))], [.int (x / ((r 7) - (r 6)))], mz_set (mz_set m 57 re1) 59 ge1)) rfl q1 ?_
        exact mz_ret rfl
      exact mz_ret rfl
    exact mz_ret rfl
set_option maxHeartbeats 4000000 in
set_option maxRecDepth 100000 in
theorem vs0_3_1 {m : mz_M} {r g : Nat → Int32} (hr0 : vx_0 4 2 r) {c : Nat} (hc : c ≤ 6) (h5 : r 5 = nI c) (x : Int32) {dd : Int32} {d : Nat} (ed : dd = nI d) (hd : d ≤ 14) : ∃ z r' g', mz_Me 55 mz_r62 [.ref 57, .int 3, .int 1, .int x, .int dd] (mz_set (mz_set m 57 r) 59 g) (some (.int z)) (mz_set (mz_set m 57 r') 59 g') ∧ vx_k 4 2 r r' := by
  have hr1 := hr0
  obtain ⟨⟨B, hB, h4⟩, hp⟩ := hr1
  obtain ⟨re1, ge1, We1, Ee1⟩ := vs0_beg (m := m) (r := r) (g := g) ((vx_id hr0).1) (some (.int 3)) (some (.int 1)) (some (.int x)) (some (.int dd)) (some (.int 0)) 13 (D := 54)
  have Xe1 : vx_k 4 2 r re1 := vx_tr (vx_id hr0) We1
  by_cases q1 : ((r 7) - (r 6)) = 0
  · have V2 : vx_k 4 2 r (sm_upd re1 2 1) := vx_p (by decide) (Or.inr rfl) Xe1
    refine ⟨0, (sm_upd re1 2 1), ge1, ⟨?_, rfl⟩, V2⟩
    refine mz_go 2 (c' := (2, [some (.ref 57), some (.int 3), some (.int 1), some (.int x), some (.int dd), none, none], [.int 1, .int 3], mz_set (mz_set m 57 r) 59 g)) rfl ?_
    refine mz_doQ (R := mz_r65) (as := [.int 3, .int 1]) (rest := []) (r1 := some (.int 0)) (m1 := mz_set (mz_set m 57 r) 59 g) mz_t65 mz_v65 rfl rfl rfl rfl rfl ((kh_3_1 (m := mz_set (mz_set m 57 r) 59 g)).deep (by decide)) ?_
    refine mz_go 6 (c' := (if dd ≤ 30 then 21 else 19, [some (.ref 57), some (.int 3), some (.int 1), some (.int x), some (.int dd), some (.int 0), none], [], mz_set (mz_set m 57 r) 59 g)) rfl ?_
    refine mz_ifT (show (dd ≤ 30) from (sm_leN ed rfl (show d ≤ 30 by omega) (show 30 < 2 ^ 31 by omega))) ?_
    refine mz_go 2 (c' := (24, [some (.ref 57), some (.int 3), some (.int 1), some (.int x), some (.int dd), some (.int 0), none], [.int 0, .int 3], mz_set (mz_set m 57 r) 59 g)) rfl ?_
    refine mz_doQ (R := mz_r66) (as := [.int 3, .int 0]) (rest := []) (r1 := some (.int 13)) (m1 := mz_set (mz_set m 57 r) 59 g) mz_t66 mz_v66 rfl rfl rfl rfl rfl ((kb_3_0 (m := mz_set (mz_set m 57 r) 59 g)).deep (by decide)) ?_
    refine mz_go 1 (c' := (29, [some (.ref 57), some (.int 3), some (.int 1), some (.int x), some (.int dd), some (.int 0), some (.int 13)], [], mz_set (mz_set m 57 r) 59 g)) rfl ?_
    refine Ee1 _ ?_
    refine mz_go 9 (c' := (73, [some (.ref 57), some (.int 3), some (.int 1), some (.int x), some (.int dd), some (.int 0), some (.int 13)], [.int (dd + 1), .int x, .int (-1), .int 13, .ref 57], mz_set (mz_set m 57 re1) 59 ge1)) rfl ?_
    refine mz_doQ (R := mz_r63) (as := [.ref 57, .int 13, .int (-1), .int x, .int (dd + 1)]) (rest := []) (r1 := some (.int 0)) (m1 := mz_set (mz_set m 57 (sm_upd re1 2 1)) 59 ge1) mz_t63 mz_v63_57 rfl rfl rfl rfl rfl ⟨?_, rfl⟩ ?_
    · refine mz_go 4 (c' := (166, [some (.ref 57), some (.int 13), some (.int (-1)), some (.int x), some (.int (dd + 1))], [.int x, .ref 57], mz_set (mz_set m 57 re1) 59 ge1)) rfl ?_
      refine mz_doQ (R := mz_r64) (as := [.ref 57, .int x]) (rest := []) (r1 := some (.int 0)) (m1 := mz_set (mz_set m 57 (sm_upd re1 2 1)) 59 ge1) mz_t64 mz_v64_57 rfl rfl rfl rfl rfl ⟨?_, rfl⟩ ?_
      · refine mz_go 2 (c' := (4, [some (.ref 57), some (.int x), none], [.int (re1 7)], mz_set (mz_set m 57 re1) 59 ge1)) rfl ?_
        rw [show re1 7 = r 7 from Xe1.2 7 (by decide) (by decide)]
        refine mz_go 2 (c' := (8, [some (.ref 57), some (.int x), none], [.int (re1 6), .int (r 7)], mz_set (mz_set m 57 re1) 59 ge1)) rfl ?_
        rw [show re1 6 = r 6 from Xe1.2 6 (by decide) (by decide)]
        refine mz_go 4 (c' := (if ((r 7) - (r 6)) = 0 then 14 else 21, [some (.ref 57), some (.int x), some (.int ((r 7) - (r 6)))], [], mz_set (mz_set m 57 re1) 59 ge1)) rfl ?_
        refine mz_ifT q1 ?_
        refine mz_go 3 (c' := (19, [some (.ref 57), some (.int x), some (.int ((r 7) - (r 6)))], [], mz_up (mz_set (mz_set m 57 re1) 59 ge1) 57 2 1)) rfl ?_
        rw [vx_up57]
        refine mz_go 1 (c' := (20, [some (.ref 57), some (.int x), some (.int ((r 7) - (r 6)))], [.int 0], mz_set (mz_set m 57 (sm_upd re1 2 1)) 59 ge1)) rfl ?_
        exact mz_ret rfl
      exact mz_ret rfl
    exact mz_ret rfl
  · refine ⟨x / ((r 7) - (r 6)), re1, ge1, ⟨?_, rfl⟩, Xe1⟩
    refine mz_go 2 (c' := (2, [some (.ref 57), some (.int 3), some (.int 1), some (.int x), some (.int dd), none, none], [.int 1, .int 3], mz_set (mz_set m 57 r) 59 g)) rfl ?_
    refine mz_doQ (R := mz_r65) (as := [.int 3, .int 1]) (rest := []) (r1 := some (.int 0)) (m1 := mz_set (mz_set m 57 r) 59 g) mz_t65 mz_v65 rfl rfl rfl rfl rfl ((kh_3_1 (m := mz_set (mz_set m 57 r) 59 g)).deep (by decide)) ?_
    refine mz_go 6 (c' := (if dd ≤ 30 then 21 else 19, [some (.ref 57), some (.int 3), some (.int 1), some (.int x), some (.int dd), some (.int 0), none], [], mz_set (mz_set m 57 r) 59 g)) rfl ?_
    refine mz_ifT (show (dd ≤ 30) from (sm_leN ed rfl (show d ≤ 30 by omega) (show 30 < 2 ^ 31 by omega))) ?_
    refine mz_go 2 (c' := (24, [some (.ref 57), some (.int 3), some (.int 1), some (.int x), some (.int dd), some (.int 0), none], [.int 0, .int 3], mz_set (mz_set m 57 r) 59 g)) rfl ?_
    refine mz_doQ (R := mz_r66) (as := [.int 3, .int 0]) (rest := []) (r1 := some (.int 13)) (m1 := mz_set (mz_set m 57 r) 59 g) mz_t66 mz_v66 rfl rfl rfl rfl rfl ((kb_3_0 (m := mz_set (mz_set m 57 r) 59 g)).deep (by decide)) ?_
    refine mz_go 1 (c' := (29, [some (.ref 57), some (.int 3), some (.int 1), some (.int x), some (.int dd), some (.int 0), some (.int 13)], [], mz_set (mz_set m 57 r) 59 g)) rfl ?_
    refine Ee1 _ ?_
    refine mz_go 9 (c' := (73, [some (.ref 57), some (.int 3), some (.int 1), some (.int x), some (.int dd), some (.int 0), some (.int 13)], [.int (dd + 1), .int x, .int (-1), .int 13, .ref 57], mz_set (mz_set m 57 re1) 59 ge1)) rfl ?_
    refine mz_doQ (R := mz_r63) (as := [.ref 57, .int 13, .int (-1), .int x, .int (dd + 1)]) (rest := []) (r1 := some (.int (x / ((r 7) - (r 6))))) (m1 := mz_set (mz_set m 57 re1) 59 ge1) mz_t63 mz_v63_57 rfl rfl rfl rfl rfl ⟨?_, rfl⟩ ?_
    · refine mz_go 4 (c' := (166, [some (.ref 57), some (.int 13), some (.int (-1)), some (.int x), some (.int (dd + 1))], [.int x, .ref 57], mz_set (mz_set m 57 re1) 59 ge1)) rfl ?_
      refine mz_doQ (R := mz_r64) (as := [.ref 57, .int x]) (rest := []) (r1 := some (.int (x / ((r 7) - (r 6))))) (m1 := mz_set (mz_set m 57 re1) 59 ge1) mz_t64 mz_v64_57 rfl rfl rfl rfl rfl ⟨?_, rfl⟩ ?_
      · refine mz_go 2 (c' := (4, [some (.ref 57), some (.int x), none], [.int (re1 7)], mz_set (mz_set m 57 re1) 59 ge1)) rfl ?_
        rw [show re1 7 = r 7 from Xe1.2 7 (by decide) (by decide)]
        refine mz_go 2 (c' := (8, [some (.ref 57), some (.int x), none], [.int (re1 6), .int (r 7)], mz_set (mz_set m 57 re1) 59 ge1)) rfl ?_
        rw [show re1 6 = r 6 from Xe1.2 6 (by decide) (by decide)]
        refine mz_go 4 (c' := (if ((r 7) - (r 6)) = 0 then 14 else 21, [some (.ref 57), some (.int x), some (.int ((r 7) - (r 6)))], [], mz_set (mz_set m 57 re1) 59 ge1)) rfl ?_
        refine mz_ifF q1 ?_
        refine mz_go 2 (c' := (23, [some (.ref 57), some (.int x), some (.int ((r 7) - (r 6)))], [.int ((r 7) - (r 6)), .int x], mz_set (mz_set m 57 re1) 59 ge1)) rfl ?_
        refine mz_div (c' := (24, [some (.ref 57), some (.int x), some (.int ((r 7) - (r 6)))], [.int (x / ((r 7) - (r 6)))], mz_set (mz_set m 57 re1) 59 ge1)) rfl q1 ?_
        exact mz_ret rfl
      exact mz_ret rfl
    exact mz_ret rfl
set_option maxHeartbeats 4000000 in
set_option maxRecDepth 100000 in
theorem vs0_3_2 {m : mz_M} {r g : Nat → Int32} (hr0 : vx_0 4 2 r) {c : Nat} (hc : c ≤ 6) (h5 : r 5 = nI c) (x : Int32) {dd : Int32} {d : Nat} (ed : dd = nI d) (hd : d ≤ 13) : ∃ z r' g', mz_Me 58 mz_r62 [.ref 57, .int 3, .int 2, .int x, .int dd] (mz_set (mz_set m 57 r) 59 g) (some (.int z)) (mz_set (mz_set m 57 r') 59 g') ∧ vx_k 4 2 r r' := by
  have hr1 := hr0
  obtain ⟨⟨B, hB, h4⟩, hp⟩ := hr1
  obtain ⟨re1, ge1, We1, Ee1⟩ := vs0_beg (m := m) (r := r) (g := g) ((vx_id hr0).1) (some (.int 3)) (some (.int 2)) (some (.int x)) (some (.int dd)) (some (.int 2)) 31 (D := 57)
  have Xe1 : vx_k 4 2 r re1 := vx_tr (vx_id hr0) We1
  obtain ⟨ve2, re2, ge2, Ee2, We2⟩ := vs0_3_0 (m := m) (r := re1) (g := ge1) (Xe1.1) hc ((Xe1.2 5 (by decide) (by decide)).trans h5)  x (dd := dd + 1) (d := (d + 1)) (sm_addN ed rfl) (by omega)
  have Xe2 : vx_k 4 2 r re2 := vx_tr Xe1 We2
  obtain ⟨ve3, re3, ge3, Ee3, We3⟩ := vs0_0_any (m := m) (r := re2) (g := ge2) (Xe2.1) hc ((Xe2.2 5 (by decide) (by decide)).trans h5) (f := c) hc 1 (dd := dd + 1) (d := (d + 1)) (sm_addN ed rfl) (by omega)
  have Xe3 : vx_k 4 2 r re3 := vx_tr Xe2 We3
  refine ⟨ve2 + ve3, re3, ge3, ⟨?_, rfl⟩, Xe3⟩
  refine mz_go 2 (c' := (2, [some (.ref 57), some (.int 3), some (.int 2), some (.int x), some (.int dd), none, none], [.int 2, .int 3], mz_set (mz_set m 57 r) 59 g)) rfl ?_
  refine mz_doQ (R := mz_r65) (as := [.int 3, .int 2]) (rest := []) (r1 := some (.int 2)) (m1 := mz_set (mz_set m 57 r) 59 g) mz_t65 mz_v65 rfl rfl rfl rfl rfl ((kh_3_2 (m := mz_set (mz_set m 57 r) 59 g)).deep (by decide)) ?_
  refine mz_go 6 (c' := (if dd ≤ 30 then 21 else 19, [some (.ref 57), some (.int 3), some (.int 2), some (.int x), some (.int dd), some (.int 2), none], [], mz_set (mz_set m 57 r) 59 g)) rfl ?_
  refine mz_ifT (show (dd ≤ 30) from (sm_leN ed rfl (show d ≤ 30 by omega) (show 30 < 2 ^ 31 by omega))) ?_
  refine mz_go 2 (c' := (24, [some (.ref 57), some (.int 3), some (.int 2), some (.int x), some (.int dd), some (.int 2), none], [.int 2, .int 3], mz_set (mz_set m 57 r) 59 g)) rfl ?_
  refine mz_doQ (R := mz_r66) (as := [.int 3, .int 2]) (rest := []) (r1 := some (.int 31)) (m1 := mz_set (mz_set m 57 r) 59 g) mz_t66 mz_v66 rfl rfl rfl rfl rfl ((kb_3_2 (m := mz_set (mz_set m 57 r) 59 g)).deep (by decide)) ?_
  refine mz_go 1 (c' := (29, [some (.ref 57), some (.int 3), some (.int 2), some (.int x), some (.int dd), some (.int 2), some (.int 31)], [], mz_set (mz_set m 57 r) 59 g)) rfl ?_
  refine Ee1 _ ?_
  refine mz_go 9 (c' := (73, [some (.ref 57), some (.int 3), some (.int 2), some (.int x), some (.int dd), some (.int 2), some (.int 31)], [.int (dd + 1), .int x, .int 0, .int 31, .ref 57], mz_set (mz_set m 57 re1) 59 ge1)) rfl ?_
  refine mz_doQ (R := mz_r63) (as := [.ref 57, .int 31, .int 0, .int x, .int (dd + 1)]) (rest := []) (r1 := some (.int (ve2 + ve3))) (m1 := mz_set (mz_set m 57 re3) 59 ge3) mz_t63 mz_v63_57 rfl rfl rfl rfl rfl ⟨?_, rfl⟩ ?_
  · refine mz_go 7 (c' := (215, [some (.ref 57), some (.int 31), some (.int 0), some (.int x), some (.int (dd + 1))], [.int (dd + 1), .int x, .int 0, .int 3, .ref 57], mz_set (mz_set m 57 re1) 59 ge1)) rfl ?_
    refine mz_doQ (R := mz_r62) (as := [.ref 57, .int 3, .int 0, .int x, .int (dd + 1)]) (rest := []) (r1 := some (.int ve2)) (m1 := mz_set (mz_set m 57 re2) 59 ge2) mz_t62 mz_v62_57 rfl rfl rfl rfl rfl (Ee2.deep (by decide)) ?_
    refine mz_go 4 (c' := (224, [some (.ref 57), some (.int 31), some (.int 0), some (.int x), some (.int (dd + 1))], [.int (re2 5), .int 0, .ref 57, .int ve2], mz_set (mz_set m 57 re2) 59 ge2)) rfl ?_
    rw [show re2 5 = r 5 from Xe2.2 5 (by decide) (by decide)]
    rw [h5]
    refine mz_go 2 (c' := (227, [some (.ref 57), some (.int 31), some (.int 0), some (.int x), some (.int (dd + 1))], [.int (dd + 1), .int 1, .int (nI c), .int 0, .ref 57, .int ve2], mz_set (mz_set m 57 re2) 59 ge2)) rfl ?_
    refine mz_doQ (R := mz_r62) (as := [.ref 57, .int 0, .int (nI c), .int 1, .int (dd + 1)]) (rest := [.int ve2]) (r1 := some (.int ve3)) (m1 := mz_set (mz_set m 57 re3) 59 ge3) mz_t62 mz_v62_57 rfl rfl rfl rfl rfl (Ee3.deep (by decide)) ?_
    refine mz_go 1 (c' := (231, [some (.ref 57), some (.int 31), some (.int 0), some (.int x), some (.int (dd + 1))], [.int (ve2 + ve3)], mz_set (mz_set m 57 re3) 59 ge3)) rfl ?_
    exact mz_ret rfl
  exact mz_ret rfl
set_option maxHeartbeats 4000000 in
set_option maxRecDepth 100000 in
theorem vs0_3_3 {m : mz_M} {r g : Nat → Int32} (hr0 : vx_0 4 2 r) {c : Nat} (hc : c ≤ 6) (h5 : r 5 = nI c) (x : Int32) {dd : Int32} {d : Nat} (ed : dd = nI d) (hd : d ≤ 14) : ∃ z r' g', mz_Me 55 mz_r62 [.ref 57, .int 3, .int 3, .int x, .int dd] (mz_set (mz_set m 57 r) 59 g) (some (.int z)) (mz_set (mz_set m 57 r') 59 g') ∧ vx_k 4 2 r r' := by
  have hr1 := hr0
  obtain ⟨⟨B, hB, h4⟩, hp⟩ := hr1
  obtain ⟨re1, ge1, We1, Ee1⟩ := vs0_beg (m := m) (r := r) (g := g) ((vx_id hr0).1) (some (.int 3)) (some (.int 3)) (some (.int x)) (some (.int dd)) (some (.int 0)) 13 (D := 54)
  have Xe1 : vx_k 4 2 r re1 := vx_tr (vx_id hr0) We1
  by_cases q1 : ((r 7) - (r 6)) = 0
  · have V2 : vx_k 4 2 r (sm_upd re1 2 1) := vx_p (by decide) (Or.inr rfl) Xe1
    refine ⟨0, (sm_upd re1 2 1), ge1, ⟨?_, rfl⟩, V2⟩
    refine mz_go 2 (c' := (2, [some (.ref 57), some (.int 3), some (.int 3), some (.int x), some (.int dd), none, none], [.int 3, .int 3], mz_set (mz_set m 57 r) 59 g)) rfl ?_
    refine mz_doQ (R := mz_r65) (as := [.int 3, .int 3]) (rest := []) (r1 := some (.int 0)) (m1 := mz_set (mz_set m 57 r) 59 g) mz_t65 mz_v65 rfl rfl rfl rfl rfl ((kh_3_3 (m := mz_set (mz_set m 57 r) 59 g)).deep (by decide)) ?_
    refine mz_go 6 (c' := (if dd ≤ 30 then 21 else 19, [some (.ref 57), some (.int 3), some (.int 3), some (.int x), some (.int dd), some (.int 0), none], [], mz_set (mz_set m 57 r) 59 g)) rfl ?_
    refine mz_ifT (show (dd ≤ 30) from (sm_leN ed rfl (show d ≤ 30 by omega) (show 30 < 2 ^ 31 by omega))) ?_
    refine mz_go 2 (c' := (24, [some (.ref 57), some (.int 3), some (.int 3), some (.int x), some (.int dd), some (.int 0), none], [.int 0, .int 3], mz_set (mz_set m 57 r) 59 g)) rfl ?_
    refine mz_doQ (R := mz_r66) (as := [.int 3, .int 0]) (rest := []) (r1 := some (.int 13)) (m1 := mz_set (mz_set m 57 r) 59 g) mz_t66 mz_v66 rfl rfl rfl rfl rfl ((kb_3_0 (m := mz_set (mz_set m 57 r) 59 g)).deep (by decide)) ?_
    refine mz_go 1 (c' := (29, [some (.ref 57), some (.int 3), some (.int 3), some (.int x), some (.int dd), some (.int 0), some (.int 13)], [], mz_set (mz_set m 57 r) 59 g)) rfl ?_
    refine Ee1 _ ?_
    refine mz_go 9 (c' := (73, [some (.ref 57), some (.int 3), some (.int 3), some (.int x), some (.int dd), some (.int 0), some (.int 13)], [.int (dd + 1), .int x, .int (-1), .int 13, .ref 57], mz_set (mz_set m 57 re1) 59 ge1)) rfl ?_
    refine mz_doQ (R := mz_r63) (as := [.ref 57, .int 13, .int (-1), .int x, .int (dd + 1)]) (rest := []) (r1 := some (.int 0)) (m1 := mz_set (mz_set m 57 (sm_upd re1 2 1)) 59 ge1) mz_t63 mz_v63_57 rfl rfl rfl rfl rfl ⟨?_, rfl⟩ ?_
    · refine mz_go 4 (c' := (166, [some (.ref 57), some (.int 13), some (.int (-1)), some (.int x), some (.int (dd + 1))], [.int x, .ref 57], mz_set (mz_set m 57 re1) 59 ge1)) rfl ?_
      refine mz_doQ (R := mz_r64) (as := [.ref 57, .int x]) (rest := []) (r1 := some (.int 0)) (m1 := mz_set (mz_set m 57 (sm_upd re1 2 1)) 59 ge1) mz_t64 mz_v64_57 rfl rfl rfl rfl rfl ⟨?_, rfl⟩ ?_
      · refine mz_go 2 (c' := (4, [some (.ref 57), some (.int x), none], [.int (re1 7)], mz_set (mz_set m 57 re1) 59 ge1)) rfl ?_
        rw [show re1 7 = r 7 from Xe1.2 7 (by decide) (by decide)]
        refine mz_go 2 (c' := (8, [some (.ref 57), some (.int x), none], [.int (re1 6), .int (r 7)], mz_set (mz_set m 57 re1) 59 ge1)) rfl ?_
        rw [show re1 6 = r 6 from Xe1.2 6 (by decide) (by decide)]
        refine mz_go 4 (c' := (if ((r 7) - (r 6)) = 0 then 14 else 21, [some (.ref 57), some (.int x), some (.int ((r 7) - (r 6)))], [], mz_set (mz_set m 57 re1) 59 ge1)) rfl ?_
        refine mz_ifT q1 ?_
        refine mz_go 3 (c' := (19, [some (.ref 57), some (.int x), some (.int ((r 7) - (r 6)))], [], mz_up (mz_set (mz_set m 57 re1) 59 ge1) 57 2 1)) rfl ?_
        rw [vx_up57]
        refine mz_go 1 (c' := (20, [some (.ref 57), some (.int x), some (.int ((r 7) - (r 6)))], [.int 0], mz_set (mz_set m 57 (sm_upd re1 2 1)) 59 ge1)) rfl ?_
        exact mz_ret rfl
      exact mz_ret rfl
    exact mz_ret rfl
  · refine ⟨x / ((r 7) - (r 6)), re1, ge1, ⟨?_, rfl⟩, Xe1⟩
    refine mz_go 2 (c' := (2, [some (.ref 57), some (.int 3), some (.int 3), some (.int x), some (.int dd), none, none], [.int 3, .int 3], mz_set (mz_set m 57 r) 59 g)) rfl ?_
    refine mz_doQ (R := mz_r65) (as := [.int 3, .int 3]) (rest := []) (r1 := some (.int 0)) (m1 := mz_set (mz_set m 57 r) 59 g) mz_t65 mz_v65 rfl rfl rfl rfl rfl ((kh_3_3 (m := mz_set (mz_set m 57 r) 59 g)).deep (by decide)) ?_
    refine mz_go 6 (c' := (if dd ≤ 30 then 21 else 19, [some (.ref 57), some (.int 3), some (.int 3), some (.int x), some (.int dd), some (.int 0), none], [], mz_set (mz_set m 57 r) 59 g)) rfl ?_
    refine mz_ifT (show (dd ≤ 30) from (sm_leN ed rfl (show d ≤ 30 by omega) (show 30 < 2 ^ 31 by omega))) ?_
    refine mz_go 2 (c' := (24, [some (.ref 57), some (.int 3), some (.int 3), some (.int x), some (.int dd), some (.int 0), none], [.int 0, .int 3], mz_set (mz_set m 57 r) 59 g)) rfl ?_
    refine mz_doQ (R := mz_r66) (as := [.int 3, .int 0]) (rest := []) (r1 := some (.int 13)) (m1 := mz_set (mz_set m 57 r) 59 g) mz_t66 mz_v66 rfl rfl rfl rfl rfl ((kb_3_0 (m := mz_set (mz_set m 57 r) 59 g)).deep (by decide)) ?_
    refine mz_go 1 (c' := (29, [some (.ref 57), some (.int 3), some (.int 3), some (.int x), some (.int dd), some (.int 0), some (.int 13)], [], mz_set (mz_set m 57 r) 59 g)) rfl ?_
    refine Ee1 _ ?_
    refine mz_go 9 (c' := (73, [some (.ref 57), some (.int 3), some (.int 3), some (.int x), some (.int dd), some (.int 0), some (.int 13)], [.int (dd + 1), .int x, .int (-1), .int 13, .ref 57], mz_set (mz_set m 57 re1) 59 ge1)) rfl ?_
    refine mz_doQ (R := mz_r63) (as := [.ref 57, .int 13, .int (-1), .int x, .int (dd + 1)]) (rest := []) (r1 := some (.int (x / ((r 7) - (r 6))))) (m1 := mz_set (mz_set m 57 re1) 59 ge1) mz_t63 mz_v63_57 rfl rfl rfl rfl rfl ⟨?_, rfl⟩ ?_
    · refine mz_go 4 (c' := (166, [some (.ref 57), some (.int 13), some (.int (-1)), some (.int x), some (.int (dd + 1))], [.int x, .ref 57], mz_set (mz_set m 57 re1) 59 ge1)) rfl ?_
      refine mz_doQ (R := mz_r64) (as := [.ref 57, .int x]) (rest := []) (r1 := some (.int (x / ((r 7) - (r 6))))) (m1 := mz_set (mz_set m 57 re1) 59 ge1) mz_t64 mz_v64_57 rfl rfl rfl rfl rfl ⟨?_, rfl⟩ ?_
      · refine mz_go 2 (c' := (4, [some (.ref 57), some (.int x), none], [.int (re1 7)], mz_set (mz_set m 57 re1) 59 ge1)) rfl ?_
        rw [show re1 7 = r 7 from Xe1.2 7 (by decide) (by decide)]
        refine mz_go 2 (c' := (8, [some (.ref 57), some (.int x), none], [.int (re1 6), .int (r 7)], mz_set (mz_set m 57 re1) 59 ge1)) rfl ?_
        rw [show re1 6 = r 6 from Xe1.2 6 (by decide) (by decide)]
        refine mz_go 4 (c' := (if ((r 7) - (r 6)) = 0 then 14 else 21, [some (.ref 57), some (.int x), some (.int ((r 7) - (r 6)))], [], mz_set (mz_set m 57 re1) 59 ge1)) rfl ?_
        refine mz_ifF q1 ?_
        refine mz_go 2 (c' := (23, [some (.ref 57), some (.int x), some (.int ((r 7) - (r 6)))], [.int ((r 7) - (r 6)), .int x], mz_set (mz_set m 57 re1) 59 ge1)) rfl ?_
        refine mz_div (c' := (24, [some (.ref 57), some (.int x), some (.int ((r 7) - (r 6)))], [.int (x / ((r 7) - (r 6)))], mz_set (mz_set m 57 re1) 59 ge1)) rfl q1 ?_
        exact mz_ret rfl
      exact mz_ret rfl
    exact mz_ret rfl
set_option maxHeartbeats 4000000 in
set_option maxRecDepth 100000 in
theorem vs0_3_4 {m : mz_M} {r g : Nat → Int32} (hr0 : vx_0 4 2 r) {c : Nat} (hc : c ≤ 6) (h5 : r 5 = nI c) (x : Int32) {dd : Int32} {d : Nat} (ed : dd = nI d) (hd : d ≤ 13) : ∃ z r' g', mz_Me 58 mz_r62 [.ref 57, .int 3, .int 4, .int x, .int dd] (mz_set (mz_set m 57 r) 59 g) (some (.int z)) (mz_set (mz_set m 57 r') 59 g') ∧ vx_k 4 2 r r' := by
  have hr1 := hr0
  obtain ⟨⟨B, hB, h4⟩, hp⟩ := hr1
  obtain ⟨re1, ge1, We1, Ee1⟩ := vs0_beg (m := m) (r := r) (g := g) ((vx_id hr0).1) (some (.int 3)) (some (.int 4)) (some (.int x)) (some (.int dd)) (some (.int 4)) 51 (D := 57)
  have Xe1 : vx_k 4 2 r re1 := vx_tr (vx_id hr0) We1
  obtain ⟨ve2, re2, ge2, Ee2, We2⟩ := vs0_3_1 (m := m) (r := re1) (g := ge1) (Xe1.1) hc ((Xe1.2 5 (by decide) (by decide)).trans h5)  x (dd := dd + 1) (d := (d + 1)) (sm_addN ed rfl) (by omega)
  have Xe2 : vx_k 4 2 r re2 := vx_tr Xe1 We2
  obtain ⟨ve3, re3, ge3, Ee3, We3⟩ := vs0_2_any (m := m) (r := re2) (g := ge2) (Xe2.1) hc ((Xe2.2 5 (by decide) (by decide)).trans h5) (f := c) hc 0 (dd := dd + 1) (d := (d + 1)) (sm_addN ed rfl) (by omega)
  have Xe3 : vx_k 4 2 r re3 := vx_tr Xe2 We3
  refine ⟨ve2 - ve3, re3, ge3, ⟨?_, rfl⟩, Xe3⟩
  refine mz_go 2 (c' := (2, [some (.ref 57), some (.int 3), some (.int 4), some (.int x), some (.int dd), none, none], [.int 4, .int 3], mz_set (mz_set m 57 r) 59 g)) rfl ?_
  refine mz_doQ (R := mz_r65) (as := [.int 3, .int 4]) (rest := []) (r1 := some (.int 4)) (m1 := mz_set (mz_set m 57 r) 59 g) mz_t65 mz_v65 rfl rfl rfl rfl rfl ((kh_3_4 (m := mz_set (mz_set m 57 r) 59 g)).deep (by decide)) ?_
  refine mz_go 6 (c' := (if dd ≤ 30 then 21 else 19, [some (.ref 57), some (.int 3), some (.int 4), some (.int x), some (.int dd), some (.int 4), none], [], mz_set (mz_set m 57 r) 59 g)) rfl ?_
  refine mz_ifT (show (dd ≤ 30) from (sm_leN ed rfl (show d ≤ 30 by omega) (show 30 < 2 ^ 31 by omega))) ?_
  refine mz_go 2 (c' := (24, [some (.ref 57), some (.int 3), some (.int 4), some (.int x), some (.int dd), some (.int 4), none], [.int 4, .int 3], mz_set (mz_set m 57 r) 59 g)) rfl ?_
  refine mz_doQ (R := mz_r66) (as := [.int 3, .int 4]) (rest := []) (r1 := some (.int 51)) (m1 := mz_set (mz_set m 57 r) 59 g) mz_t66 mz_v66 rfl rfl rfl rfl rfl ((kb_3_4 (m := mz_set (mz_set m 57 r) 59 g)).deep (by decide)) ?_
  refine mz_go 1 (c' := (29, [some (.ref 57), some (.int 3), some (.int 4), some (.int x), some (.int dd), some (.int 4), some (.int 51)], [], mz_set (mz_set m 57 r) 59 g)) rfl ?_
  refine Ee1 _ ?_
  refine mz_go 9 (c' := (73, [some (.ref 57), some (.int 3), some (.int 4), some (.int x), some (.int dd), some (.int 4), some (.int 51)], [.int (dd + 1), .int x, .int 1, .int 51, .ref 57], mz_set (mz_set m 57 re1) 59 ge1)) rfl ?_
  refine mz_doQ (R := mz_r63) (as := [.ref 57, .int 51, .int 1, .int x, .int (dd + 1)]) (rest := []) (r1 := some (.int (ve2 - ve3))) (m1 := mz_set (mz_set m 57 re3) 59 ge3) mz_t63 mz_v63_57 rfl rfl rfl rfl rfl ⟨?_, rfl⟩ ?_
  · refine mz_go 7 (c' := (262, [some (.ref 57), some (.int 51), some (.int 1), some (.int x), some (.int (dd + 1))], [.int (dd + 1), .int x, .int 1, .int 3, .ref 57], mz_set (mz_set m 57 re1) 59 ge1)) rfl ?_
    refine mz_doQ (R := mz_r62) (as := [.ref 57, .int 3, .int 1, .int x, .int (dd + 1)]) (rest := []) (r1 := some (.int ve2)) (m1 := mz_set (mz_set m 57 re2) 59 ge2) mz_t62 mz_v62_57 rfl rfl rfl rfl rfl (Ee2.deep (by decide)) ?_
    refine mz_go 4 (c' := (271, [some (.ref 57), some (.int 51), some (.int 1), some (.int x), some (.int (dd + 1))], [.int (re2 5), .int 2, .ref 57, .int ve2], mz_set (mz_set m 57 re2) 59 ge2)) rfl ?_
    rw [show re2 5 = r 5 from Xe2.2 5 (by decide) (by decide)]
    rw [h5]
    refine mz_go 2 (c' := (274, [some (.ref 57), some (.int 51), some (.int 1), some (.int x), some (.int (dd + 1))], [.int (dd + 1), .int 0, .int (nI c), .int 2, .ref 57, .int ve2], mz_set (mz_set m 57 re2) 59 ge2)) rfl ?_
    refine mz_doQ (R := mz_r62) (as := [.ref 57, .int 2, .int (nI c), .int 0, .int (dd + 1)]) (rest := [.int ve2]) (r1 := some (.int ve3)) (m1 := mz_set (mz_set m 57 re3) 59 ge3) mz_t62 mz_v62_57 rfl rfl rfl rfl rfl (Ee3.deep (by decide)) ?_
    refine mz_go 1 (c' := (278, [some (.ref 57), some (.int 51), some (.int 1), some (.int x), some (.int (dd + 1))], [.int (ve2 - ve3)], mz_set (mz_set m 57 re3) 59 ge3)) rfl ?_
    exact mz_ret rfl
  exact mz_ret rfl
set_option maxHeartbeats 4000000 in
set_option maxRecDepth 100000 in
theorem vs0_3_5 {m : mz_M} {r g : Nat → Int32} (hr0 : vx_0 4 2 r) {c : Nat} (hc : c ≤ 6) (h5 : r 5 = nI c) (x : Int32) {dd : Int32} {d : Nat} (ed : dd = nI d) (hd : d ≤ 14) : ∃ z r' g', mz_Me 55 mz_r62 [.ref 57, .int 3, .int 5, .int x, .int dd] (mz_set (mz_set m 57 r) 59 g) (some (.int z)) (mz_set (mz_set m 57 r') 59 g') ∧ vx_k 4 2 r r' := by
  have hr1 := hr0
  obtain ⟨⟨B, hB, h4⟩, hp⟩ := hr1
  obtain ⟨re1, ge1, We1, Ee1⟩ := vs0_beg (m := m) (r := r) (g := g) ((vx_id hr0).1) (some (.int 3)) (some (.int 5)) (some (.int x)) (some (.int dd)) (some (.int 0)) 13 (D := 54)
  have Xe1 : vx_k 4 2 r re1 := vx_tr (vx_id hr0) We1
  by_cases q1 : ((r 7) - (r 6)) = 0
  · have V2 : vx_k 4 2 r (sm_upd re1 2 1) := vx_p (by decide) (Or.inr rfl) Xe1
    refine ⟨0, (sm_upd re1 2 1), ge1, ⟨?_, rfl⟩, V2⟩
    refine mz_go 2 (c' := (2, [some (.ref 57), some (.int 3), some (.int 5), some (.int x), some (.int dd), none, none], [.int 5, .int 3], mz_set (mz_set m 57 r) 59 g)) rfl ?_
    refine mz_doQ (R := mz_r65) (as := [.int 3, .int 5]) (rest := []) (r1 := some (.int 0)) (m1 := mz_set (mz_set m 57 r) 59 g) mz_t65 mz_v65 rfl rfl rfl rfl rfl ((kh_3_5 (m := mz_set (mz_set m 57 r) 59 g)).deep (by decide)) ?_
    refine mz_go 6 (c' := (if dd ≤ 30 then 21 else 19, [some (.ref 57), some (.int 3), some (.int 5), some (.int x), some (.int dd), some (.int 0), none], [], mz_set (mz_set m 57 r) 59 g)) rfl ?_
    refine mz_ifT (show (dd ≤ 30) from (sm_leN ed rfl (show d ≤ 30 by omega) (show 30 < 2 ^ 31 by omega))) ?_
    refine mz_go 2 (c' := (24, [some (.ref 57), some (.int 3), some (.int 5), some (.int x), some (.int dd), some (.int 0), none], [.int 0, .int 3], mz_set (mz_set m 57 r) 59 g)) rfl ?_
    refine mz_doQ (R := mz_r66) (as := [.int 3, .int 0]) (rest := []) (r1 := some (.int 13)) (m1 := mz_set (mz_set m 57 r) 59 g) mz_t66 mz_v66 rfl rfl rfl rfl rfl ((kb_3_0 (m := mz_set (mz_set m 57 r) 59 g)).deep (by decide)) ?_
    refine mz_go 1 (c' := (29, [some (.ref 57), some (.int 3), some (.int 5), some (.int x), some (.int dd), some (.int 0), some (.int 13)], [], mz_set (mz_set m 57 r) 59 g)) rfl ?_
    refine Ee1 _ ?_
    refine mz_go 9 (c' := (73, [some (.ref 57), some (.int 3), some (.int 5), some (.int x), some (.int dd), some (.int 0), some (.int 13)], [.int (dd + 1), .int x, .int (-1), .int 13, .ref 57], mz_set (mz_set m 57 re1) 59 ge1)) rfl ?_
    refine mz_doQ (R := mz_r63) (as := [.ref 57, .int 13, .int (-1), .int x, .int (dd + 1)]) (rest := []) (r1 := some (.int 0)) (m1 := mz_set (mz_set m 57 (sm_upd re1 2 1)) 59 ge1) mz_t63 mz_v63_57 rfl rfl rfl rfl rfl ⟨?_, rfl⟩ ?_
    · refine mz_go 4 (c' := (166, [some (.ref 57), some (.int 13), some (.int (-1)), some (.int x), some (.int (dd + 1))], [.int x, .ref 57], mz_set (mz_set m 57 re1) 59 ge1)) rfl ?_
      refine mz_doQ (R := mz_r64) (as := [.ref 57, .int x]) (rest := []) (r1 := some (.int 0)) (m1 := mz_set (mz_set m 57 (sm_upd re1 2 1)) 59 ge1) mz_t64 mz_v64_57 rfl rfl rfl rfl rfl ⟨?_, rfl⟩ ?_
      · refine mz_go 2 (c' := (4, [some (.ref 57), some (.int x), none], [.int (re1 7)], mz_set (mz_set m 57 re1) 59 ge1)) rfl ?_
        rw [show re1 7 = r 7 from Xe1.2 7 (by decide) (by decide)]
        refine mz_go 2 (c' := (8, [some (.ref 57), some (.int x), none], [.int (re1 6), .int (r 7)], mz_set (mz_set m 57 re1) 59 ge1)) rfl ?_
        rw [show re1 6 = r 6 from Xe1.2 6 (by decide) (by decide)]
        refine mz_go 4 (c' := (if ((r 7) - (r 6)) = 0 then 14 else 21, [some (.ref 57), some (.int x), some (.int ((r 7) - (r 6)))], [], mz_set (mz_set m 57 re1) 59 ge1)) rfl ?_
        refine mz_ifT q1 ?_
        refine mz_go 3 (c' := (19, [some (.ref 57), some (.int x), some (.int ((r 7) - (r 6)))], [], mz_up (mz_set (mz_set m 57 re1) 59 ge1) 57 2 1)) rfl ?_
        rw [vx_up57]
        refine mz_go 1 (c' := (20, [some (.ref 57), some (.int x), some (.int ((r 7) - (r 6)))], [.int 0], mz_set (mz_set m 57 (sm_upd re1 2 1)) 59 ge1)) rfl ?_
        exact mz_ret rfl
      exact mz_ret rfl
    exact mz_ret rfl
  · refine ⟨x / ((r 7) - (r 6)), re1, ge1, ⟨?_, rfl⟩, Xe1⟩
    refine mz_go 2 (c' := (2, [some (.ref 57), some (.int 3), some (.int 5), some (.int x), some (.int dd), none, none], [.int 5, .int 3], mz_set (mz_set m 57 r) 59 g)) rfl ?_
    refine mz_doQ (R := mz_r65) (as := [.int 3, .int 5]) (rest := []) (r1 := some (.int 0)) (m1 := mz_set (mz_set m 57 r) 59 g) mz_t65 mz_v65 rfl rfl rfl rfl rfl ((kh_3_5 (m := mz_set (mz_set m 57 r) 59 g)).deep (by decide)) ?_
    refine mz_go 6 (c' := (if dd ≤ 30 then 21 else 19, [some (.ref 57), some (.int 3), some (.int 5), some (.int x), some (.int dd), some (.int 0), none], [], mz_set (mz_set m 57 r) 59 g)) rfl ?_
    refine mz_ifT (show (dd ≤ 30) from (sm_leN ed rfl (show d ≤ 30 by omega) (show 30 < 2 ^ 31 by omega))) ?_
    refine mz_go 2 (c' := (24, [some (.ref 57), some (.int 3), some (.int 5), some (.int x), some (.int dd), some (.int 0), none], [.int 0, .int 3], mz_set (mz_set m 57 r) 59 g)) rfl ?_
    refine mz_doQ (R := mz_r66) (as := [.int 3, .int 0]) (rest := []) (r1 := some (.int 13)) (m1 := mz_set (mz_set m 57 r) 59 g) mz_t66 mz_v66 rfl rfl rfl rfl rfl ((kb_3_0 (m := mz_set (mz_set m 57 r) 59 g)).deep (by decide)) ?_
    refine mz_go 1 (c' := (29, [some (.ref 57), some (.int 3), some (.int 5), some (.int x), some (.int dd), some (.int 0), some (.int 13)], [], mz_set (mz_set m 57 r) 59 g)) rfl ?_
    refine Ee1 _ ?_
    refine mz_go 9 (c' := (73, [some (.ref 57), some (.int 3), some (.int 5), some (.int x), some (.int dd), some (.int 0), some (.int 13)], [.int (dd + 1), .int x, .int (-1), .int 13, .ref 57], mz_set (mz_set m 57 re1) 59 ge1)) rfl ?_
    refine mz_doQ (R := mz_r63) (as := [.ref 57, .int 13, .int (-1), .int x, .int (dd + 1)]) (rest := []) (r1 := some (.int (x / ((r 7) - (r 6))))) (m1 := mz_set (mz_set m 57 re1) 59 ge1) mz_t63 mz_v63_57 rfl rfl rfl rfl rfl ⟨?_, rfl⟩ ?_
    · refine mz_go 4 (c' := (166, [some (.ref 57), some (.int 13), some (.int (-1)), some (.int x), some (.int (dd + 1))], [.int x, .ref 57], mz_set (mz_set m 57 re1) 59 ge1)) rfl ?_
      refine mz_doQ (R := mz_r64) (as := [.ref 57, .int x]) (rest := []) (r1 := some (.int (x / ((r 7) - (r 6))))) (m1 := mz_set (mz_set m 57 re1) 59 ge1) mz_t64 mz_v64_57 rfl rfl rfl rfl rfl ⟨?_, rfl⟩ ?_
      · refine mz_go 2 (c' := (4, [some (.ref 57), some (.int x), none], [.int (re1 7)], mz_set (mz_set m 57 re1) 59 ge1)) rfl ?_
        rw [show re1 7 = r 7 from Xe1.2 7 (by decide) (by decide)]
        refine mz_go 2 (c' := (8, [some (.ref 57), some (.int x), none], [.int (re1 6), .int (r 7)], mz_set (mz_set m 57 re1) 59 ge1)) rfl ?_
        rw [show re1 6 = r 6 from Xe1.2 6 (by decide) (by decide)]
        refine mz_go 4 (c' := (if ((r 7) - (r 6)) = 0 then 14 else 21, [some (.ref 57), some (.int x), some (.int ((r 7) - (r 6)))], [], mz_set (mz_set m 57 re1) 59 ge1)) rfl ?_
        refine mz_ifF q1 ?_
        refine mz_go 2 (c' := (23, [some (.ref 57), some (.int x), some (.int ((r 7) - (r 6)))], [.int ((r 7) - (r 6)), .int x], mz_set (mz_set m 57 re1) 59 ge1)) rfl ?_
        refine mz_div (c' := (24, [some (.ref 57), some (.int x), some (.int ((r 7) - (r 6)))], [.int (x / ((r 7) - (r 6)))], mz_set (mz_set m 57 re1) 59 ge1)) rfl q1 ?_
        exact mz_ret rfl
      exact mz_ret rfl
    exact mz_ret rfl
set_option maxHeartbeats 4000000 in
set_option maxRecDepth 100000 in
theorem vs0_3_6 {m : mz_M} {r g : Nat → Int32} (hr0 : vx_0 4 2 r) {c : Nat} (hc : c ≤ 6) (h5 : r 5 = nI c) (x : Int32) {dd : Int32} {d : Nat} (ed : dd = nI d) (hd : d ≤ 13) : ∃ z r' g', mz_Me 58 mz_r62 [.ref 57, .int 3, .int 6, .int x, .int dd] (mz_set (mz_set m 57 r) 59 g) (some (.int z)) (mz_set (mz_set m 57 r') 59 g') ∧ vx_k 4 2 r r' := by
  have hr1 := hr0
  obtain ⟨⟨B, hB, h4⟩, hp⟩ := hr1
  obtain ⟨re1, ge1, We1, Ee1⟩ := vs0_beg (m := m) (r := r) (g := g) ((vx_id hr0).1) (some (.int 3)) (some (.int 6)) (some (.int x)) (some (.int dd)) (some (.int 2)) 31 (D := 57)
  have Xe1 : vx_k 4 2 r re1 := vx_tr (vx_id hr0) We1
  obtain ⟨ve2, re2, ge2, Ee2, We2⟩ := vs0_3_0 (m := m) (r := re1) (g := ge1) (Xe1.1) hc ((Xe1.2 5 (by decide) (by decide)).trans h5)  x (dd := dd + 1) (d := (d + 1)) (sm_addN ed rfl) (by omega)
  have Xe2 : vx_k 4 2 r re2 := vx_tr Xe1 We2
  obtain ⟨ve3, re3, ge3, Ee3, We3⟩ := vs0_0_any (m := m) (r := re2) (g := ge2) (Xe2.1) hc ((Xe2.2 5 (by decide) (by decide)).trans h5) (f := c) hc 1 (dd := dd + 1) (d := (d + 1)) (sm_addN ed rfl) (by omega)
  have Xe3 : vx_k 4 2 r re3 := vx_tr Xe2 We3
  refine ⟨ve2 + ve3, re3, ge3, ⟨?_, rfl⟩, Xe3⟩
  refine mz_go 2 (c' := (2, [some (.ref 57), some (.int 3), some (.int 6), some (.int x), some (.int dd), none, none], [.int 6, .int 3], mz_set (mz_set m 57 r) 59 g)) rfl ?_
  refine mz_doQ (R := mz_r65) (as := [.int 3, .int 6]) (rest := []) (r1 := some (.int 2)) (m1 := mz_set (mz_set m 57 r) 59 g) mz_t65 mz_v65 rfl rfl rfl rfl rfl ((kh_3_6 (m := mz_set (mz_set m 57 r) 59 g)).deep (by decide)) ?_
  refine mz_go 6 (c' := (if dd ≤ 30 then 21 else 19, [some (.ref 57), some (.int 3), some (.int 6), some (.int x), some (.int dd), some (.int 2), none], [], mz_set (mz_set m 57 r) 59 g)) rfl ?_
  refine mz_ifT (show (dd ≤ 30) from (sm_leN ed rfl (show d ≤ 30 by omega) (show 30 < 2 ^ 31 by omega))) ?_
  refine mz_go 2 (c' := (24, [some (.ref 57), some (.int 3), some (.int 6), some (.int x), some (.int dd), some (.int 2), none], [.int 2, .int 3], mz_set (mz_set m 57 r) 59 g)) rfl ?_
  refine mz_doQ (R := mz_r66) (as := [.int 3, .int 2]) (rest := []) (r1 := some (.int 31)) (m1 := mz_set (mz_set m 57 r) 59 g) mz_t66 mz_v66 rfl rfl rfl rfl rfl ((kb_3_2 (m := mz_set (mz_set m 57 r) 59 g)).deep (by decide)) ?_
  refine mz_go 1 (c' := (29, [some (.ref 57), some (.int 3), some (.int 6), some (.int x), some (.int dd), some (.int 2), some (.int 31)], [], mz_set (mz_set m 57 r) 59 g)) rfl ?_
  refine Ee1 _ ?_
  refine mz_go 9 (c' := (73, [some (.ref 57), some (.int 3), some (.int 6), some (.int x), some (.int dd), some (.int 2), some (.int 31)], [.int (dd + 1), .int x, .int 0, .int 31, .ref 57], mz_set (mz_set m 57 re1) 59 ge1)) rfl ?_
  refine mz_doQ (R := mz_r63) (as := [.ref 57, .int 31, .int 0, .int x, .int (dd + 1)]) (rest := []) (r1 := some (.int (ve2 + ve3))) (m1 := mz_set (mz_set m 57 re3) 59 ge3) mz_t63 mz_v63_57 rfl rfl rfl rfl rfl ⟨?_, rfl⟩ ?_
  · refine mz_go 7 (c' := (215, [some (.ref 57), some (.int 31), some (.int 0), some (.int x), some (.int (dd + 1))], [.int (dd + 1), .int x, .int 0, .int 3, .ref 57], mz_set (mz_set m 57 re1) 59 ge1)) rfl ?_
    refine mz_doQ (R := mz_r62) (as := [.ref 57, .int 3, .int 0, .int x, .int (dd + 1)]) (rest := []) (r1 := some (.int ve2)) (m1 := mz_set (mz_set m 57 re2) 59 ge2) mz_t62 mz_v62_57 rfl rfl rfl rfl rfl (Ee2.deep (by decide)) ?_
    refine mz_go 4 (c' := (224, [some (.ref 57), some (.int 31), some (.int 0), some (.int x), some (.int (dd + 1))], [.int (re2 5), .int 0, .ref 57, .int ve2], mz_set (mz_set m 57 re2) 59 ge2)) rfl ?_
    rw [show re2 5 = r 5 from Xe2.2 5 (by decide) (by decide)]
    rw [h5]
    refine mz_go 2 (c' := (227, [some (.ref 57), some (.int 31), some (.int 0), some (.int x), some (.int (dd + 1))], [.int (dd + 1), .int 1, .int (nI c), .int 0, .ref 57, .int ve2], mz_set (mz_set m 57 re2) 59 ge2)) rfl ?_
    refine mz_doQ (R := mz_r62) (as := [.ref 57, .int 0, .int (nI c), .int 1, .int (dd + 1)]) (rest := [.int ve2]) (r1 := some (.int ve3)) (m1 := mz_set (mz_set m 57 re3) 59 ge3) mz_t62 mz_v62_57 rfl rfl rfl rfl rfl (Ee3.deep (by decide)) ?_
    refine mz_go 1 (c' := (231, [some (.ref 57), some (.int 31), some (.int 0), some (.int x), some (.int (dd + 1))], [.int (ve2 + ve3)], mz_set (mz_set m 57 re3) 59 ge3)) rfl ?_
    exact mz_ret rfl
  exact mz_ret rfl
set_option maxHeartbeats 4000000 in
set_option maxRecDepth 100000 in
theorem vs0_3_any {m : mz_M} {r g : Nat → Int32} (hr0 : vx_0 4 2 r) {c : Nat} (hc : c ≤ 6) (h5 : r 5 = nI c) {f : Nat} (hf : f ≤ 6) (x : Int32) {dd : Int32} {d : Nat} (ed : dd = nI d) (hd : d ≤ 11) : ∃ z r' g', mz_Me 70 mz_r62 [.ref 57, .int 3, .int (nI f), .int x, .int dd] (mz_set (mz_set m 57 r) 59 g) (some (.int z)) (mz_set (mz_set m 57 r') 59 g') ∧ vx_k 4 2 r r' := by
  rcases (show f = 0 ∨ f = 1 ∨ f = 2 ∨ f = 3 ∨ f = 4 ∨ f = 5 ∨ f = 6 by omega) with rfl | rfl | rfl | rfl | rfl | rfl | rfl
  · obtain ⟨z, r', g', E, W⟩ := vs0_3_0 (m := m) (g := g) hr0 hc h5 x ed (by omega)
    exact ⟨z, r', g', E.deep (by decide), W⟩
  · obtain ⟨z, r', g', E, W⟩ := vs0_3_1 (m := m) (g := g) hr0 hc h5 x ed (by omega)
    exact ⟨z, r', g', E.deep (by decide), W⟩
  · obtain ⟨z, r', g', E, W⟩ := vs0_3_2 (m := m) (g := g) hr0 hc h5 x ed (by omega)
    exact ⟨z, r', g', E.deep (by decide), W⟩
  · obtain ⟨z, r', g', E, W⟩ := vs0_3_3 (m := m) (g := g) hr0 hc h5 x ed (by omega)
    exact ⟨z, r', g', E.deep (by decide), W⟩
  · obtain ⟨z, r', g', E, W⟩ := vs0_3_4 (m := m) (g := g) hr0 hc h5 x ed (by omega)
    exact ⟨z, r', g', E.deep (by decide), W⟩
  · obtain ⟨z, r', g', E, W⟩ := vs0_3_5 (m := m) (g := g) hr0 hc h5 x ed (by omega)
    exact ⟨z, r', g', E.deep (by decide), W⟩
  · obtain ⟨z, r', g', E, W⟩ := vs0_3_6 (m := m) (g := g) hr0 hc h5 x ed (by omega)
    exact ⟨z, r', g', E.deep (by decide), W⟩
set_option maxHeartbeats 4000000 in
set_option maxRecDepth 100000 in
theorem vs1_beg {m : mz_M} {r g : Nat → Int32} (hr0 : vx_0 19 21 r) (b : Int32) : ∃ r' g', mz_Me 5 mz_r209 [.ref 65, .int b] (mz_set (mz_set m 65 r) 74 g) none (mz_set (mz_set m 65 r') 74 g') ∧ vx_k 19 21 r r' := by
  have hr1 := hr0
  obtain ⟨⟨B, hB, h4⟩, hp⟩ := hr1
  by_cases q1 : 30 ≤ B
  · refine ⟨r, g, ⟨?_, rfl⟩, (vx_id hr0)⟩
    refine mz_go 2 (c' := (4, [some (.ref 65), some (.int b)], [.int (r 19)], mz_set (mz_set m 65 r) 74 g)) rfl ?_
    rw [h4]
    refine mz_go 2 (c' := (if 30 ≤ (nI B) then 29 else 9, [some (.ref 65), some (.int b)], [], mz_set (mz_set m 65 r) 74 g)) rfl ?_
    refine mz_ifT (show (30 ≤ (nI B)) from (sm_leN rfl rfl (show 30 ≤ B by omega) (show B < 2 ^ 31 by omega))) ?_
    exact mz_ret rfl
  · have V1 : vx_k 19 21 r (sm_upd r 19 ((nI B) + 1)) := vx_b (by decide) (by omega) (vx_id hr0)
    refine ⟨(sm_upd r 19 ((nI B) + 1)), (sm_upd g B b), ⟨?_, rfl⟩, V1⟩
    refine mz_go 2 (c' := (4, [some (.ref 65), some (.int b)], [.int (r 19)], mz_set (mz_set m 65 r) 74 g)) rfl ?_
    rw [h4]
    refine mz_go 2 (c' := (if 30 ≤ (nI B) then 29 else 9, [some (.ref 65), some (.int b)], [], mz_set (mz_set m 65 r) 74 g)) rfl ?_
    refine mz_ifF (show ¬ (30 ≤ (nI B)) from (sm_nleN rfl rfl (show B < 30 by omega) (show 30 < 2 ^ 31 by omega))) ?_
    refine mz_go 4 (c' := (17, [some (.ref 65), some (.int b)], [.int (r 19), .ref 74], mz_set (mz_set m 65 r) 74 g)) rfl ?_
    rw [h4]
    refine mz_go 1 (c' := (18, [some (.ref 65), some (.int b)], [.int b, .int (nI B), .ref 74], mz_set (mz_set m 65 r) 74 g)) rfl ?_
    refine mz_arr (c' := (19, [some (.ref 65), some (.int b)], [], mz_up (mz_set (mz_set m 65 r) 74 g) 74 ((nI B).toNatClampNeg) b)) rfl (show mz_in (nI B) 30 = true from sm_inN rfl (show B < 30 by omega) (by decide)) ?_
    rw [show (nI B : Int32).toNatClampNeg = B from sm_clN rfl (show B < 2 ^ 31 by omega)]
    refine mz_go 1 (c' := (20, [some (.ref 65), some (.int b)], [.ref 65], mz_up (mz_set (mz_set m 65 r) 74 g) 74 B b)) rfl ?_
    rw [vx_up74]
    refine mz_go 2 (c' := (24, [some (.ref 65), some (.int b)], [.int (r 19), .ref 65], mz_set (mz_set m 65 r) 74 (sm_upd g B b))) rfl ?_
    rw [h4]
    refine mz_go 3 (c' := (29, [some (.ref 65), some (.int b)], [], mz_up (mz_set (mz_set m 65 r) 74 (sm_upd g B b)) 65 19 ((nI B) + 1))) rfl ?_
    rw [vx_up65]
    exact mz_ret rfl
set_option maxHeartbeats 4000000 in
set_option maxRecDepth 100000 in
theorem kn_0 {m w : mz_M} (hr2 : sm_HR w (m 66)) {j c : Nat} (hj : j < 6) (hk : w 3 j = nI c) (h20 : m 65 20 = nI j) : mz_Me 6 mz_r211 [.ref 65] m (some (.int (nI c))) m := by
  refine ⟨?_, rfl⟩
  refine mz_go 3 (c' := (5, [some (.ref 65)], [.int (m 65 20), .ref 65], m)) rfl ?_
  rw [h20]
  refine mz_go 1 (c' := (6, [some (.ref 65)], [.int 0, .int (nI j), .ref 65], m)) rfl ?_
  refine mz_doQ (R := mz_r133) (as := [.ref 65, .int (nI j), .int 0]) (rest := []) (r1 := some (.int (w 3 j))) (m1 := m) mz_t133 mz_v133_65 rfl rfl rfl rfl rfl ((ct_its0 (w := w) (m := m) hr2 hj).deep (by decide)) ?_
  rw [hk]
  exact mz_ret rfl
set_option maxHeartbeats 4000000 in
set_option maxRecDepth 100000 in
theorem kn_3 {m w : mz_M} (hr2 : sm_HR w (m 66)) {j : Nat} (hj : j < 6) (h20 : m 65 20 = nI j) : mz_Me 6 mz_r212 [.ref 65] m (some (.int (w 6 j))) m := by
  refine ⟨?_, rfl⟩
  refine mz_go 3 (c' := (5, [some (.ref 65)], [.int (m 65 20), .ref 65], m)) rfl ?_
  rw [h20]
  refine mz_go 1 (c' := (6, [some (.ref 65)], [.int 3, .int (nI j), .ref 65], m)) rfl ?_
  refine mz_doQ (R := mz_r133) (as := [.ref 65, .int (nI j), .int 3]) (rest := []) (r1 := some (.int (w 6 j))) (m1 := m) mz_t133 mz_v133_65 rfl rfl rfl rfl rfl ((ct_its3 (w := w) (m := m) hr2 hj).deep (by decide)) ?_
  exact mz_ret rfl
set_option maxHeartbeats 4000000 in
set_option maxRecDepth 100000 in
theorem vs1_0_0 {m w : mz_M} (hr2 : sm_HR w (m 66)) {r g : Nat → Int32} (hr0 : vx_0 19 21 r) {j c : Nat} (hj : j < 6) (hk : w 3 j = nI c) (hc : c ≤ 6) (h20 : r 20 = nI j) (x : Int32) : ∃ z r' g', mz_Me 8 mz_r213 [.ref 65, .int 0, .int x] (mz_set (mz_set m 65 r) 74 g) (some (.int z)) (mz_set (mz_set m 65 r') 74 g') ∧ vx_k 19 21 r r' := by
  obtain ⟨re1, ge1, Ee1, We1⟩ := vs1_beg (m := m) (r := r) (g := g) ((vx_id hr0).1) 10
  have Xe1 : vx_k 19 21 r re1 := vx_tr (vx_id hr0) We1
  refine ⟨x + (w 6 j), re1, ge1, ⟨?_, rfl⟩, Xe1⟩
  refine mz_go 4 (c' := (47, [some (.ref 65), some (.int 0), some (.int x)], [.int 10, .ref 65], mz_set (mz_set m 65 r) 74 g)) rfl ?_
  refine mz_doQ (R := mz_r209) (as := [.ref 65, .int 10]) (rest := []) (r1 := none) (m1 := mz_set (mz_set m 65 re1) 74 ge1) mz_t209 mz_v209_65 rfl rfl rfl rfl rfl (Ee1.deep (by decide)) ?_
  refine mz_go 2 (c' := (52, [some (.ref 65), some (.int 0), some (.int x)], [.ref 65, .int x], mz_set (mz_set m 65 re1) 74 ge1)) rfl ?_
  refine mz_doQ (R := mz_r212) (as := [.ref 65]) (rest := [.int x]) (r1 := some (.int (w 6 j))) (m1 := mz_set (mz_set m 65 re1) 74 ge1) mz_t212 mz_v212_65 rfl rfl rfl rfl rfl ((kn_3 (m := mz_set (mz_set m 65 re1) 74 ge1) (w := w) hr2 hj ((Xe1.2 20 (by decide) (by decide)).trans h20)).deep (by decide)) ?_
  refine mz_go 1 (c' := (56, [some (.ref 65), some (.int 0), some (.int x)], [.int (x + (w 6 j))], mz_set (mz_set m 65 re1) 74 ge1)) rfl ?_
  exact mz_ret rfl
set_option maxHeartbeats 4000000 in
set_option maxRecDepth 100000 in
theorem vs1_0_1 {m w : mz_M} (hr2 : sm_HR w (m 66)) {r g : Nat → Int32} (hr0 : vx_0 19 21 r) {j c : Nat} (hj : j < 6) (hk : w 3 j = nI c) (hc : c ≤ 6) (h20 : r 20 = nI j) (x : Int32) : ∃ z r' g', mz_Me 11 mz_r213 [.ref 65, .int 1, .int x] (mz_set (mz_set m 65 r) 74 g) (some (.int z)) (mz_set (mz_set m 65 r') 74 g') ∧ vx_k 19 21 r r' := by
  obtain ⟨re1, ge1, Ee1, We1⟩ := vs1_beg (m := m) (r := r) (g := g) ((vx_id hr0).1) 20
  have Xe1 : vx_k 19 21 r re1 := vx_tr (vx_id hr0) We1
  obtain ⟨ve2, re2, ge2, Ee2, We2⟩ := vs1_0_0 (m := m) (w := w) hr2 (r := re1) (g := ge1) (Xe1.1) hj hk hc ((Xe1.2 20 (by decide) (by decide)).trans h20)  x
  have Xe2 : vx_k 19 21 r re2 := vx_tr Xe1 We2
  refine ⟨ve2 - 1, re2, ge2, ⟨?_, rfl⟩, Xe2⟩
  refine mz_go 4 (c' := (60, [some (.ref 65), some (.int 1), some (.int x)], [.int 20, .ref 65], mz_set (mz_set m 65 r) 74 g)) rfl ?_
  refine mz_doQ (R := mz_r209) (as := [.ref 65, .int 20]) (rest := []) (r1 := none) (m1 := mz_set (mz_set m 65 re1) 74 ge1) mz_t209 mz_v209_65 rfl rfl rfl rfl rfl (Ee1.deep (by decide)) ?_
  refine mz_go 2 (c' := (65, [some (.ref 65), some (.int 1), some (.int x)], [.int 1, .ref 65], mz_set (mz_set m 65 re1) 74 ge1)) rfl ?_
  refine mz_doQ (R := mz_r210) (as := [.int 1]) (rest := [.ref 65]) (r1 := some (.int 0)) (m1 := mz_set (mz_set m 65 re1) 74 ge1) mz_t210 mz_v210 rfl rfl rfl rfl rfl ⟨?_, rfl⟩ ?_
  · refine mz_go 10 (c' := (29, [some (.int 1)], [.int 0], mz_set (mz_set m 65 re1) 74 ge1)) rfl ?_
    exact mz_ret rfl
  refine mz_go 1 (c' := (69, [some (.ref 65), some (.int 1), some (.int x)], [.int x, .int 0, .ref 65], mz_set (mz_set m 65 re1) 74 ge1)) rfl ?_
  refine mz_doQ (R := mz_r213) (as := [.ref 65, .int 0, .int x]) (rest := []) (r1 := some (.int ve2)) (m1 := mz_set (mz_set m 65 re2) 74 ge2) mz_t213 mz_v213_65 rfl rfl rfl rfl rfl (Ee2.deep (by decide)) ?_
  refine mz_go 2 (c' := (74, [some (.ref 65), some (.int 1), some (.int x)], [.int (ve2 - 1)], mz_set (mz_set m 65 re2) 74 ge2)) rfl ?_
  exact mz_ret rfl
set_option maxHeartbeats 4000000 in
set_option maxRecDepth 100000 in
theorem vs1_0_2 {m w : mz_M} (hr2 : sm_HR w (m 66)) {r g : Nat → Int32} (hr0 : vx_0 19 21 r) {j c : Nat} (hj : j < 6) (hk : w 3 j = nI c) (hc : c ≤ 6) (h20 : r 20 = nI j) (x : Int32) : ∃ z r' g', mz_Me 11 mz_r213 [.ref 65, .int 2, .int x] (mz_set (mz_set m 65 r) 74 g) (some (.int z)) (mz_set (mz_set m 65 r') 74 g') ∧ vx_k 19 21 r r' := by
  obtain ⟨ve1, re1, ge1, Ee1, We1⟩ := vs1_0_0 (m := m) (w := w) hr2 (r := r) (g := g) ((vx_id hr0).1) hj hk hc (((vx_id hr0).2 20 (by decide) (by decide)).trans h20)  x
  have Xe1 : vx_k 19 21 r re1 := vx_tr (vx_id hr0) We1
  refine ⟨ve1, re1, ge1, ⟨?_, rfl⟩, Xe1⟩
  refine mz_go 4 (c' := (103, [some (.ref 65), some (.int 2), some (.int x)], [.int 2, .ref 65], mz_set (mz_set m 65 r) 74 g)) rfl ?_
  refine mz_doQ (R := mz_r210) (as := [.int 2]) (rest := [.ref 65]) (r1 := some (.int 0)) (m1 := mz_set (mz_set m 65 r) 74 g) mz_t210 mz_v210 rfl rfl rfl rfl rfl ⟨?_, rfl⟩ ?_
  · refine mz_go 10 (c' := (29, [some (.int 2)], [.int 0], mz_set (mz_set m 65 r) 74 g)) rfl ?_
    exact mz_ret rfl
  refine mz_go 1 (c' := (107, [some (.ref 65), some (.int 2), some (.int x)], [.int x, .int 0, .ref 65], mz_set (mz_set m 65 r) 74 g)) rfl ?_
  refine mz_doQ (R := mz_r213) (as := [.ref 65, .int 0, .int x]) (rest := []) (r1 := some (.int ve1)) (m1 := mz_set (mz_set m 65 re1) 74 ge1) mz_t213 mz_v213_65 rfl rfl rfl rfl rfl (Ee1.deep (by decide)) ?_
  exact mz_ret rfl
set_option maxHeartbeats 4000000 in
set_option maxRecDepth 100000 in
theorem vs1_0_3 {m w : mz_M} (hr2 : sm_HR w (m 66)) {r g : Nat → Int32} (hr0 : vx_0 19 21 r) {j c : Nat} (hj : j < 6) (hk : w 3 j = nI c) (hc : c ≤ 6) (h20 : r 20 = nI j) (x : Int32) : ∃ z r' g', mz_Me 11 mz_r213 [.ref 65, .int 3, .int x] (mz_set (mz_set m 65 r) 74 g) (some (.int z)) (mz_set (mz_set m 65 r') 74 g') ∧ vx_k 19 21 r r' := by
  obtain ⟨ve1, re1, ge1, Ee1, We1⟩ := vs1_0_0 (m := m) (w := w) hr2 (r := r) (g := g) ((vx_id hr0).1) hj hk hc (((vx_id hr0).2 20 (by decide) (by decide)).trans h20)  x
  have Xe1 : vx_k 19 21 r re1 := vx_tr (vx_id hr0) We1
  refine ⟨ve1, re1, ge1, ⟨?_, rfl⟩, Xe1⟩
  refine mz_go 4 (c' := (103, [some (.ref 65), some (.int 3), some (.int x)], [.int 3, .ref 65], mz_set (mz_set m 65 r) 74 g)) rfl ?_
  refine mz_doQ (R := mz_r210) (as := [.int 3]) (rest := [.ref 65]) (r1 := some (.int 0)) (m1 := mz_set (mz_set m 65 r) 74 g) mz_t210 mz_v210 rfl rfl rfl rfl rfl ⟨?_, rfl⟩ ?_
  · refine mz_go 10 (c' := (29, [some (.int 3)], [.int 0], mz_set (mz_set m 65 r) 74 g)) rfl ?_
    exact mz_ret rfl
  refine mz_go 1 (c' := (107, [some (.ref 65), some (.int 3), some (.int x)], [.int x, .int 0, .ref 65], mz_set (mz_set m 65 r) 74 g)) rfl ?_
  refine mz_doQ (R := mz_r213) (as := [.ref 65, .int 0, .int x]) (rest := []) (r1 := some (.int ve1)) (m1 := mz_set (mz_set m 65 re1) 74 ge1) mz_t213 mz_v213_65 rfl rfl rfl rfl rfl (Ee1.deep (by decide)) ?_
  exact mz_ret rfl
set_option maxHeartbeats 4000000 in
set_option maxRecDepth 100000 in
theorem vs1_0_4 {m w : mz_M} (hr2 : sm_HR w (m 66)) {r g : Nat → Int32} (hr0 : vx_0 19 21 r) {j c : Nat} (hj : j < 6) (hk : w 3 j = nI c) (hc : c ≤ 6) (h20 : r 20 = nI j) (x : Int32) : ∃ z r' g', mz_Me 14 mz_r213 [.ref 65, .int 4, .int x] (mz_set (mz_set m 65 r) 74 g) (some (.int z)) (mz_set (mz_set m 65 r') 74 g') ∧ vx_k 19 21 r r' := by
  obtain ⟨re1, ge1, Ee1, We1⟩ := vs1_beg (m := m) (r := r) (g := g) ((vx_id hr0).1) 50
  have Xe1 : vx_k 19 21 r re1 := vx_tr (vx_id hr0) We1
  obtain ⟨ve2, re2, ge2, Ee2, We2⟩ := vs1_0_1 (m := m) (w := w) hr2 (r := re1) (g := ge1) (Xe1.1) hj hk hc ((Xe1.2 20 (by decide) (by decide)).trans h20)  (x / 2)
  have Xe2 : vx_k 19 21 r re2 := vx_tr Xe1 We2
  refine ⟨ve2, re2, ge2, ⟨?_, rfl⟩, Xe2⟩
  refine mz_go 4 (c' := (78, [some (.ref 65), some (.int 4), some (.int x)], [.int 50, .ref 65], mz_set (mz_set m 65 r) 74 g)) rfl ?_
  refine mz_doQ (R := mz_r209) (as := [.ref 65, .int 50]) (rest := []) (r1 := none) (m1 := mz_set (mz_set m 65 re1) 74 ge1) mz_t209 mz_v209_65 rfl rfl rfl rfl rfl (Ee1.deep (by decide)) ?_
  refine mz_go 2 (c' := (83, [some (.ref 65), some (.int 4), some (.int x)], [.int 4, .ref 65], mz_set (mz_set m 65 re1) 74 ge1)) rfl ?_
  refine mz_doQ (R := mz_r210) (as := [.int 4]) (rest := [.ref 65]) (r1 := some (.int 1)) (m1 := mz_set (mz_set m 65 re1) 74 ge1) mz_t210 mz_v210 rfl rfl rfl rfl rfl ⟨?_, rfl⟩ ?_
  · refine mz_go 5 (c' := (29, [some (.int 4)], [.int 1], mz_set (mz_set m 65 re1) 74 ge1)) rfl ?_
    exact mz_ret rfl
  refine mz_go 3 (c' := (89, [some (.ref 65), some (.int 4), some (.int x)], [.int (x / 2), .int 1, .ref 65], mz_set (mz_set m 65 re1) 74 ge1)) rfl ?_
  refine mz_doQ (R := mz_r213) (as := [.ref 65, .int 1, .int (x / 2)]) (rest := []) (r1 := some (.int ve2)) (m1 := mz_set (mz_set m 65 re2) 74 ge2) mz_t213 mz_v213_65 rfl rfl rfl rfl rfl (Ee2.deep (by decide)) ?_
  exact mz_ret rfl
set_option maxHeartbeats 4000000 in
set_option maxRecDepth 100000 in
theorem vs1_0_5 {m w : mz_M} (hr2 : sm_HR w (m 66)) {r g : Nat → Int32} (hr0 : vx_0 19 21 r) {j c : Nat} (hj : j < 6) (hk : w 3 j = nI c) (hc : c ≤ 6) (h20 : r 20 = nI j) (x : Int32) : ∃ z r' g', mz_Me 14 mz_r213 [.ref 65, .int 5, .int x] (mz_set (mz_set m 65 r) 74 g) (some (.int z)) (mz_set (mz_set m 65 r') 74 g') ∧ vx_k 19 21 r r' := by
  obtain ⟨ve1, re1, ge1, Ee1, We1⟩ := vs1_0_3 (m := m) (w := w) hr2 (r := r) (g := g) ((vx_id hr0).1) hj hk hc (((vx_id hr0).2 20 (by decide) (by decide)).trans h20)  x
  have Xe1 : vx_k 19 21 r re1 := vx_tr (vx_id hr0) We1
  refine ⟨ve1, re1, ge1, ⟨?_, rfl⟩, Xe1⟩
  refine mz_go 4 (c' := (103, [some (.ref 65), some (.int 5), some (.int x)], [.int 5, .ref 65], mz_set (mz_set m 65 r) 74 g)) rfl ?_
  refine mz_doQ (R := mz_r210) (as := [.int 5]) (rest := [.ref 65]) (r1 := some (.int 3)) (m1 := mz_set (mz_set m 65 r) 74 g) mz_t210 mz_v210 rfl rfl rfl rfl rfl ⟨?_, rfl⟩ ?_
  · refine mz_go 8 (c' := (29, [some (.int 5)], [.int 3], mz_set (mz_set m 65 r) 74 g)) rfl ?_
    exact mz_ret rfl
  refine mz_go 1 (c' := (107, [some (.ref 65), some (.int 5), some (.int x)], [.int x, .int 3, .ref 65], mz_set (mz_set m 65 r) 74 g)) rfl ?_
  refine mz_doQ (R := mz_r213) (as := [.ref 65, .int 3, .int x]) (rest := []) (r1 := some (.int ve1)) (m1 := mz_set (mz_set m 65 re1) 74 ge1) mz_t213 mz_v213_65 rfl rfl rfl rfl rfl (Ee1.deep (by decide)) ?_
  exact mz_ret rfl
set_option maxHeartbeats 4000000 in
set_option maxRecDepth 100000 in
theorem vs1_0_6 {m w : mz_M} (hr2 : sm_HR w (m 66)) {r g : Nat → Int32} (hr0 : vx_0 19 21 r) {j c : Nat} (hj : j < 6) (hk : w 3 j = nI c) (hc : c ≤ 6) (h20 : r 20 = nI j) (x : Int32) : ∃ z r' g', mz_Me 8 mz_r213 [.ref 65, .int 6, .int x] (mz_set (mz_set m 65 r) 74 g) (some (.int z)) (mz_set (mz_set m 65 r') 74 g') ∧ vx_k 19 21 r r' := by
  obtain ⟨re1, ge1, Ee1, We1⟩ := vs1_beg (m := m) (r := r) (g := g) ((vx_id hr0).1) 71
  have Xe1 : vx_k 19 21 r re1 := vx_tr (vx_id hr0) We1
  refine ⟨5, re1, ge1, ⟨?_, rfl⟩, Xe1⟩
  refine mz_go 4 (c' := (96, [some (.ref 65), some (.int 6), some (.int x)], [.int 71, .ref 65], mz_set (mz_set m 65 r) 74 g)) rfl ?_
  refine mz_doQ (R := mz_r209) (as := [.ref 65, .int 71]) (rest := []) (r1 := none) (m1 := mz_set (mz_set m 65 re1) 74 ge1) mz_t209 mz_v209_65 rfl rfl rfl rfl rfl (Ee1.deep (by decide)) ?_
  refine mz_go 1 (c' := (100, [some (.ref 65), some (.int 6), some (.int x)], [.int 5], mz_set (mz_set m 65 re1) 74 ge1)) rfl ?_
  exact mz_ret rfl
set_option maxHeartbeats 4000000 in
set_option maxRecDepth 100000 in
theorem vs1_0_any {m w : mz_M} (hr2 : sm_HR w (m 66)) {r g : Nat → Int32} (hr0 : vx_0 19 21 r) {j c : Nat} (hj : j < 6) (hk : w 3 j = nI c) (hc : c ≤ 6) (h20 : r 20 = nI j) {f : Nat} (hf : f ≤ 6) (x : Int32) : ∃ z r' g', mz_Me 20 mz_r213 [.ref 65, .int (nI f), .int x] (mz_set (mz_set m 65 r) 74 g) (some (.int z)) (mz_set (mz_set m 65 r') 74 g') ∧ vx_k 19 21 r r' := by
  rcases (show f = 0 ∨ f = 1 ∨ f = 2 ∨ f = 3 ∨ f = 4 ∨ f = 5 ∨ f = 6 by omega) with rfl | rfl | rfl | rfl | rfl | rfl | rfl
  · obtain ⟨z, r', g', E, W⟩ := vs1_0_0 (m := m) (w := w) hr2 (g := g) hr0 hj hk hc h20 x
    exact ⟨z, r', g', E.deep (by decide), W⟩
  · obtain ⟨z, r', g', E, W⟩ := vs1_0_1 (m := m) (w := w) hr2 (g := g) hr0 hj hk hc h20 x
    exact ⟨z, r', g', E.deep (by decide), W⟩
  · obtain ⟨z, r', g', E, W⟩ := vs1_0_2 (m := m) (w := w) hr2 (g := g) hr0 hj hk hc h20 x
    exact ⟨z, r', g', E.deep (by decide), W⟩
  · obtain ⟨z, r', g', E, W⟩ := vs1_0_3 (m := m) (w := w) hr2 (g := g) hr0 hj hk hc h20 x
    exact ⟨z, r', g', E.deep (by decide), W⟩
  · obtain ⟨z, r', g', E, W⟩ := vs1_0_4 (m := m) (w := w) hr2 (g := g) hr0 hj hk hc h20 x
    exact ⟨z, r', g', E.deep (by decide), W⟩
  · obtain ⟨z, r', g', E, W⟩ := vs1_0_5 (m := m) (w := w) hr2 (g := g) hr0 hj hk hc h20 x
    exact ⟨z, r', g', E.deep (by decide), W⟩
  · obtain ⟨z, r', g', E, W⟩ := vs1_0_6 (m := m) (w := w) hr2 (g := g) hr0 hj hk hc h20 x
    exact ⟨z, r', g', E.deep (by decide), W⟩
set_option maxHeartbeats 4000000 in
set_option maxRecDepth 100000 in
theorem vs1_1_0 {m w : mz_M} (hr2 : sm_HR w (m 66)) {r g : Nat → Int32} (hr0 : vx_0 19 21 r) {j c : Nat} (hj : j < 6) (hk : w 3 j = nI c) (hc : c ≤ 6) (h20 : r 20 = nI j) (x : Int32) : ∃ z r' g', mz_Me 23 mz_r214 [.ref 65, .int 0, .int x] (mz_set (mz_set m 65 r) 74 g) (some (.int z)) (mz_set (mz_set m 65 r') 74 g') ∧ vx_k 19 21 r r' := by
  obtain ⟨re1, ge1, Ee1, We1⟩ := vs1_beg (m := m) (r := r) (g := g) ((vx_id hr0).1) 11
  have Xe1 : vx_k 19 21 r re1 := vx_tr (vx_id hr0) We1
  obtain ⟨ve2, re2, ge2, Ee2, We2⟩ := vs1_0_any (m := m) (w := w) hr2 (r := re1) (g := ge1) (Xe1.1) hj hk hc ((Xe1.2 20 (by decide) (by decide)).trans h20) (f := c) hc x
  have Xe2 : vx_k 19 21 r re2 := vx_tr Xe1 We2
  refine ⟨ve2 * 2, re2, ge2, ⟨?_, rfl⟩, Xe2⟩
  refine mz_go 4 (c' := (47, [some (.ref 65), some (.int 0), some (.int x)], [.int 11, .ref 65], mz_set (mz_set m 65 r) 74 g)) rfl ?_
  refine mz_doQ (R := mz_r209) (as := [.ref 65, .int 11]) (rest := []) (r1 := none) (m1 := mz_set (mz_set m 65 re1) 74 ge1) mz_t209 mz_v209_65 rfl rfl rfl rfl rfl (Ee1.deep (by decide)) ?_
  refine mz_go 2 (c' := (52, [some (.ref 65), some (.int 0), some (.int x)], [.ref 65, .ref 65], mz_set (mz_set m 65 re1) 74 ge1)) rfl ?_
  refine mz_doQ (R := mz_r211) (as := [.ref 65]) (rest := [.ref 65]) (r1 := some (.int (nI c))) (m1 := mz_set (mz_set m 65 re1) 74 ge1) mz_t211 mz_v211_65 rfl rfl rfl rfl rfl ((kn_0 (m := mz_set (mz_set m 65 re1) 74 ge1) (w := w) hr2 hj hk ((Xe1.2 20 (by decide) (by decide)).trans h20)).deep (by decide)) ?_
  refine mz_go 1 (c' := (56, [some (.ref 65), some (.int 0), some (.int x)], [.int x, .int (nI c), .ref 65], mz_set (mz_set m 65 re1) 74 ge1)) rfl ?_
  refine mz_doQ (R := mz_r213) (as := [.ref 65, .int (nI c), .int x]) (rest := []) (r1 := some (.int ve2)) (m1 := mz_set (mz_set m 65 re2) 74 ge2) mz_t213 mz_v213_65 rfl rfl rfl rfl rfl (Ee2.deep (by decide)) ?_
  refine mz_go 2 (c' := (61, [some (.ref 65), some (.int 0), some (.int x)], [.int (ve2 * 2)], mz_set (mz_set m 65 re2) 74 ge2)) rfl ?_
  exact mz_ret rfl
set_option maxHeartbeats 4000000 in
set_option maxRecDepth 100000 in
theorem vs1_1_1 {m w : mz_M} (hr2 : sm_HR w (m 66)) {r g : Nat → Int32} (hr0 : vx_0 19 21 r) {j c : Nat} (hj : j < 6) (hk : w 3 j = nI c) (hc : c ≤ 6) (h20 : r 20 = nI j) (x : Int32) : ∃ z r' g', mz_Me 26 mz_r214 [.ref 65, .int 1, .int x] (mz_set (mz_set m 65 r) 74 g) (some (.int z)) (mz_set (mz_set m 65 r') 74 g') ∧ vx_k 19 21 r r' := by
  obtain ⟨ve1, re1, ge1, Ee1, We1⟩ := vs1_1_0 (m := m) (w := w) hr2 (r := r) (g := g) ((vx_id hr0).1) hj hk hc (((vx_id hr0).2 20 (by decide) (by decide)).trans h20)  x
  have Xe1 : vx_k 19 21 r re1 := vx_tr (vx_id hr0) We1
  refine ⟨ve1, re1, ge1, ⟨?_, rfl⟩, Xe1⟩
  refine mz_go 4 (c' := (122, [some (.ref 65), some (.int 1), some (.int x)], [.int 1, .ref 65], mz_set (mz_set m 65 r) 74 g)) rfl ?_
  refine mz_doQ (R := mz_r210) (as := [.int 1]) (rest := [.ref 65]) (r1 := some (.int 0)) (m1 := mz_set (mz_set m 65 r) 74 g) mz_t210 mz_v210 rfl rfl rfl rfl rfl ⟨?_, rfl⟩ ?_
  · refine mz_go 10 (c' := (29, [some (.int 1)], [.int 0], mz_set (mz_set m 65 r) 74 g)) rfl ?_
    exact mz_ret rfl
  refine mz_go 1 (c' := (126, [some (.ref 65), some (.int 1), some (.int x)], [.int x, .int 0, .ref 65], mz_set (mz_set m 65 r) 74 g)) rfl ?_
  refine mz_doQ (R := mz_r214) (as := [.ref 65, .int 0, .int x]) (rest := []) (r1 := some (.int ve1)) (m1 := mz_set (mz_set m 65 re1) 74 ge1) mz_t214 mz_v214_65 rfl rfl rfl rfl rfl (Ee1.deep (by decide)) ?_
  exact mz_ret rfl
set_option maxHeartbeats 4000000 in
set_option maxRecDepth 100000 in
theorem vs1_1_2 {m w : mz_M} (hr2 : sm_HR w (m 66)) {r g : Nat → Int32} (hr0 : vx_0 19 21 r) {j c : Nat} (hj : j < 6) (hk : w 3 j = nI c) (hc : c ≤ 6) (h20 : r 20 = nI j) (x : Int32) : ∃ z r' g', mz_Me 26 mz_r214 [.ref 65, .int 2, .int x] (mz_set (mz_set m 65 r) 74 g) (some (.int z)) (mz_set (mz_set m 65 r') 74 g') ∧ vx_k 19 21 r r' := by
  obtain ⟨re1, ge1, Ee1, We1⟩ := vs1_beg (m := m) (r := r) (g := g) ((vx_id hr0).1) 30
  have Xe1 : vx_k 19 21 r re1 := vx_tr (vx_id hr0) We1
  obtain ⟨ve2, re2, ge2, Ee2, We2⟩ := vs1_1_0 (m := m) (w := w) hr2 (r := re1) (g := ge1) (Xe1.1) hj hk hc ((Xe1.2 20 (by decide) (by decide)).trans h20)  x
  have Xe2 : vx_k 19 21 r re2 := vx_tr Xe1 We2
  refine ⟨0 - ve2, re2, ge2, ⟨?_, rfl⟩, Xe2⟩
  refine mz_go 4 (c' := (65, [some (.ref 65), some (.int 2), some (.int x)], [.int 30, .ref 65], mz_set (mz_set m 65 r) 74 g)) rfl ?_
  refine mz_doQ (R := mz_r209) (as := [.ref 65, .int 30]) (rest := []) (r1 := none) (m1 := mz_set (mz_set m 65 re1) 74 ge1) mz_t209 mz_v209_65 rfl rfl rfl rfl rfl (Ee1.deep (by decide)) ?_
  refine mz_go 3 (c' := (71, [some (.ref 65), some (.int 2), some (.int x)], [.int 2, .ref 65, .int 0], mz_set (mz_set m 65 re1) 74 ge1)) rfl ?_
  refine mz_doQ (R := mz_r210) (as := [.int 2]) (rest := [.ref 65, .int 0]) (r1 := some (.int 0)) (m1 := mz_set (mz_set m 65 re1) 74 ge1) mz_t210 mz_v210 rfl rfl rfl rfl rfl ⟨?_, rfl⟩ ?_
  · refine mz_go 10 (c' := (29, [some (.int 2)], [.int 0], mz_set (mz_set m 65 re1) 74 ge1)) rfl ?_
    exact mz_ret rfl
  refine mz_go 1 (c' := (75, [some (.ref 65), some (.int 2), some (.int x)], [.int x, .int 0, .ref 65, .int 0], mz_set (mz_set m 65 re1) 74 ge1)) rfl ?_
  refine mz_doQ (R := mz_r214) (as := [.ref 65, .int 0, .int x]) (rest := [.int 0]) (r1 := some (.int ve2)) (m1 := mz_set (mz_set m 65 re2) 74 ge2) mz_t214 mz_v214_65 rfl rfl rfl rfl rfl (Ee2.deep (by decide)) ?_
  refine mz_go 1 (c' := (79, [some (.ref 65), some (.int 2), some (.int x)], [.int (0 - ve2)], mz_set (mz_set m 65 re2) 74 ge2)) rfl ?_
  exact mz_ret rfl
set_option maxHeartbeats 4000000 in
set_option maxRecDepth 100000 in
theorem vs1_1_3 {m w : mz_M} (hr2 : sm_HR w (m 66)) {r g : Nat → Int32} (hr0 : vx_0 19 21 r) {j c : Nat} (hj : j < 6) (hk : w 3 j = nI c) (hc : c ≤ 6) (h20 : r 20 = nI j) (x : Int32) : ∃ z r' g', mz_Me 26 mz_r214 [.ref 65, .int 3, .int x] (mz_set (mz_set m 65 r) 74 g) (some (.int z)) (mz_set (mz_set m 65 r') 74 g') ∧ vx_k 19 21 r r' := by
  obtain ⟨ve1, re1, ge1, Ee1, We1⟩ := vs1_1_0 (m := m) (w := w) hr2 (r := r) (g := g) ((vx_id hr0).1) hj hk hc (((vx_id hr0).2 20 (by decide) (by decide)).trans h20)  x
  have Xe1 : vx_k 19 21 r re1 := vx_tr (vx_id hr0) We1
  refine ⟨ve1, re1, ge1, ⟨?_, rfl⟩, Xe1⟩
  refine mz_go 4 (c' := (122, [some (.ref 65), some (.int 3), some (.int x)], [.int 3, .ref 65], mz_set (mz_set m 65 r) 74 g)) rfl ?_
  refine mz_doQ (R := mz_r210) (as := [.int 3]) (rest := [.ref 65]) (r1 := some (.int 0)) (m1 := mz_set (mz_set m 65 r) 74 g) mz_t210 mz_v210 rfl rfl rfl rfl rfl ⟨?_, rfl⟩ ?_
  · refine mz_go 10 (c' := (29, [some (.int 3)], [.int 0], mz_set (mz_set m 65 r) 74 g)) rfl ?_
    exact mz_ret rfl
  refine mz_go 1 (c' := (126, [some (.ref 65), some (.int 3), some (.int x)], [.int x, .int 0, .ref 65], mz_set (mz_set m 65 r) 74 g)) rfl ?_
  refine mz_doQ (R := mz_r214) (as := [.ref 65, .int 0, .int x]) (rest := []) (r1 := some (.int ve1)) (m1 := mz_set (mz_set m 65 re1) 74 ge1) mz_t214 mz_v214_65 rfl rfl rfl rfl rfl (Ee1.deep (by decide)) ?_
  exact mz_ret rfl
set_option maxHeartbeats 4000000 in
set_option maxRecDepth 100000 in
theorem vs1_1_4 {m w : mz_M} (hr2 : sm_HR w (m 66)) {r g : Nat → Int32} (hr0 : vx_0 19 21 r) {j c : Nat} (hj : j < 6) (hk : w 3 j = nI c) (hc : c ≤ 6) (h20 : r 20 = nI j) (x : Int32) : ∃ z r' g', mz_Me 29 mz_r214 [.ref 65, .int 4, .int x] (mz_set (mz_set m 65 r) 74 g) (some (.int z)) (mz_set (mz_set m 65 r') 74 g') ∧ vx_k 19 21 r r' := by
  obtain ⟨ve1, re1, ge1, Ee1, We1⟩ := vs1_1_1 (m := m) (w := w) hr2 (r := r) (g := g) ((vx_id hr0).1) hj hk hc (((vx_id hr0).2 20 (by decide) (by decide)).trans h20)  x
  have Xe1 : vx_k 19 21 r re1 := vx_tr (vx_id hr0) We1
  refine ⟨ve1, re1, ge1, ⟨?_, rfl⟩, Xe1⟩
  refine mz_go 4 (c' := (122, [some (.ref 65), some (.int 4), some (.int x)], [.int 4, .ref 65], mz_set (mz_set m 65 r) 74 g)) rfl ?_
  refine mz_doQ (R := mz_r210) (as := [.int 4]) (rest := [.ref 65]) (r1 := some (.int 1)) (m1 := mz_set (mz_set m 65 r) 74 g) mz_t210 mz_v210 rfl rfl rfl rfl rfl ⟨?_, rfl⟩ ?_
  · refine mz_go 5 (c' := (29, [some (.int 4)], [.int 1], mz_set (mz_set m 65 r) 74 g)) rfl ?_
    exact mz_ret rfl
  refine mz_go 1 (c' := (126, [some (.ref 65), some (.int 4), some (.int x)], [.int x, .int 1, .ref 65], mz_set (mz_set m 65 r) 74 g)) rfl ?_
  refine mz_doQ (R := mz_r214) (as := [.ref 65, .int 1, .int x]) (rest := []) (r1 := some (.int ve1)) (m1 := mz_set (mz_set m 65 re1) 74 ge1) mz_t214 mz_v214_65 rfl rfl rfl rfl rfl (Ee1.deep (by decide)) ?_
  exact mz_ret rfl
set_option maxHeartbeats 4000000 in
set_option maxRecDepth 100000 in
theorem vs1_1_5 {m w : mz_M} (hr2 : sm_HR w (m 66)) {r g : Nat → Int32} (hr0 : vx_0 19 21 r) {j c : Nat} (hj : j < 6) (hk : w 3 j = nI c) (hc : c ≤ 6) (h20 : r 20 = nI j) (x : Int32) : ∃ z r' g', mz_Me 29 mz_r214 [.ref 65, .int 5, .int x] (mz_set (mz_set m 65 r) 74 g) (some (.int z)) (mz_set (mz_set m 65 r') 74 g') ∧ vx_k 19 21 r r' := by
  obtain ⟨re1, ge1, Ee1, We1⟩ := vs1_beg (m := m) (r := r) (g := g) ((vx_id hr0).1) 61
  have Xe1 : vx_k 19 21 r re1 := vx_tr (vx_id hr0) We1
  obtain ⟨ve2, re2, ge2, Ee2, We2⟩ := vs1_1_3 (m := m) (w := w) hr2 (r := re1) (g := ge1) (Xe1.1) hj hk hc ((Xe1.2 20 (by decide) (by decide)).trans h20)  x
  have Xe2 : vx_k 19 21 r re2 := vx_tr Xe1 We2
  refine ⟨ve2 + (nI j), re2, ge2, ⟨?_, rfl⟩, Xe2⟩
  refine mz_go 4 (c' := (83, [some (.ref 65), some (.int 5), some (.int x)], [.int 61, .ref 65], mz_set (mz_set m 65 r) 74 g)) rfl ?_
  refine mz_doQ (R := mz_r209) (as := [.ref 65, .int 61]) (rest := []) (r1 := none) (m1 := mz_set (mz_set m 65 re1) 74 ge1) mz_t209 mz_v209_65 rfl rfl rfl rfl rfl (Ee1.deep (by decide)) ?_
  refine mz_go 2 (c' := (88, [some (.ref 65), some (.int 5), some (.int x)], [.int 5, .ref 65], mz_set (mz_set m 65 re1) 74 ge1)) rfl ?_
  refine mz_doQ (R := mz_r210) (as := [.int 5]) (rest := [.ref 65]) (r1 := some (.int 3)) (m1 := mz_set (mz_set m 65 re1) 74 ge1) mz_t210 mz_v210 rfl rfl rfl rfl rfl ⟨?_, rfl⟩ ?_
  · refine mz_go 8 (c' := (29, [some (.int 5)], [.int 3], mz_set (mz_set m 65 re1) 74 ge1)) rfl ?_
    exact mz_ret rfl
  refine mz_go 1 (c' := (92, [some (.ref 65), some (.int 5), some (.int x)], [.int x, .int 3, .ref 65], mz_set (mz_set m 65 re1) 74 ge1)) rfl ?_
  refine mz_doQ (R := mz_r214) (as := [.ref 65, .int 3, .int x]) (rest := []) (r1 := some (.int ve2)) (m1 := mz_set (mz_set m 65 re2) 74 ge2) mz_t214 mz_v214_65 rfl rfl rfl rfl rfl (Ee2.deep (by decide)) ?_
  refine mz_go 2 (c' := (99, [some (.ref 65), some (.int 5), some (.int x)], [.int (re2 20), .int ve2], mz_set (mz_set m 65 re2) 74 ge2)) rfl ?_
  rw [show re2 20 = r 20 from Xe2.2 20 (by decide) (by decide)]
  rw [h20]
  refine mz_go 1 (c' := (100, [some (.ref 65), some (.int 5), some (.int x)], [.int (ve2 + (nI j))], mz_set (mz_set m 65 re2) 74 ge2)) rfl ?_
  exact mz_ret rfl
set_option maxHeartbeats 4000000 in
set_option maxRecDepth 100000 in
theorem vs1_1_6 {m w : mz_M} (hr2 : sm_HR w (m 66)) {r g : Nat → Int32} (hr0 : vx_0 19 21 r) {j c : Nat} (hj : j < 6) (hk : w 3 j = nI c) (hc : c ≤ 6) (h20 : r 20 = nI j) (x : Int32) : ∃ z r' g', mz_Me 29 mz_r214 [.ref 65, .int 6, .int x] (mz_set (mz_set m 65 r) 74 g) (some (.int z)) (mz_set (mz_set m 65 r') 74 g') ∧ vx_k 19 21 r r' := by
  obtain ⟨re1, ge1, Ee1, We1⟩ := vs1_beg (m := m) (r := r) (g := g) ((vx_id hr0).1) 70
  have Xe1 : vx_k 19 21 r re1 := vx_tr (vx_id hr0) We1
  obtain ⟨ve2, re2, ge2, Ee2, We2⟩ := vs1_1_2 (m := m) (w := w) hr2 (r := re1) (g := ge1) (Xe1.1) hj hk hc ((Xe1.2 20 (by decide) (by decide)).trans h20)  x
  have Xe2 : vx_k 19 21 r re2 := vx_tr Xe1 We2
  refine ⟨ve2 * 2, re2, ge2, ⟨?_, rfl⟩, Xe2⟩
  refine mz_go 4 (c' := (104, [some (.ref 65), some (.int 6), some (.int x)], [.int 70, .ref 65], mz_set (mz_set m 65 r) 74 g)) rfl ?_
  refine mz_doQ (R := mz_r209) (as := [.ref 65, .int 70]) (rest := []) (r1 := none) (m1 := mz_set (mz_set m 65 re1) 74 ge1) mz_t209 mz_v209_65 rfl rfl rfl rfl rfl (Ee1.deep (by decide)) ?_
  refine mz_go 2 (c' := (110, [some (.ref 65), some (.int 6), some (.int x)], [.int 6, .ref 65], mz_set (mz_set m 65 re1) 74 ge1)) rfl ?_
  refine mz_doQ (R := mz_r210) (as := [.int 6]) (rest := [.ref 65]) (r1 := some (.int 2)) (m1 := mz_set (mz_set m 65 re1) 74 ge1) mz_t210 mz_v210 rfl rfl rfl rfl rfl ⟨?_, rfl⟩ ?_
  · refine mz_go 11 (c' := (29, [some (.int 6)], [.int 2], mz_set (mz_set m 65 re1) 74 ge1)) rfl ?_
    exact mz_ret rfl
  refine mz_go 1 (c' := (114, [some (.ref 65), some (.int 6), some (.int x)], [.int x, .int 2, .ref 65], mz_set (mz_set m 65 re1) 74 ge1)) rfl ?_
  refine mz_doQ (R := mz_r214) (as := [.ref 65, .int 2, .int x]) (rest := []) (r1 := some (.int ve2)) (m1 := mz_set (mz_set m 65 re2) 74 ge2) mz_t214 mz_v214_65 rfl rfl rfl rfl rfl (Ee2.deep (by decide)) ?_
  refine mz_go 2 (c' := (119, [some (.ref 65), some (.int 6), some (.int x)], [.int (ve2 * 2)], mz_set (mz_set m 65 re2) 74 ge2)) rfl ?_
  exact mz_ret rfl
set_option maxHeartbeats 4000000 in
set_option maxRecDepth 100000 in
theorem vs1_1_any {m w : mz_M} (hr2 : sm_HR w (m 66)) {r g : Nat → Int32} (hr0 : vx_0 19 21 r) {j c : Nat} (hj : j < 6) (hk : w 3 j = nI c) (hc : c ≤ 6) (h20 : r 20 = nI j) {f : Nat} (hf : f ≤ 6) (x : Int32) : ∃ z r' g', mz_Me 36 mz_r214 [.ref 65, .int (nI f), .int x] (mz_set (mz_set m 65 r) 74 g) (some (.int z)) (mz_set (mz_set m 65 r') 74 g') ∧ vx_k 19 21 r r' := by
  rcases (show f = 0 ∨ f = 1 ∨ f = 2 ∨ f = 3 ∨ f = 4 ∨ f = 5 ∨ f = 6 by omega) with rfl | rfl | rfl | rfl | rfl | rfl | rfl
  · obtain ⟨z, r', g', E, W⟩ := vs1_1_0 (m := m) (w := w) hr2 (g := g) hr0 hj hk hc h20 x
    exact ⟨z, r', g', E.deep (by decide), W⟩
  · obtain ⟨z, r', g', E, W⟩ := vs1_1_1 (m := m) (w := w) hr2 (g := g) hr0 hj hk hc h20 x
    exact ⟨z, r', g', E.deep (by decide), W⟩
  · obtain ⟨z, r', g', E, W⟩ := vs1_1_2 (m := m) (w := w) hr2 (g := g) hr0 hj hk hc h20 x
    exact ⟨z, r', g', E.deep (by decide), W⟩
  · obtain ⟨z, r', g', E, W⟩ := vs1_1_3 (m := m) (w := w) hr2 (g := g) hr0 hj hk hc h20 x
    exact ⟨z, r', g', E.deep (by decide), W⟩
  · obtain ⟨z, r', g', E, W⟩ := vs1_1_4 (m := m) (w := w) hr2 (g := g) hr0 hj hk hc h20 x
    exact ⟨z, r', g', E.deep (by decide), W⟩
  · obtain ⟨z, r', g', E, W⟩ := vs1_1_5 (m := m) (w := w) hr2 (g := g) hr0 hj hk hc h20 x
    exact ⟨z, r', g', E.deep (by decide), W⟩
  · obtain ⟨z, r', g', E, W⟩ := vs1_1_6 (m := m) (w := w) hr2 (g := g) hr0 hj hk hc h20 x
    exact ⟨z, r', g', E.deep (by decide), W⟩
set_option maxHeartbeats 4000000 in
set_option maxRecDepth 100000 in
theorem vs1_2_0 {m w : mz_M} (hr2 : sm_HR w (m 66)) {r g : Nat → Int32} (hr0 : vx_0 19 21 r) {j c : Nat} (hj : j < 6) (hk : w 3 j = nI c) (hc : c ≤ 6) (h20 : r 20 = nI j) (x : Int32) : ∃ z r' g', mz_Me 39 mz_r215 [.ref 65, .int 0, .int x] (mz_set (mz_set m 65 r) 74 g) (some (.int z)) (mz_set (mz_set m 65 r') 74 g') ∧ vx_k 19 21 r r' := by
  obtain ⟨re1, ge1, Ee1, We1⟩ := vs1_beg (m := m) (r := r) (g := g) ((vx_id hr0).1) 12
  have Xe1 : vx_k 19 21 r re1 := vx_tr (vx_id hr0) We1
  obtain ⟨ve2, re2, ge2, Ee2, We2⟩ := vs1_1_any (m := m) (w := w) hr2 (r := re1) (g := ge1) (Xe1.1) hj hk hc ((Xe1.2 20 (by decide) (by decide)).trans h20) (f := c) hc x
  have Xe2 : vx_k 19 21 r re2 := vx_tr Xe1 We2
  refine ⟨ve2 - (nI j), re2, ge2, ⟨?_, rfl⟩, Xe2⟩
  refine mz_go 4 (c' := (43, [some (.ref 65), some (.int 0), some (.int x)], [.int 12, .ref 65], mz_set (mz_set m 65 r) 74 g)) rfl ?_
  refine mz_doQ (R := mz_r209) (as := [.ref 65, .int 12]) (rest := []) (r1 := none) (m1 := mz_set (mz_set m 65 re1) 74 ge1) mz_t209 mz_v209_65 rfl rfl rfl rfl rfl (Ee1.deep (by decide)) ?_
  refine mz_go 2 (c' := (48, [some (.ref 65), some (.int 0), some (.int x)], [.ref 65, .ref 65], mz_set (mz_set m 65 re1) 74 ge1)) rfl ?_
  refine mz_doQ (R := mz_r211) (as := [.ref 65]) (rest := [.ref 65]) (r1 := some (.int (nI c))) (m1 := mz_set (mz_set m 65 re1) 74 ge1) mz_t211 mz_v211_65 rfl rfl rfl rfl rfl ((kn_0 (m := mz_set (mz_set m 65 re1) 74 ge1) (w := w) hr2 hj hk ((Xe1.2 20 (by decide) (by decide)).trans h20)).deep (by decide)) ?_
  refine mz_go 1 (c' := (52, [some (.ref 65), some (.int 0), some (.int x)], [.int x, .int (nI c), .ref 65], mz_set (mz_set m 65 re1) 74 ge1)) rfl ?_
  refine mz_doQ (R := mz_r214) (as := [.ref 65, .int (nI c), .int x]) (rest := []) (r1 := some (.int ve2)) (m1 := mz_set (mz_set m 65 re2) 74 ge2) mz_t214 mz_v214_65 rfl rfl rfl rfl rfl (Ee2.deep (by decide)) ?_
  refine mz_go 2 (c' := (59, [some (.ref 65), some (.int 0), some (.int x)], [.int (re2 20), .int ve2], mz_set (mz_set m 65 re2) 74 ge2)) rfl ?_
  rw [show re2 20 = r 20 from Xe2.2 20 (by decide) (by decide)]
  rw [h20]
  refine mz_go 1 (c' := (60, [some (.ref 65), some (.int 0), some (.int x)], [.int (ve2 - (nI j))], mz_set (mz_set m 65 re2) 74 ge2)) rfl ?_
  exact mz_ret rfl
set_option maxHeartbeats 4000000 in
set_option maxRecDepth 100000 in
theorem vs1_2_1 {m w : mz_M} (hr2 : sm_HR w (m 66)) {r g : Nat → Int32} (hr0 : vx_0 19 21 r) {j c : Nat} (hj : j < 6) (hk : w 3 j = nI c) (hc : c ≤ 6) (h20 : r 20 = nI j) (x : Int32) : ∃ z r' g', mz_Me 42 mz_r215 [.ref 65, .int 1, .int x] (mz_set (mz_set m 65 r) 74 g) (some (.int z)) (mz_set (mz_set m 65 r') 74 g') ∧ vx_k 19 21 r r' := by
  obtain ⟨re1, ge1, Ee1, We1⟩ := vs1_beg (m := m) (r := r) (g := g) ((vx_id hr0).1) 21
  have Xe1 : vx_k 19 21 r re1 := vx_tr (vx_id hr0) We1
  obtain ⟨ve2, re2, ge2, Ee2, We2⟩ := vs1_2_0 (m := m) (w := w) hr2 (r := re1) (g := ge1) (Xe1.1) hj hk hc ((Xe1.2 20 (by decide) (by decide)).trans h20)  x
  have Xe2 : vx_k 19 21 r re2 := vx_tr Xe1 We2
  refine ⟨ve2 ^^^ (w 6 j), re2, ge2, ⟨?_, rfl⟩, Xe2⟩
  refine mz_go 4 (c' := (64, [some (.ref 65), some (.int 1), some (.int x)], [.int 21, .ref 65], mz_set (mz_set m 65 r) 74 g)) rfl ?_
  refine mz_doQ (R := mz_r209) (as := [.ref 65, .int 21]) (rest := []) (r1 := none) (m1 := mz_set (mz_set m 65 re1) 74 ge1) mz_t209 mz_v209_65 rfl rfl rfl rfl rfl (Ee1.deep (by decide)) ?_
  refine mz_go 2 (c' := (69, [some (.ref 65), some (.int 1), some (.int x)], [.int 1, .ref 65], mz_set (mz_set m 65 re1) 74 ge1)) rfl ?_
  refine mz_doQ (R := mz_r210) (as := [.int 1]) (rest := [.ref 65]) (r1 := some (.int 0)) (m1 := mz_set (mz_set m 65 re1) 74 ge1) mz_t210 mz_v210 rfl rfl rfl rfl rfl ⟨?_, rfl⟩ ?_
  · refine mz_go 10 (c' := (29, [some (.int 1)], [.int 0], mz_set (mz_set m 65 re1) 74 ge1)) rfl ?_
    exact mz_ret rfl
  refine mz_go 1 (c' := (73, [some (.ref 65), some (.int 1), some (.int x)], [.int x, .int 0, .ref 65], mz_set (mz_set m 65 re1) 74 ge1)) rfl ?_
  refine mz_doQ (R := mz_r215) (as := [.ref 65, .int 0, .int x]) (rest := []) (r1 := some (.int ve2)) (m1 := mz_set (mz_set m 65 re2) 74 ge2) mz_t215 mz_v215_65 rfl rfl rfl rfl rfl (Ee2.deep (by decide)) ?_
  refine mz_go 1 (c' := (77, [some (.ref 65), some (.int 1), some (.int x)], [.ref 65, .int ve2], mz_set (mz_set m 65 re2) 74 ge2)) rfl ?_
  refine mz_doQ (R := mz_r212) (as := [.ref 65]) (rest := [.int ve2]) (r1 := some (.int (w 6 j))) (m1 := mz_set (mz_set m 65 re2) 74 ge2) mz_t212 mz_v212_65 rfl rfl rfl rfl rfl ((kn_3 (m := mz_set (mz_set m 65 re2) 74 ge2) (w := w) hr2 hj ((Xe2.2 20 (by decide) (by decide)).trans h20)).deep (by decide)) ?_
  refine mz_go 1 (c' := (81, [some (.ref 65), some (.int 1), some (.int x)], [.int (ve2 ^^^ (w 6 j))], mz_set (mz_set m 65 re2) 74 ge2)) rfl ?_
  exact mz_ret rfl
set_option maxHeartbeats 4000000 in
set_option maxRecDepth 100000 in
theorem vs1_2_2 {m w : mz_M} (hr2 : sm_HR w (m 66)) {r g : Nat → Int32} (hr0 : vx_0 19 21 r) {j c : Nat} (hj : j < 6) (hk : w 3 j = nI c) (hc : c ≤ 6) (h20 : r 20 = nI j) (x : Int32) : ∃ z r' g', mz_Me 42 mz_r215 [.ref 65, .int 2, .int x] (mz_set (mz_set m 65 r) 74 g) (some (.int z)) (mz_set (mz_set m 65 r') 74 g') ∧ vx_k 19 21 r r' := by
  obtain ⟨ve1, re1, ge1, Ee1, We1⟩ := vs1_2_0 (m := m) (w := w) hr2 (r := r) (g := g) ((vx_id hr0).1) hj hk hc (((vx_id hr0).2 20 (by decide) (by decide)).trans h20)  x
  have Xe1 : vx_k 19 21 r re1 := vx_tr (vx_id hr0) We1
  refine ⟨ve1, re1, ge1, ⟨?_, rfl⟩, Xe1⟩
  refine mz_go 4 (c' := (120, [some (.ref 65), some (.int 2), some (.int x)], [.int 2, .ref 65], mz_set (mz_set m 65 r) 74 g)) rfl ?_
  refine mz_doQ (R := mz_r210) (as := [.int 2]) (rest := [.ref 65]) (r1 := some (.int 0)) (m1 := mz_set (mz_set m 65 r) 74 g) mz_t210 mz_v210 rfl rfl rfl rfl rfl ⟨?_, rfl⟩ ?_
  · refine mz_go 10 (c' := (29, [some (.int 2)], [.int 0], mz_set (mz_set m 65 r) 74 g)) rfl ?_
    exact mz_ret rfl
  refine mz_go 1 (c' := (124, [some (.ref 65), some (.int 2), some (.int x)], [.int x, .int 0, .ref 65], mz_set (mz_set m 65 r) 74 g)) rfl ?_
  refine mz_doQ (R := mz_r215) (as := [.ref 65, .int 0, .int x]) (rest := []) (r1 := some (.int ve1)) (m1 := mz_set (mz_set m 65 re1) 74 ge1) mz_t215 mz_v215_65 rfl rfl rfl rfl rfl (Ee1.deep (by decide)) ?_
  exact mz_ret rfl
set_option maxHeartbeats 4000000 in
set_option maxRecDepth 100000 in
theorem vs1_2_3 {m w : mz_M} (hr2 : sm_HR w (m 66)) {r g : Nat → Int32} (hr0 : vx_0 19 21 r) {j c : Nat} (hj : j < 6) (hk : w 3 j = nI c) (hc : c ≤ 6) (h20 : r 20 = nI j) (x : Int32) : ∃ z r' g', mz_Me 42 mz_r215 [.ref 65, .int 3, .int x] (mz_set (mz_set m 65 r) 74 g) (some (.int z)) (mz_set (mz_set m 65 r') 74 g') ∧ vx_k 19 21 r r' := by
  obtain ⟨re1, ge1, Ee1, We1⟩ := vs1_beg (m := m) (r := r) (g := g) ((vx_id hr0).1) 40
  have Xe1 : vx_k 19 21 r re1 := vx_tr (vx_id hr0) We1
  obtain ⟨ve2, re2, ge2, Ee2, We2⟩ := vs1_2_0 (m := m) (w := w) hr2 (r := re1) (g := ge1) (Xe1.1) hj hk hc ((Xe1.2 20 (by decide) (by decide)).trans h20)  (x + 2)
  have Xe2 : vx_k 19 21 r re2 := vx_tr Xe1 We2
  refine ⟨ve2, re2, ge2, ⟨?_, rfl⟩, Xe2⟩
  refine mz_go 4 (c' := (85, [some (.ref 65), some (.int 3), some (.int x)], [.int 40, .ref 65], mz_set (mz_set m 65 r) 74 g)) rfl ?_
  refine mz_doQ (R := mz_r209) (as := [.ref 65, .int 40]) (rest := []) (r1 := none) (m1 := mz_set (mz_set m 65 re1) 74 ge1) mz_t209 mz_v209_65 rfl rfl rfl rfl rfl (Ee1.deep (by decide)) ?_
  refine mz_go 2 (c' := (90, [some (.ref 65), some (.int 3), some (.int x)], [.int 3, .ref 65], mz_set (mz_set m 65 re1) 74 ge1)) rfl ?_
  refine mz_doQ (R := mz_r210) (as := [.int 3]) (rest := [.ref 65]) (r1 := some (.int 0)) (m1 := mz_set (mz_set m 65 re1) 74 ge1) mz_t210 mz_v210 rfl rfl rfl rfl rfl ⟨?_, rfl⟩ ?_
  · refine mz_go 10 (c' := (29, [some (.int 3)], [.int 0], mz_set (mz_set m 65 re1) 74 ge1)) rfl ?_
    exact mz_ret rfl
  refine mz_go 3 (c' := (96, [some (.ref 65), some (.int 3), some (.int x)], [.int (x + 2), .int 0, .ref 65], mz_set (mz_set m 65 re1) 74 ge1)) rfl ?_
  refine mz_doQ (R := mz_r215) (as := [.ref 65, .int 0, .int (x + 2)]) (rest := []) (r1 := some (.int ve2)) (m1 := mz_set (mz_set m 65 re2) 74 ge2) mz_t215 mz_v215_65 rfl rfl rfl rfl rfl (Ee2.deep (by decide)) ?_
  exact mz_ret rfl
set_option maxHeartbeats 4000000 in
set_option maxRecDepth 100000 in
theorem vs1_2_4 {m w : mz_M} (hr2 : sm_HR w (m 66)) {r g : Nat → Int32} (hr0 : vx_0 19 21 r) {j c : Nat} (hj : j < 6) (hk : w 3 j = nI c) (hc : c ≤ 6) (h20 : r 20 = nI j) (x : Int32) : ∃ z r' g', mz_Me 45 mz_r215 [.ref 65, .int 4, .int x] (mz_set (mz_set m 65 r) 74 g) (some (.int z)) (mz_set (mz_set m 65 r') 74 g') ∧ vx_k 19 21 r r' := by
  obtain ⟨ve1, re1, ge1, Ee1, We1⟩ := vs1_2_1 (m := m) (w := w) hr2 (r := r) (g := g) ((vx_id hr0).1) hj hk hc (((vx_id hr0).2 20 (by decide) (by decide)).trans h20)  x
  have Xe1 : vx_k 19 21 r re1 := vx_tr (vx_id hr0) We1
  refine ⟨ve1, re1, ge1, ⟨?_, rfl⟩, Xe1⟩
  refine mz_go 4 (c' := (120, [some (.ref 65), some (.int 4), some (.int x)], [.int 4, .ref 65], mz_set (mz_set m 65 r) 74 g)) rfl ?_
  refine mz_doQ (R := mz_r210) (as := [.int 4]) (rest := [.ref 65]) (r1 := some (.int 1)) (m1 := mz_set (mz_set m 65 r) 74 g) mz_t210 mz_v210 rfl rfl rfl rfl rfl ⟨?_, rfl⟩ ?_
  · refine mz_go 5 (c' := (29, [some (.int 4)], [.int 1], mz_set (mz_set m 65 r) 74 g)) rfl ?_
    exact mz_ret rfl
  refine mz_go 1 (c' := (124, [some (.ref 65), some (.int 4), some (.int x)], [.int x, .int 1, .ref 65], mz_set (mz_set m 65 r) 74 g)) rfl ?_
  refine mz_doQ (R := mz_r215) (as := [.ref 65, .int 1, .int x]) (rest := []) (r1 := some (.int ve1)) (m1 := mz_set (mz_set m 65 re1) 74 ge1) mz_t215 mz_v215_65 rfl rfl rfl rfl rfl (Ee1.deep (by decide)) ?_
  exact mz_ret rfl
set_option maxHeartbeats 4000000 in
set_option maxRecDepth 100000 in
theorem vs1_2_5 {m w : mz_M} (hr2 : sm_HR w (m 66)) {r g : Nat → Int32} (hr0 : vx_0 19 21 r) {j c : Nat} (hj : j < 6) (hk : w 3 j = nI c) (hc : c ≤ 6) (h20 : r 20 = nI j) (x : Int32) : ∃ z r' g', mz_Me 45 mz_r215 [.ref 65, .int 5, .int x] (mz_set (mz_set m 65 r) 74 g) (some (.int z)) (mz_set (mz_set m 65 r') 74 g') ∧ vx_k 19 21 r r' := by
  obtain ⟨re1, ge1, Ee1, We1⟩ := vs1_beg (m := m) (r := r) (g := g) ((vx_id hr0).1) 60
  have Xe1 : vx_k 19 21 r re1 := vx_tr (vx_id hr0) We1
  obtain ⟨ve2, re2, ge2, Ee2, We2⟩ := vs1_2_3 (m := m) (w := w) hr2 (r := re1) (g := ge1) (Xe1.1) hj hk hc ((Xe1.2 20 (by decide) (by decide)).trans h20)  x
  have Xe2 : vx_k 19 21 r re2 := vx_tr Xe1 We2
  refine ⟨ve2 * 3, re2, ge2, ⟨?_, rfl⟩, Xe2⟩
  refine mz_go 4 (c' := (103, [some (.ref 65), some (.int 5), some (.int x)], [.int 60, .ref 65], mz_set (mz_set m 65 r) 74 g)) rfl ?_
  refine mz_doQ (R := mz_r209) (as := [.ref 65, .int 60]) (rest := []) (r1 := none) (m1 := mz_set (mz_set m 65 re1) 74 ge1) mz_t209 mz_v209_65 rfl rfl rfl rfl rfl (Ee1.deep (by decide)) ?_
  refine mz_go 2 (c' := (108, [some (.ref 65), some (.int 5), some (.int x)], [.int 5, .ref 65], mz_set (mz_set m 65 re1) 74 ge1)) rfl ?_
  refine mz_doQ (R := mz_r210) (as := [.int 5]) (rest := [.ref 65]) (r1 := some (.int 3)) (m1 := mz_set (mz_set m 65 re1) 74 ge1) mz_t210 mz_v210 rfl rfl rfl rfl rfl ⟨?_, rfl⟩ ?_
  · refine mz_go 8 (c' := (29, [some (.int 5)], [.int 3], mz_set (mz_set m 65 re1) 74 ge1)) rfl ?_
    exact mz_ret rfl
  refine mz_go 1 (c' := (112, [some (.ref 65), some (.int 5), some (.int x)], [.int x, .int 3, .ref 65], mz_set (mz_set m 65 re1) 74 ge1)) rfl ?_
  refine mz_doQ (R := mz_r215) (as := [.ref 65, .int 3, .int x]) (rest := []) (r1 := some (.int ve2)) (m1 := mz_set (mz_set m 65 re2) 74 ge2) mz_t215 mz_v215_65 rfl rfl rfl rfl rfl (Ee2.deep (by decide)) ?_
  refine mz_go 2 (c' := (117, [some (.ref 65), some (.int 5), some (.int x)], [.int (ve2 * 3)], mz_set (mz_set m 65 re2) 74 ge2)) rfl ?_
  exact mz_ret rfl
set_option maxHeartbeats 4000000 in
set_option maxRecDepth 100000 in
theorem vs1_2_6 {m w : mz_M} (hr2 : sm_HR w (m 66)) {r g : Nat → Int32} (hr0 : vx_0 19 21 r) {j c : Nat} (hj : j < 6) (hk : w 3 j = nI c) (hc : c ≤ 6) (h20 : r 20 = nI j) (x : Int32) : ∃ z r' g', mz_Me 45 mz_r215 [.ref 65, .int 6, .int x] (mz_set (mz_set m 65 r) 74 g) (some (.int z)) (mz_set (mz_set m 65 r') 74 g') ∧ vx_k 19 21 r r' := by
  obtain ⟨ve1, re1, ge1, Ee1, We1⟩ := vs1_2_2 (m := m) (w := w) hr2 (r := r) (g := g) ((vx_id hr0).1) hj hk hc (((vx_id hr0).2 20 (by decide) (by decide)).trans h20)  x
  have Xe1 : vx_k 19 21 r re1 := vx_tr (vx_id hr0) We1
  refine ⟨ve1, re1, ge1, ⟨?_, rfl⟩, Xe1⟩
  refine mz_go 4 (c' := (120, [some (.ref 65), some (.int 6), some (.int x)], [.int 6, .ref 65], mz_set (mz_set m 65 r) 74 g)) rfl ?_
  refine mz_doQ (R := mz_r210) (as := [.int 6]) (rest := [.ref 65]) (r1 := some (.int 2)) (m1 := mz_set (mz_set m 65 r) 74 g) mz_t210 mz_v210 rfl rfl rfl rfl rfl ⟨?_, rfl⟩ ?_
  · refine mz_go 11 (c' := (29, [some (.int 6)], [.int 2], mz_set (mz_set m 65 r) 74 g)) rfl ?_
    exact mz_ret rfl
  refine mz_go 1 (c' := (124, [some (.ref 65), some (.int 6), some (.int x)], [.int x, .int 2, .ref 65], mz_set (mz_set m 65 r) 74 g)) rfl ?_
  refine mz_doQ (R := mz_r215) (as := [.ref 65, .int 2, .int x]) (rest := []) (r1 := some (.int ve1)) (m1 := mz_set (mz_set m 65 re1) 74 ge1) mz_t215 mz_v215_65 rfl rfl rfl rfl rfl (Ee1.deep (by decide)) ?_
  exact mz_ret rfl
set_option maxHeartbeats 4000000 in
set_option maxRecDepth 100000 in
theorem vs1_2_any {m w : mz_M} (hr2 : sm_HR w (m 66)) {r g : Nat → Int32} (hr0 : vx_0 19 21 r) {j c : Nat} (hj : j < 6) (hk : w 3 j = nI c) (hc : c ≤ 6) (h20 : r 20 = nI j) {f : Nat} (hf : f ≤ 6) (x : Int32) : ∃ z r' g', mz_Me 52 mz_r215 [.ref 65, .int (nI f), .int x] (mz_set (mz_set m 65 r) 74 g) (some (.int z)) (mz_set (mz_set m 65 r') 74 g') ∧ vx_k 19 21 r r' := by
  rcases (show f = 0 ∨ f = 1 ∨ f = 2 ∨ f = 3 ∨ f = 4 ∨ f = 5 ∨ f = 6 by omega) with rfl | rfl | rfl | rfl | rfl | rfl | rfl
  · obtain ⟨z, r', g', E, W⟩ := vs1_2_0 (m := m) (w := w) hr2 (g := g) hr0 hj hk hc h20 x
    exact ⟨z, r', g', E.deep (by decide), W⟩
  · obtain ⟨z, r', g', E, W⟩ := vs1_2_1 (m := m) (w := w) hr2 (g := g) hr0 hj hk hc h20 x
    exact ⟨z, r', g', E.deep (by decide), W⟩
  · obtain ⟨z, r', g', E, W⟩ := vs1_2_2 (m := m) (w := w) hr2 (g := g) hr0 hj hk hc h20 x
    exact ⟨z, r', g', E.deep (by decide), W⟩
  · obtain ⟨z, r', g', E, W⟩ := vs1_2_3 (m := m) (w := w) hr2 (g := g) hr0 hj hk hc h20 x
    exact ⟨z, r', g', E.deep (by decide), W⟩
  · obtain ⟨z, r', g', E, W⟩ := vs1_2_4 (m := m) (w := w) hr2 (g := g) hr0 hj hk hc h20 x
    exact ⟨z, r', g', E.deep (by decide), W⟩
  · obtain ⟨z, r', g', E, W⟩ := vs1_2_5 (m := m) (w := w) hr2 (g := g) hr0 hj hk hc h20 x
    exact ⟨z, r', g', E.deep (by decide), W⟩
  · obtain ⟨z, r', g', E, W⟩ := vs1_2_6 (m := m) (w := w) hr2 (g := g) hr0 hj hk hc h20 x
    exact ⟨z, r', g', E.deep (by decide), W⟩
set_option maxHeartbeats 4000000 in
set_option maxRecDepth 100000 in
theorem vs1_3_0 {m w : mz_M} (hr2 : sm_HR w (m 66)) {r g : Nat → Int32} (hr0 : vx_0 19 21 r) {j c : Nat} (hj : j < 6) (hk : w 3 j = nI c) (hc : c ≤ 6) (h20 : r 20 = nI j) (x : Int32) : ∃ z r' g', mz_Me 55 mz_r216 [.ref 65, .int 0, .int x] (mz_set (mz_set m 65 r) 74 g) (some (.int z)) (mz_set (mz_set m 65 r') 74 g') ∧ vx_k 19 21 r r' := by
  obtain ⟨re1, ge1, Ee1, We1⟩ := vs1_beg (m := m) (r := r) (g := g) ((vx_id hr0).1) 13
  have Xe1 : vx_k 19 21 r re1 := vx_tr (vx_id hr0) We1
  by_cases q1 : ((w 6 j) - (nI j)) = 0
  · have V2 : vx_k 19 21 r (sm_upd re1 21 1) := vx_p (by decide) (Or.inr rfl) Xe1
    refine ⟨0, (sm_upd re1 21 1), ge1, ⟨?_, rfl⟩, V2⟩
    refine mz_go 6 (c' := (39, [some (.ref 65), some (.int 0), some (.int x), some (.int 0), none], [.int 13, .ref 65], mz_set (mz_set m 65 r) 74 g)) rfl ?_
    refine mz_doQ (R := mz_r209) (as := [.ref 65, .int 13]) (rest := []) (r1 := none) (m1 := mz_set (mz_set m 65 re1) 74 ge1) mz_t209 mz_v209_65 rfl rfl rfl rfl rfl (Ee1.deep (by decide)) ?_
    refine mz_go 1 (c' := (43, [some (.ref 65), some (.int 0), some (.int x), some (.int 0), none], [.ref 65], mz_set (mz_set m 65 re1) 74 ge1)) rfl ?_
    refine mz_doQ (R := mz_r212) (as := [.ref 65]) (rest := []) (r1 := some (.int (w 6 j))) (m1 := mz_set (mz_set m 65 re1) 74 ge1) mz_t212 mz_v212_65 rfl rfl rfl rfl rfl ((kn_3 (m := mz_set (mz_set m 65 re1) 74 ge1) (w := w) hr2 hj ((Xe1.2 20 (by decide) (by decide)).trans h20)).deep (by decide)) ?_
    refine mz_go 2 (c' := (50, [some (.ref 65), some (.int 0), some (.int x), some (.int 0), none], [.int (re1 20), .int (w 6 j)], mz_set (mz_set m 65 re1) 74 ge1)) rfl ?_
    rw [show re1 20 = r 20 from Xe1.2 20 (by decide) (by decide)]
    rw [h20]
    refine mz_go 5 (c' := (if ((w 6 j) - (nI j)) = 0 then 59 else 63, [some (.ref 65), some (.int 0), some (.int x), some (.int 0), some (.int ((w 6 j) - (nI j)))], [.ref 65], mz_set (mz_set m 65 re1) 74 ge1)) rfl ?_
    refine mz_ifT q1 ?_
    refine mz_go 3 (c' := (67, [some (.ref 65), some (.int 0), some (.int x), some (.int 0), some (.int ((w 6 j) - (nI j)))], [], mz_up (mz_set (mz_set m 65 re1) 74 ge1) 65 21 1)) rfl ?_
    rw [vx_up65]
    refine mz_go 2 (c' := (if ((w 6 j) - (nI j)) = 0 then 72 else 76, [some (.ref 65), some (.int 0), some (.int x), some (.int 0), some (.int ((w 6 j) - (nI j)))], [], mz_set (mz_set m 65 (sm_upd re1 21 1)) 74 ge1)) rfl ?_
    refine mz_ifT q1 ?_
    refine mz_go 2 (c' := (91, [some (.ref 65), some (.int 0), some (.int x), some (.int 0), some (.int ((w 6 j) - (nI j)))], [.int 0], mz_set (mz_set m 65 (sm_upd re1 21 1)) 74 ge1)) rfl ?_
    exact mz_ret rfl
  · have V2 : vx_k 19 21 r (sm_upd re1 21 0) := vx_p (by decide) (Or.inl rfl) Xe1
    by_cases q2 : ((w 6 j) - (nI j)) = (-1)
    · refine ⟨-x, (sm_upd re1 21 0), ge1, ⟨?_, rfl⟩, V2⟩
      refine mz_go 6 (c' := (39, [some (.ref 65), some (.int 0), some (.int x), some (.int 0), none], [.int 13, .ref 65], mz_set (mz_set m 65 r) 74 g)) rfl ?_
      refine mz_doQ (R := mz_r209) (as := [.ref 65, .int 13]) (rest := []) (r1 := none) (m1 := mz_set (mz_set m 65 re1) 74 ge1) mz_t209 mz_v209_65 rfl rfl rfl rfl rfl (Ee1.deep (by decide)) ?_
      refine mz_go 1 (c' := (43, [some (.ref 65), some (.int 0), some (.int x), some (.int 0), none], [.ref 65], mz_set (mz_set m 65 re1) 74 ge1)) rfl ?_
      refine mz_doQ (R := mz_r212) (as := [.ref 65]) (rest := []) (r1 := some (.int (w 6 j))) (m1 := mz_set (mz_set m 65 re1) 74 ge1) mz_t212 mz_v212_65 rfl rfl rfl rfl rfl ((kn_3 (m := mz_set (mz_set m 65 re1) 74 ge1) (w := w) hr2 hj ((Xe1.2 20 (by decide) (by decide)).trans h20)).deep (by decide)) ?_
      refine mz_go 2 (c' := (50, [some (.ref 65), some (.int 0), some (.int x), some (.int 0), none], [.int (re1 20), .int (w 6 j)], mz_set (mz_set m 65 re1) 74 ge1)) rfl ?_
      rw [show re1 20 = r 20 from Xe1.2 20 (by decide) (by decide)]
      rw [h20]
      refine mz_go 5 (c' := (if ((w 6 j) - (nI j)) = 0 then 59 else 63, [some (.ref 65), some (.int 0), some (.int x), some (.int 0), some (.int ((w 6 j) - (nI j)))], [.ref 65], mz_set (mz_set m 65 re1) 74 ge1)) rfl ?_
      refine mz_ifF q1 ?_
      refine mz_go 2 (c' := (67, [some (.ref 65), some (.int 0), some (.int x), some (.int 0), some (.int ((w 6 j) - (nI j)))], [], mz_up (mz_set (mz_set m 65 re1) 74 ge1) 65 21 0)) rfl ?_
      rw [vx_up65]
      refine mz_go 2 (c' := (if ((w 6 j) - (nI j)) = 0 then 72 else 76, [some (.ref 65), some (.int 0), some (.int x), some (.int 0), some (.int ((w 6 j) - (nI j)))], [], mz_set (mz_set m 65 (sm_upd re1 21 0)) 74 ge1)) rfl ?_
      refine mz_ifF q1 ?_
      refine mz_go 3 (c' := (if ((w 6 j) - (nI j)) = (-1) then 82 else 87, [some (.ref 65), some (.int 0), some (.int x), some (.int 0), some (.int ((w 6 j) - (nI j)))], [], mz_set (mz_set m 65 (sm_upd re1 21 0)) 74 ge1)) rfl ?_
      refine mz_ifT q2 ?_
      refine mz_go 3 (c' := (91, [some (.ref 65), some (.int 0), some (.int x), some (.int 0), some (.int ((w 6 j) - (nI j)))], [.int (-x)], mz_set (mz_set m 65 (sm_upd re1 21 0)) 74 ge1)) rfl ?_
      exact mz_ret rfl
    · refine ⟨x / ((w 6 j) - (nI j)), (sm_upd re1 21 0), ge1, ⟨?_, rfl⟩, V2⟩
      refine mz_go 6 (c' := (39, [some (.ref 65), some (.int 0), some (.int x), some (.int 0), none], [.int 13, .ref 65], mz_set (mz_set m 65 r) 74 g)) rfl ?_
      refine mz_doQ (R := mz_r209) (as := [.ref 65, .int 13]) (rest := []) (r1 := none) (m1 := mz_set (mz_set m 65 re1) 74 ge1) mz_t209 mz_v209_65 rfl rfl rfl rfl rfl (Ee1.deep (by decide)) ?_
      refine mz_go 1 (c' := (43, [some (.ref 65), some (.int 0), some (.int x), some (.int 0), none], [.ref 65], mz_set (mz_set m 65 re1) 74 ge1)) rfl ?_
      refine mz_doQ (R := mz_r212) (as := [.ref 65]) (rest := []) (r1 := some (.int (w 6 j))) (m1 := mz_set (mz_set m 65 re1) 74 ge1) mz_t212 mz_v212_65 rfl rfl rfl rfl rfl ((kn_3 (m := mz_set (mz_set m 65 re1) 74 ge1) (w := w) hr2 hj ((Xe1.2 20 (by decide) (by decide)).trans h20)).deep (by decide)) ?_
      refine mz_go 2 (c' := (50, [some (.ref 65), some (.int 0), some (.int x), some (.int 0), none], [.int (re1 20), .int (w 6 j)], mz_set (mz_set m 65 re1) 74 ge1)) rfl ?_
      rw [show re1 20 = r 20 from Xe1.2 20 (by decide) (by decide)]
      rw [h20]
      refine mz_go 5 (c' := (if ((w 6 j) - (nI j)) = 0 then 59 else 63, [some (.ref 65), some (.int 0), some (.int x), some (.int 0), some (.int ((w 6 j) - (nI j)))], [.ref 65], mz_set (mz_set m 65 re1) 74 ge1)) rfl ?_
      refine mz_ifF q1 ?_
      refine mz_go 2 (c' := (67, [some (.ref 65), some (.int 0), some (.int x), some (.int 0), some (.int ((w 6 j) - (nI j)))], [], mz_up (mz_set (mz_set m 65 re1) 74 ge1) 65 21 0)) rfl ?_
      rw [vx_up65]
      refine mz_go 2 (c' := (if ((w 6 j) - (nI j)) = 0 then 72 else 76, [some (.ref 65), some (.int 0), some (.int x), some (.int 0), some (.int ((w 6 j) - (nI j)))], [], mz_set (mz_set m 65 (sm_upd re1 21 0)) 74 ge1)) rfl ?_
      refine mz_ifF q1 ?_
      refine mz_go 3 (c' := (if ((w 6 j) - (nI j)) = (-1) then 82 else 87, [some (.ref 65), some (.int 0), some (.int x), some (.int 0), some (.int ((w 6 j) - (nI j)))], [], mz_set (mz_set m 65 (sm_upd re1 21 0)) 74 ge1)) rfl ?_
      refine mz_ifF q2 ?_
      refine mz_go 2 (c' := (90, [some (.ref 65), some (.int 0), some (.int x), some (.int 0), some (.int ((w 6 j) - (nI j)))], [.int ((w 6 j) - (nI j)), .int x], mz_set (mz_set m 65 (sm_upd re1 21 0)) 74 ge1)) rfl ?_
      refine mz_div (c' := (91, [some (.ref 65), some (.int 0), some (.int x), some (.int 0), some (.int ((w 6 j) - (nI j)))], [.int (x / ((w 6 j) - (nI j)))], mz_set (mz_set m 65 (sm_upd re1 21 0)) 74 ge1)) rfl q1 ?_
      exact mz_ret rfl
set_option maxHeartbeats 4000000 in
set_option maxRecDepth 100000 in
theorem vs1_3_1 {m w : mz_M} (hr2 : sm_HR w (m 66)) {r g : Nat → Int32} (hr0 : vx_0 19 21 r) {j c : Nat} (hj : j < 6) (hk : w 3 j = nI c) (hc : c ≤ 6) (h20 : r 20 = nI j) (x : Int32) : ∃ z r' g', mz_Me 58 mz_r216 [.ref 65, .int 1, .int x] (mz_set (mz_set m 65 r) 74 g) (some (.int z)) (mz_set (mz_set m 65 r') 74 g') ∧ vx_k 19 21 r r' := by
  obtain ⟨ve1, re1, ge1, Ee1, We1⟩ := vs1_3_0 (m := m) (w := w) hr2 (r := r) (g := g) ((vx_id hr0).1) hj hk hc (((vx_id hr0).2 20 (by decide) (by decide)).trans h20)  x
  have Xe1 : vx_k 19 21 r re1 := vx_tr (vx_id hr0) We1
  refine ⟨ve1, re1, ge1, ⟨?_, rfl⟩, Xe1⟩
  refine mz_go 6 (c' := (172, [some (.ref 65), some (.int 1), some (.int x), some (.int 0), none], [.int 1, .ref 65], mz_set (mz_set m 65 r) 74 g)) rfl ?_
  refine mz_doQ (R := mz_r210) (as := [.int 1]) (rest := [.ref 65]) (r1 := some (.int 0)) (m1 := mz_set (mz_set m 65 r) 74 g) mz_t210 mz_v210 rfl rfl rfl rfl rfl ⟨?_, rfl⟩ ?_
  · refine mz_go 10 (c' := (29, [some (.int 1)], [.int 0], mz_set (mz_set m 65 r) 74 g)) rfl ?_
    exact mz_ret rfl
  refine mz_go 1 (c' := (176, [some (.ref 65), some (.int 1), some (.int x), some (.int 0), none], [.int x, .int 0, .ref 65], mz_set (mz_set m 65 r) 74 g)) rfl ?_
  refine mz_doQ (R := mz_r216) (as := [.ref 65, .int 0, .int x]) (rest := []) (r1 := some (.int ve1)) (m1 := mz_set (mz_set m 65 re1) 74 ge1) mz_t216 mz_v216_65 rfl rfl rfl rfl rfl (Ee1.deep (by decide)) ?_
  exact mz_ret rfl
set_option maxHeartbeats 4000000 in
set_option maxRecDepth 100000 in
theorem vs1_3_2 {m w : mz_M} (hr2 : sm_HR w (m 66)) {r g : Nat → Int32} (hr0 : vx_0 19 21 r) {j c : Nat} (hj : j < 6) (hk : w 3 j = nI c) (hc : c ≤ 6) (h20 : r 20 = nI j) (x : Int32) : ∃ z r' g', mz_Me 58 mz_r216 [.ref 65, .int 2, .int x] (mz_set (mz_set m 65 r) 74 g) (some (.int z)) (mz_set (mz_set m 65 r') 74 g') ∧ vx_k 19 21 r r' := by
  obtain ⟨re1, ge1, Ee1, We1⟩ := vs1_beg (m := m) (r := r) (g := g) ((vx_id hr0).1) 31
  have Xe1 : vx_k 19 21 r re1 := vx_tr (vx_id hr0) We1
  obtain ⟨ve2, re2, ge2, Ee2, We2⟩ := vs1_3_0 (m := m) (w := w) hr2 (r := re1) (g := ge1) (Xe1.1) hj hk hc ((Xe1.2 20 (by decide) (by decide)).trans h20)  x
  have Xe2 : vx_k 19 21 r re2 := vx_tr Xe1 We2
  by_cases q1 : (re2 21) = 0
  · obtain ⟨ve3, re3, ge3, Ee3, We3⟩ := vs1_0_any (m := m) (w := w) hr2 (r := re2) (g := ge2) (Xe2.1) hj hk hc ((Xe2.2 20 (by decide) (by decide)).trans h20) (f := c) hc 1
    have Xe3 : vx_k 19 21 r re3 := vx_tr Xe2 We3
    refine ⟨ve2 + ve3, re3, ge3, ⟨?_, rfl⟩, Xe3⟩
    refine mz_go 6 (c' := (95, [some (.ref 65), some (.int 2), some (.int x), some (.int 0), none], [.int 31, .ref 65], mz_set (mz_set m 65 r) 74 g)) rfl ?_
    refine mz_doQ (R := mz_r209) (as := [.ref 65, .int 31]) (rest := []) (r1 := none) (m1 := mz_set (mz_set m 65 re1) 74 ge1) mz_t209 mz_v209_65 rfl rfl rfl rfl rfl (Ee1.deep (by decide)) ?_
    refine mz_go 2 (c' := (100, [some (.ref 65), some (.int 2), some (.int x), some (.int 0), none], [.int 2, .ref 65], mz_set (mz_set m 65 re1) 74 ge1)) rfl ?_
    refine mz_doQ (R := mz_r210) (as := [.int 2]) (rest := [.ref 65]) (r1 := some (.int 0)) (m1 := mz_set (mz_set m 65 re1) 74 ge1) mz_t210 mz_v210 rfl rfl rfl rfl rfl ⟨?_, rfl⟩ ?_
    · refine mz_go 10 (c' := (29, [some (.int 2)], [.int 0], mz_set (mz_set m 65 re1) 74 ge1)) rfl ?_
      exact mz_ret rfl
    refine mz_go 1 (c' := (104, [some (.ref 65), some (.int 2), some (.int x), some (.int 0), none], [.int x, .int 0, .ref 65], mz_set (mz_set m 65 re1) 74 ge1)) rfl ?_
    refine mz_doQ (R := mz_r216) (as := [.ref 65, .int 0, .int x]) (rest := []) (r1 := some (.int ve2)) (m1 := mz_set (mz_set m 65 re2) 74 ge2) mz_t216 mz_v216_65 rfl rfl rfl rfl rfl (Ee2.deep (by decide)) ?_
    refine mz_go 4 (c' := (if (re2 21) = 0 then 119 else 115, [some (.ref 65), some (.int 2), some (.int x), some (.int ve2), none], [], mz_set (mz_set m 65 re2) 74 ge2)) rfl ?_
    refine mz_ifT q1 ?_
    refine mz_go 3 (c' := (122, [some (.ref 65), some (.int 2), some (.int x), some (.int ve2), none], [.ref 65, .ref 65, .int ve2], mz_set (mz_set m 65 re2) 74 ge2)) rfl ?_
    refine mz_doQ (R := mz_r211) (as := [.ref 65]) (rest := [.ref 65, .int ve2]) (r1 := some (.int (nI c))) (m1 := mz_set (mz_set m 65 re2) 74 ge2) mz_t211 mz_v211_65 rfl rfl rfl rfl rfl ((kn_0 (m := mz_set (mz_set m 65 re2) 74 ge2) (w := w) hr2 hj hk ((Xe2.2 20 (by decide) (by decide)).trans h20)).deep (by decide)) ?_
    refine mz_go 1 (c' := (126, [some (.ref 65), some (.int 2), some (.int x), some (.int ve2), none], [.int 1, .int (nI c), .ref 65, .int ve2], mz_set (mz_set m 65 re2) 74 ge2)) rfl ?_
    refine mz_doQ (R := mz_r213) (as := [.ref 65, .int (nI c), .int 1]) (rest := [.int ve2]) (r1 := some (.int ve3)) (m1 := mz_set (mz_set m 65 re3) 74 ge3) mz_t213 mz_v213_65 rfl rfl rfl rfl rfl (Ee3.deep (by decide)) ?_
    refine mz_go 1 (c' := (130, [some (.ref 65), some (.int 2), some (.int x), some (.int ve2), none], [.int (ve2 + ve3)], mz_set (mz_set m 65 re3) 74 ge3)) rfl ?_
    exact mz_ret rfl
  · refine ⟨0, re2, ge2, ⟨?_, rfl⟩, Xe2⟩
    refine mz_go 6 (c' := (95, [some (.ref 65), some (.int 2), some (.int x), some (.int 0), none], [.int 31, .ref 65], mz_set (mz_set m 65 r) 74 g)) rfl ?_
    refine mz_doQ (R := mz_r209) (as := [.ref 65, .int 31]) (rest := []) (r1 := none) (m1 := mz_set (mz_set m 65 re1) 74 ge1) mz_t209 mz_v209_65 rfl rfl rfl rfl rfl (Ee1.deep (by decide)) ?_
    refine mz_go 2 (c' := (100, [some (.ref 65), some (.int 2), some (.int x), some (.int 0), none], [.int 2, .ref 65], mz_set (mz_set m 65 re1) 74 ge1)) rfl ?_
    refine mz_doQ (R := mz_r210) (as := [.int 2]) (rest := [.ref 65]) (r1 := some (.int 0)) (m1 := mz_set (mz_set m 65 re1) 74 ge1) mz_t210 mz_v210 rfl rfl rfl rfl rfl ⟨?_, rfl⟩ ?_
    · refine mz_go 10 (c' := (29, [some (.int 2)], [.int 0], mz_set (mz_set m 65 re1) 74 ge1)) rfl ?_
      exact mz_ret rfl
    refine mz_go 1 (c' := (104, [some (.ref 65), some (.int 2), some (.int x), some (.int 0), none], [.int x, .int 0, .ref 65], mz_set (mz_set m 65 re1) 74 ge1)) rfl ?_
    refine mz_doQ (R := mz_r216) (as := [.ref 65, .int 0, .int x]) (rest := []) (r1 := some (.int ve2)) (m1 := mz_set (mz_set m 65 re2) 74 ge2) mz_t216 mz_v216_65 rfl rfl rfl rfl rfl (Ee2.deep (by decide)) ?_
    refine mz_go 4 (c' := (if (re2 21) = 0 then 119 else 115, [some (.ref 65), some (.int 2), some (.int x), some (.int ve2), none], [], mz_set (mz_set m 65 re2) 74 ge2)) rfl ?_
    refine mz_ifF q1 ?_
    refine mz_go 2 (c' := (130, [some (.ref 65), some (.int 2), some (.int x), some (.int ve2), none], [.int 0], mz_set (mz_set m 65 re2) 74 ge2)) rfl ?_
    exact mz_ret rfl
set_option maxHeartbeats 4000000 in
set_option maxRecDepth 100000 in
theorem vs1_3_3 {m w : mz_M} (hr2 : sm_HR w (m 66)) {r g : Nat → Int32} (hr0 : vx_0 19 21 r) {j c : Nat} (hj : j < 6) (hk : w 3 j = nI c) (hc : c ≤ 6) (h20 : r 20 = nI j) (x : Int32) : ∃ z r' g', mz_Me 58 mz_r216 [.ref 65, .int 3, .int x] (mz_set (mz_set m 65 r) 74 g) (some (.int z)) (mz_set (mz_set m 65 r') 74 g') ∧ vx_k 19 21 r r' := by
  obtain ⟨ve1, re1, ge1, Ee1, We1⟩ := vs1_3_0 (m := m) (w := w) hr2 (r := r) (g := g) ((vx_id hr0).1) hj hk hc (((vx_id hr0).2 20 (by decide) (by decide)).trans h20)  x
  have Xe1 : vx_k 19 21 r re1 := vx_tr (vx_id hr0) We1
  refine ⟨ve1, re1, ge1, ⟨?_, rfl⟩, Xe1⟩
  refine mz_go 6 (c' := (172, [some (.ref 65), some (.int 3), some (.int x), some (.int 0), none], [.int 3, .ref 65], mz_set (mz_set m 65 r) 74 g)) rfl ?_
  refine mz_doQ (R := mz_r210) (as := [.int 3]) (rest := [.ref 65]) (r1 := some (.int 0)) (m1 := mz_set (mz_set m 65 r) 74 g) mz_t210 mz_v210 rfl rfl rfl rfl rfl ⟨?_, rfl⟩ ?_
  · refine mz_go 10 (c' := (29, [some (.int 3)], [.int 0], mz_set (mz_set m 65 r) 74 g)) rfl ?_
    exact mz_ret rfl
  refine mz_go 1 (c' := (176, [some (.ref 65), some (.int 3), some (.int x), some (.int 0), none], [.int x, .int 0, .ref 65], mz_set (mz_set m 65 r) 74 g)) rfl ?_
  refine mz_doQ (R := mz_r216) (as := [.ref 65, .int 0, .int x]) (rest := []) (r1 := some (.int ve1)) (m1 := mz_set (mz_set m 65 re1) 74 ge1) mz_t216 mz_v216_65 rfl rfl rfl rfl rfl (Ee1.deep (by decide)) ?_
  exact mz_ret rfl
set_option maxHeartbeats 4000000 in
set_option maxRecDepth 100000 in
theorem vs1_3_4 {m w : mz_M} (hr2 : sm_HR w (m 66)) {r g : Nat → Int32} (hr0 : vx_0 19 21 r) {j c : Nat} (hj : j < 6) (hk : w 3 j = nI c) (hc : c ≤ 6) (h20 : r 20 = nI j) (x : Int32) : ∃ z r' g', mz_Me 61 mz_r216 [.ref 65, .int 4, .int x] (mz_set (mz_set m 65 r) 74 g) (some (.int z)) (mz_set (mz_set m 65 r') 74 g') ∧ vx_k 19 21 r r' := by
  obtain ⟨re1, ge1, Ee1, We1⟩ := vs1_beg (m := m) (r := r) (g := g) ((vx_id hr0).1) 51
  have Xe1 : vx_k 19 21 r re1 := vx_tr (vx_id hr0) We1
  obtain ⟨ve2, re2, ge2, Ee2, We2⟩ := vs1_3_1 (m := m) (w := w) hr2 (r := re1) (g := ge1) (Xe1.1) hj hk hc ((Xe1.2 20 (by decide) (by decide)).trans h20)  x
  have Xe2 : vx_k 19 21 r re2 := vx_tr Xe1 We2
  by_cases q1 : (re2 21) = 0
  · obtain ⟨ve3, re3, ge3, Ee3, We3⟩ := vs1_2_any (m := m) (w := w) hr2 (r := re2) (g := ge2) (Xe2.1) hj hk hc ((Xe2.2 20 (by decide) (by decide)).trans h20) (f := c) hc 0
    have Xe3 : vx_k 19 21 r re3 := vx_tr Xe2 We3
    refine ⟨ve2 - ve3, re3, ge3, ⟨?_, rfl⟩, Xe3⟩
    refine mz_go 6 (c' := (134, [some (.ref 65), some (.int 4), some (.int x), some (.int 0), none], [.int 51, .ref 65], mz_set (mz_set m 65 r) 74 g)) rfl ?_
    refine mz_doQ (R := mz_r209) (as := [.ref 65, .int 51]) (rest := []) (r1 := none) (m1 := mz_set (mz_set m 65 re1) 74 ge1) mz_t209 mz_v209_65 rfl rfl rfl rfl rfl (Ee1.deep (by decide)) ?_
    refine mz_go 2 (c' := (139, [some (.ref 65), some (.int 4), some (.int x), some (.int 0), none], [.int 4, .ref 65], mz_set (mz_set m 65 re1) 74 ge1)) rfl ?_
    refine mz_doQ (R := mz_r210) (as := [.int 4]) (rest := [.ref 65]) (r1 := some (.int 1)) (m1 := mz_set (mz_set m 65 re1) 74 ge1) mz_t210 mz_v210 rfl rfl rfl rfl rfl ⟨?_, rfl⟩ ?_
    · refine mz_go 5 (c' := (29, [some (.int 4)], [.int 1], mz_set (mz_set m 65 re1) 74 ge1)) rfl ?_
      exact mz_ret rfl
    refine mz_go 1 (c' := (143, [some (.ref 65), some (.int 4), some (.int x), some (.int 0), none], [.int x, .int 1, .ref 65], mz_set (mz_set m 65 re1) 74 ge1)) rfl ?_
    refine mz_doQ (R := mz_r216) (as := [.ref 65, .int 1, .int x]) (rest := []) (r1 := some (.int ve2)) (m1 := mz_set (mz_set m 65 re2) 74 ge2) mz_t216 mz_v216_65 rfl rfl rfl rfl rfl (Ee2.deep (by decide)) ?_
    refine mz_go 4 (c' := (if (re2 21) = 0 then 158 else 154, [some (.ref 65), some (.int 4), some (.int x), some (.int ve2), none], [], mz_set (mz_set m 65 re2) 74 ge2)) rfl ?_
    refine mz_ifT q1 ?_
    refine mz_go 3 (c' := (161, [some (.ref 65), some (.int 4), some (.int x), some (.int ve2), none], [.ref 65, .ref 65, .int ve2], mz_set (mz_set m 65 re2) 74 ge2)) rfl ?_
    refine mz_doQ (R := mz_r211) (as := [.ref 65]) (rest := [.ref 65, .int ve2]) (r1 := some (.int (nI c))) (m1 := mz_set (mz_set m 65 re2) 74 ge2) mz_t211 mz_v211_65 rfl rfl rfl rfl rfl ((kn_0 (m := mz_set (mz_set m 65 re2) 74 ge2) (w := w) hr2 hj hk ((Xe2.2 20 (by decide) (by decide)).trans h20)).deep (by decide)) ?_
    refine mz_go 1 (c' := (165, [some (.ref 65), some (.int 4), some (.int x), some (.int ve2), none], [.int 0, .int (nI c), .ref 65, .int ve2], mz_set (mz_set m 65 re2) 74 ge2)) rfl ?_
    refine mz_doQ (R := mz_r215) (as := [.ref 65, .int (nI c), .int 0]) (rest := [.int ve2]) (r1 := some (.int ve3)) (m1 := mz_set (mz_set m 65 re3) 74 ge3) mz_t215 mz_v215_65 rfl rfl rfl rfl rfl (Ee3.deep (by decide)) ?_
    refine mz_go 1 (c' := (169, [some (.ref 65), some (.int 4), some (.int x), some (.int ve2), none], [.int (ve2 - ve3)], mz_set (mz_set m 65 re3) 74 ge3)) rfl ?_
    exact mz_ret rfl
  · refine ⟨0, re2, ge2, ⟨?_, rfl⟩, Xe2⟩
    refine mz_go 6 (c' := (134, [some (.ref 65), some (.int 4), some (.int x), some (.int 0), none], [.int 51, .ref 65], mz_set (mz_set m 65 r) 74 g)) rfl ?_
    refine mz_doQ (R := mz_r209) (as := [.ref 65, .int 51]) (rest := []) (r1 := none) (m1 := mz_set (mz_set m 65 re1) 74 ge1) mz_t209 mz_v209_65 rfl rfl rfl rfl rfl (Ee1.deep (by decide)) ?_
    refine mz_go 2 (c' := (139, [some (.ref 65), some (.int 4), some (.int x), some (.int 0), none], [.int 4, .ref 65], mz_set (mz_set m 65 re1) 74 ge1)) rfl ?_
    refine mz_doQ (R := mz_r210) (as := [.int 4]) (rest := [.ref 65]) (r1 := some (.int 1)) (m1 := mz_set (mz_set m 65 re1) 74 ge1) mz_t210 mz_v210 rfl rfl rfl rfl rfl ⟨?_, rfl⟩ ?_
    · refine mz_go 5 (c' := (29, [some (.int 4)], [.int 1], mz_set (mz_set m 65 re1) 74 ge1)) rfl ?_
      exact mz_ret rfl
    refine mz_go 1 (c' := (143, [some (.ref 65), some (.int 4), some (.int x), some (.int 0), none], [.int x, .int 1, .ref 65], mz_set (mz_set m 65 re1) 74 ge1)) rfl ?_
    refine mz_doQ (R := mz_r216) (as := [.ref 65, .int 1, .int x]) (rest := []) (r1 := some (.int ve2)) (m1 := mz_set (mz_set m 65 re2) 74 ge2) mz_t216 mz_v216_65 rfl rfl rfl rfl rfl (Ee2.deep (by decide)) ?_
    refine mz_go 4 (c' := (if (re2 21) = 0 then 158 else 154, [some (.ref 65), some (.int 4), some (.int x), some (.int ve2), none], [], mz_set (mz_set m 65 re2) 74 ge2)) rfl ?_
    refine mz_ifF q1 ?_
    refine mz_go 2 (c' := (169, [some (.ref 65), some (.int 4), some (.int x), some (.int ve2), none], [.int 0], mz_set (mz_set m 65 re2) 74 ge2)) rfl ?_
    exact mz_ret rfl
set_option maxHeartbeats 4000000 in
set_option maxRecDepth 100000 in
theorem vs1_3_5 {m w : mz_M} (hr2 : sm_HR w (m 66)) {r g : Nat → Int32} (hr0 : vx_0 19 21 r) {j c : Nat} (hj : j < 6) (hk : w 3 j = nI c) (hc : c ≤ 6) (h20 : r 20 = nI j) (x : Int32) : ∃ z r' g', mz_Me 61 mz_r216 [.ref 65, .int 5, .int x] (mz_set (mz_set m 65 r) 74 g) (some (.int z)) (mz_set (mz_set m 65 r') 74 g') ∧ vx_k 19 21 r r' := by
  obtain ⟨ve1, re1, ge1, Ee1, We1⟩ := vs1_3_3 (m := m) (w := w) hr2 (r := r) (g := g) ((vx_id hr0).1) hj hk hc (((vx_id hr0).2 20 (by decide) (by decide)).trans h20)  x
  have Xe1 : vx_k 19 21 r re1 := vx_tr (vx_id hr0) We1
  refine ⟨ve1, re1, ge1, ⟨?_, rfl⟩, Xe1⟩
  refine mz_go 6 (c' := (172, [some (.ref 65), some (.int 5), some (.int x), some (.int 0), none], [.int 5, .ref 65], mz_set (mz_set m 65 r) 74 g)) rfl ?_
  refine mz_doQ (R := mz_r210) (as := [.int 5]) (rest := [.ref 65]) (r1 := some (.int 3)) (m1 := mz_set (mz_set m 65 r) 74 g) mz_t210 mz_v210 rfl rfl rfl rfl rfl ⟨?_, rfl⟩ ?_
  · refine mz_go 8 (c' := (29, [some (.int 5)], [.int 3], mz_set (mz_set m 65 r) 74 g)) rfl ?_
    exact mz_ret rfl
  refine mz_go 1 (c' := (176, [some (.ref 65), some (.int 5), some (.int x), some (.int 0), none], [.int x, .int 3, .ref 65], mz_set (mz_set m 65 r) 74 g)) rfl ?_
  refine mz_doQ (R := mz_r216) (as := [.ref 65, .int 3, .int x]) (rest := []) (r1 := some (.int ve1)) (m1 := mz_set (mz_set m 65 re1) 74 ge1) mz_t216 mz_v216_65 rfl rfl rfl rfl rfl (Ee1.deep (by decide)) ?_
  exact mz_ret rfl
set_option maxHeartbeats 4000000 in
set_option maxRecDepth 100000 in
theorem vs1_3_6 {m w : mz_M} (hr2 : sm_HR w (m 66)) {r g : Nat → Int32} (hr0 : vx_0 19 21 r) {j c : Nat} (hj : j < 6) (hk : w 3 j = nI c) (hc : c ≤ 6) (h20 : r 20 = nI j) (x : Int32) : ∃ z r' g', mz_Me 61 mz_r216 [.ref 65, .int 6, .int x] (mz_set (mz_set m 65 r) 74 g) (some (.int z)) (mz_set (mz_set m 65 r') 74 g') ∧ vx_k 19 21 r r' := by
  obtain ⟨ve1, re1, ge1, Ee1, We1⟩ := vs1_3_2 (m := m) (w := w) hr2 (r := r) (g := g) ((vx_id hr0).1) hj hk hc (((vx_id hr0).2 20 (by decide) (by decide)).trans h20)  x
  have Xe1 : vx_k 19 21 r re1 := vx_tr (vx_id hr0) We1
  refine ⟨ve1, re1, ge1, ⟨?_, rfl⟩, Xe1⟩
  refine mz_go 6 (c' := (172, [some (.ref 65), some (.int 6), some (.int x), some (.int 0), none], [.int 6, .ref 65], mz_set (mz_set m 65 r) 74 g)) rfl ?_
  refine mz_doQ (R := mz_r210) (as := [.int 6]) (rest := [.ref 65]) (r1 := some (.int 2)) (m1 := mz_set (mz_set m 65 r) 74 g) mz_t210 mz_v210 rfl rfl rfl rfl rfl ⟨?_, rfl⟩ ?_
  · refine mz_go 11 (c' := (29, [some (.int 6)], [.int 2], mz_set (mz_set m 65 r) 74 g)) rfl ?_
    exact mz_ret rfl
  refine mz_go 1 (c' := (176, [some (.ref 65), some (.int 6), some (.int x), some (.int 0), none], [.int x, .int 2, .ref 65], mz_set (mz_set m 65 r) 74 g)) rfl ?_
  refine mz_doQ (R := mz_r216) (as := [.ref 65, .int 2, .int x]) (rest := []) (r1 := some (.int ve1)) (m1 := mz_set (mz_set m 65 re1) 74 ge1) mz_t216 mz_v216_65 rfl rfl rfl rfl rfl (Ee1.deep (by decide)) ?_
  exact mz_ret rfl
set_option maxHeartbeats 4000000 in
set_option maxRecDepth 100000 in
theorem vs1_3_any {m w : mz_M} (hr2 : sm_HR w (m 66)) {r g : Nat → Int32} (hr0 : vx_0 19 21 r) {j c : Nat} (hj : j < 6) (hk : w 3 j = nI c) (hc : c ≤ 6) (h20 : r 20 = nI j) {f : Nat} (hf : f ≤ 6) (x : Int32) : ∃ z r' g', mz_Me 70 mz_r216 [.ref 65, .int (nI f), .int x] (mz_set (mz_set m 65 r) 74 g) (some (.int z)) (mz_set (mz_set m 65 r') 74 g') ∧ vx_k 19 21 r r' := by
  rcases (show f = 0 ∨ f = 1 ∨ f = 2 ∨ f = 3 ∨ f = 4 ∨ f = 5 ∨ f = 6 by omega) with rfl | rfl | rfl | rfl | rfl | rfl | rfl
  · obtain ⟨z, r', g', E, W⟩ := vs1_3_0 (m := m) (w := w) hr2 (g := g) hr0 hj hk hc h20 x
    exact ⟨z, r', g', E.deep (by decide), W⟩
  · obtain ⟨z, r', g', E, W⟩ := vs1_3_1 (m := m) (w := w) hr2 (g := g) hr0 hj hk hc h20 x
    exact ⟨z, r', g', E.deep (by decide), W⟩
  · obtain ⟨z, r', g', E, W⟩ := vs1_3_2 (m := m) (w := w) hr2 (g := g) hr0 hj hk hc h20 x
    exact ⟨z, r', g', E.deep (by decide), W⟩
  · obtain ⟨z, r', g', E, W⟩ := vs1_3_3 (m := m) (w := w) hr2 (g := g) hr0 hj hk hc h20 x
    exact ⟨z, r', g', E.deep (by decide), W⟩
  · obtain ⟨z, r', g', E, W⟩ := vs1_3_4 (m := m) (w := w) hr2 (g := g) hr0 hj hk hc h20 x
    exact ⟨z, r', g', E.deep (by decide), W⟩
  · obtain ⟨z, r', g', E, W⟩ := vs1_3_5 (m := m) (w := w) hr2 (g := g) hr0 hj hk hc h20 x
    exact ⟨z, r', g', E.deep (by decide), W⟩
  · obtain ⟨z, r', g', E, W⟩ := vs1_3_6 (m := m) (w := w) hr2 (g := g) hr0 hj hk hc h20 x
    exact ⟨z, r', g', E.deep (by decide), W⟩
set_option maxHeartbeats 4000000 in
set_option maxRecDepth 100000 in
theorem sc_voice {n : Nat} (hn : n < 64) {w : mz_M} (hI : sm_I n w) (xa xb xc : Int32) : ∃ v1 v2 m1 m2, mz_Me 100 mz_r97 [.ref 0, .int xa, .int xb, .int xc] w (some (.int v1)) m1 ∧ mz_Me 100 mz_r217 [.ref 65, .int xa, .int xb, .int xc] m1 (some (.int v2)) m2 ∧ sm_I (n + 1) m2 := by
  have hI2 := hI
  obtain ⟨hn0, ⟨-, ⟨hr80, hr5, hrr⟩, ⟨⟨TT, hTT, h81, h661⟩, htp⟩, ⟨⟨T0, hT0, hU0, hV0, -⟩, ⟨T1, hT1, hU1, hV1, -⟩, ⟨T2, hT2, hU2, hV2, -⟩⟩, ⟨hbx, hby, hbl⟩, ⟨⟨WW, HH, hWW, hHH, hWH, h202, h203, h6660, h6661⟩, h6662, h6663, h6664, hpc⟩, ⟨hth, h66160, hthr⟩, ⟨⟨AA, hAA, h111, h662⟩, h663, hwt⟩⟩, ⟨hsh, hsn⟩, ⟨hcb1, hcb2⟩, ⟨JJ, hJJ, h07, h652, hkept⟩⟩ := hI
  obtain ⟨N, hw, hr2, h660, -, -, h6615⟩ := sm_world hI2
  have hw2 := hw
  obtain ⟨hN, h4, hpb, -, -⟩ := hw2
  have hT60a := sm_T60 hV0
  have hT60b := sm_T60 hV1
  have hT60c := sm_T60 hV2
  obtain ⟨B1, hB1, e571⟩ := sm_Nof (by decide) hcb1
  obtain ⟨B2, hB2, e6519⟩ := sm_Nof (by decide) hcb2
  by_cases q1 : xa < 0
  · by_cases q2 : N = 0
    · refine ⟨(-1000001), (-1000001), mz_up w 64 1 ((w 64 1) + 1), mz_up (mz_up w 64 1 ((w 64 1) + 1)) 68 1 ((w 68 1) + 1), ⟨?_, rfl⟩, ⟨?_, rfl⟩, ?_⟩
      · refine mz_go 4 (c' := (8, [some (.ref 0), some (.int xa), some (.int xb), some (.int xc), none], [.int xa, .ref 2], w)) rfl ?_
        refine mz_doQ (R := mz_r21) (as := [.ref 2, .int xa]) (rest := []) (r1 := some (.int 0)) (m1 := w) mz_t21 mz_v21_2 rfl rfl rfl rfl rfl ⟨?_, rfl⟩ ?_
        · refine mz_go 2 (c' := (if xa < 0 then 22 else 4, [some (.ref 2), some (.int xa)], [], w)) rfl ?_
          refine mz_ifT q1 ?_
          refine mz_go 1 (c' := (23, [some (.ref 2), some (.int xa)], [.int 0], w)) rfl ?_
          exact mz_ret rfl
        refine mz_go 3 (c' := (25, [some (.ref 0), some (.int xa), some (.int xb), some (.int xc), none], [.int 1, .ref 0], w)) rfl ?_
        refine mz_doQ (R := mz_r109) (as := [.ref 0, .int 1]) (rest := []) (r1 := some (.int (-1000001))) (m1 := mz_up w 64 1 ((w 64 1) + 1)) mz_t109 mz_v109_0 rfl rfl rfl rfl rfl ⟨?_, rfl⟩ ?_
        · refine mz_go 3 (c' := (4, [some (.ref 0), some (.int 1)], [.int 6, .int 1, .int 1], w)) rfl ?_
          refine mz_doQ (R := mz_r121) (as := [.int 1, .int 1, .int 6]) (rest := []) (r1 := some (.int 1)) (m1 := w) mz_t121 mz_v121 rfl rfl rfl rfl rfl ⟨?_, rfl⟩ ?_
          · refine mz_go 8 (c' := (15, [some (.int 1), some (.int 1), some (.int 6)], [.int 1], w)) rfl ?_
            exact mz_ret rfl
          refine mz_go 12 (c' := (25, [some (.ref 0), some (.int 1)], [.int (-1000001)], mz_up w 64 1 ((w 64 1) + 1))) rfl ?_
          exact mz_ret rfl
        exact mz_ret rfl
      · refine mz_go 2 (c' := (2, [some (.ref 65), some (.int xa), some (.int xb), some (.int xc), none, none], [.int xa, .ref 65], mz_up w 64 1 ((w 64 1) + 1))) rfl ?_
        refine mz_doQ (R := mz_r132) (as := [.ref 65, .int xa]) (rest := []) (r1 := some (.int 0)) (m1 := mz_up w 64 1 ((w 64 1) + 1)) mz_t132 mz_v132_65 rfl rfl rfl rfl rfl ⟨?_, rfl⟩ ?_
        · refine mz_go 6 (c' := (8, [some (.ref 65), some (.int xa)], [.int (w 66 0), .int 0, .int xa], mz_up w 64 1 ((w 64 1) + 1))) rfl ?_
          rw [h660]
          refine mz_go 2 (c' := (10, [some (.ref 65), some (.int xa)], [.int ((nI N) - 1), .int 0, .int xa], mz_up w 64 1 ((w 64 1) + 1))) rfl ?_
          rw [show nI N - 1 = -1 from by rw [show N = 0 by omega]; decide]
          refine mz_doQ (R := mz_r128) (as := [.int xa, .int 0, .int (-1)]) (rest := []) (r1 := some (.int 0)) (m1 := mz_up w 64 1 ((w 64 1) + 1)) mz_t128 mz_v128 rfl rfl rfl rfl rfl ⟨?_, rfl⟩ ?_
          · refine mz_go 3 (c' := (if xa < 0 then 14 else 5, [some (.int xa), some (.int 0), some (.int (-1))], [], mz_up w 64 1 ((w 64 1) + 1))) rfl ?_
            refine mz_ifT q1 ?_
            refine mz_go 1 (c' := (15, [some (.int xa), some (.int 0), some (.int (-1))], [.int 0], mz_up w 64 1 ((w 64 1) + 1))) rfl ?_
            exact mz_ret rfl
          exact mz_ret rfl
        refine mz_go 3 (c' := (19, [some (.ref 65), some (.int xa), some (.int xb), some (.int xc), none, none], [.int 1, .ref 65], mz_up w 64 1 ((w 64 1) + 1))) rfl ?_
        refine mz_doQ (R := mz_r127) (as := [.ref 65, .int 1]) (rest := []) (r1 := some (.int (-1000001))) (m1 := mz_up (mz_up w 64 1 ((w 64 1) + 1)) 68 1 ((w 68 1) + 1)) mz_t127 mz_v127_65 rfl rfl rfl rfl rfl ⟨?_, rfl⟩ ?_
        · refine mz_go 11 (c' := (14, [some (.ref 65), some (.int 1)], [.int (-1000001)], mz_up (mz_up w 64 1 ((w 64 1) + 1)) 68 1 ((w 68 1) + 1))) rfl ?_
          exact mz_ret rfl
        exact mz_ret rfl
      · exact sm_I_scr hn hI2 (fun i hi => by
          have hne : ∀ r, sm_scr r = true → i ≠ r := fun r hr e => by
            rw [e, hr] at hi
            cases hi
          simp only [mz_up_ne (hne 64 rfl), mz_up_ne (hne 68 rfl)]) rfl rfl
    · refine ⟨(-1000001), (-1000001), mz_up w 64 1 ((w 64 1) + 1), mz_up (mz_up w 64 1 ((w 64 1) + 1)) 68 1 ((w 68 1) + 1), ⟨?_, rfl⟩, ⟨?_, rfl⟩, ?_⟩
      · refine mz_go 4 (c' := (8, [some (.ref 0), some (.int xa), some (.int xb), some (.int xc), none], [.int xa, .ref 2], w)) rfl ?_
        refine mz_doQ (R := mz_r21) (as := [.ref 2, .int xa]) (rest := []) (r1 := some (.int 0)) (m1 := w) mz_t21 mz_v21_2 rfl rfl rfl rfl rfl ⟨?_, rfl⟩ ?_
        · refine mz_go 2 (c' := (if xa < 0 then 22 else 4, [some (.ref 2), some (.int xa)], [], w)) rfl ?_
          refine mz_ifT q1 ?_
          refine mz_go 1 (c' := (23, [some (.ref 2), some (.int xa)], [.int 0], w)) rfl ?_
          exact mz_ret rfl
        refine mz_go 3 (c' := (25, [some (.ref 0), some (.int xa), some (.int xb), some (.int xc), none], [.int 1, .ref 0], w)) rfl ?_
        refine mz_doQ (R := mz_r109) (as := [.ref 0, .int 1]) (rest := []) (r1 := some (.int (-1000001))) (m1 := mz_up w 64 1 ((w 64 1) + 1)) mz_t109 mz_v109_0 rfl rfl rfl rfl rfl ⟨?_, rfl⟩ ?_
        · refine mz_go 3 (c' := (4, [some (.ref 0), some (.int 1)], [.int 6, .int 1, .int 1], w)) rfl ?_
          refine mz_doQ (R := mz_r121) (as := [.int 1, .int 1, .int 6]) (rest := []) (r1 := some (.int 1)) (m1 := w) mz_t121 mz_v121 rfl rfl rfl rfl rfl ⟨?_, rfl⟩ ?_
          · refine mz_go 8 (c' := (15, [some (.int 1), some (.int 1), some (.int 6)], [.int 1], w)) rfl ?_
            exact mz_ret rfl
          refine mz_go 12 (c' := (25, [some (.ref 0), some (.int 1)], [.int (-1000001)], mz_up w 64 1 ((w 64 1) + 1))) rfl ?_
          exact mz_ret rfl
        exact mz_ret rfl
      · refine mz_go 2 (c' := (2, [some (.ref 65), some (.int xa), some (.int xb), some (.int xc), none, none], [.int xa, .ref 65], mz_up w 64 1 ((w 64 1) + 1))) rfl ?_
        refine mz_doQ (R := mz_r132) (as := [.ref 65, .int xa]) (rest := []) (r1 := some (.int 0)) (m1 := mz_up w 64 1 ((w 64 1) + 1)) mz_t132 mz_v132_65 rfl rfl rfl rfl rfl ⟨?_, rfl⟩ ?_
        · refine mz_go 6 (c' := (8, [some (.ref 65), some (.int xa)], [.int (w 66 0), .int 0, .int xa], mz_up w 64 1 ((w 64 1) + 1))) rfl ?_
          rw [h660]
          refine mz_go 2 (c' := (10, [some (.ref 65), some (.int xa)], [.int ((nI N) - 1), .int 0, .int xa], mz_up w 64 1 ((w 64 1) + 1))) rfl ?_
          refine mz_doQ (R := mz_r128) (as := [.int xa, .int 0, .int ((nI N) - 1)]) (rest := []) (r1 := some (.int 0)) (m1 := mz_up w 64 1 ((w 64 1) + 1)) mz_t128 mz_v128 rfl rfl rfl rfl rfl ⟨?_, rfl⟩ ?_
          · refine mz_go 3 (c' := (if xa < 0 then 14 else 5, [some (.int xa), some (.int 0), some (.int ((nI N) - 1))], [], mz_up w 64 1 ((w 64 1) + 1))) rfl ?_
            refine mz_ifT q1 ?_
            refine mz_go 1 (c' := (15, [some (.int xa), some (.int 0), some (.int ((nI N) - 1))], [.int 0], mz_up w 64 1 ((w 64 1) + 1))) rfl ?_
            exact mz_ret rfl
          exact mz_ret rfl
        refine mz_go 3 (c' := (19, [some (.ref 65), some (.int xa), some (.int xb), some (.int xc), none, none], [.int 1, .ref 65], mz_up w 64 1 ((w 64 1) + 1))) rfl ?_
        refine mz_doQ (R := mz_r127) (as := [.ref 65, .int 1]) (rest := []) (r1 := some (.int (-1000001))) (m1 := mz_up (mz_up w 64 1 ((w 64 1) + 1)) 68 1 ((w 68 1) + 1)) mz_t127 mz_v127_65 rfl rfl rfl rfl rfl ⟨?_, rfl⟩ ?_
        · refine mz_go 11 (c' := (14, [some (.ref 65), some (.int 1)], [.int (-1000001)], mz_up (mz_up w 64 1 ((w 64 1) + 1)) 68 1 ((w 68 1) + 1))) rfl ?_
          exact mz_ret rfl
        exact mz_ret rfl
      · exact sm_I_scr hn hI2 (fun i hi => by
          have hne : ∀ r, sm_scr r = true → i ≠ r := fun r hr e => by
            rw [e, hr] at hi
            cases hi
          simp only [mz_up_ne (hne 64 rfl), mz_up_ne (hne 68 rfl)]) rfl rfl
  · obtain ⟨jxa, hjxa, rfl⟩ := nI_of q1
    by_cases q3 : N ≤ jxa
    · by_cases q4 : N = 0
      · refine ⟨(-1000001), (-1000001), mz_up w 64 1 ((w 64 1) + 1), mz_up (mz_up w 64 1 ((w 64 1) + 1)) 68 1 ((w 68 1) + 1), ⟨?_, rfl⟩, ⟨?_, rfl⟩, ?_⟩
        · refine mz_go 4 (c' := (8, [some (.ref 0), some (.int (nI jxa)), some (.int xb), some (.int xc), none], [.int (nI jxa), .ref 2], w)) rfl ?_
          refine mz_doQ (R := mz_r21) (as := [.ref 2, .int (nI jxa)]) (rest := []) (r1 := some (.int 0)) (m1 := w) mz_t21 mz_v21_2 rfl rfl rfl rfl rfl ⟨?_, rfl⟩ ?_
          · refine mz_go 2 (c' := (if (nI jxa) < 0 then 22 else 4, [some (.ref 2), some (.int (nI jxa))], [], w)) rfl ?_
            refine mz_ifF q1 ?_
            refine mz_go 3 (c' := (9, [some (.ref 2), some (.int (nI jxa))], [.int (w 2 4), .int (nI jxa)], w)) rfl ?_
            rw [h4]
            refine mz_go 1 (c' := (if (nI N) ≤ (nI jxa) then 22 else 12, [some (.ref 2), some (.int (nI jxa))], [], w)) rfl ?_
            refine mz_ifT (show ((nI N) ≤ (nI jxa)) from (sm_leN rfl rfl (show N ≤ jxa by omega) (show jxa < 2 ^ 31 by omega))) ?_
            refine mz_go 1 (c' := (23, [some (.ref 2), some (.int (nI jxa))], [.int 0], w)) rfl ?_
            exact mz_ret rfl
          refine mz_go 3 (c' := (25, [some (.ref 0), some (.int (nI jxa)), some (.int xb), some (.int xc), none], [.int 1, .ref 0], w)) rfl ?_
          refine mz_doQ (R := mz_r109) (as := [.ref 0, .int 1]) (rest := []) (r1 := some (.int (-1000001))) (m1 := mz_up w 64 1 ((w 64 1) + 1)) mz_t109 mz_v109_0 rfl rfl rfl rfl rfl ⟨?_, rfl⟩ ?_
          · refine mz_go 3 (c' := (4, [some (.ref 0), some (.int 1)], [.int 6, .int 1, .int 1], w)) rfl ?_
            refine mz_doQ (R := mz_r121) (as := [.int 1, .int 1, .int 6]) (rest := []) (r1 := some (.int 1)) (m1 := w) mz_t121 mz_v121 rfl rfl rfl rfl rfl ⟨?_, rfl⟩ ?_
            · refine mz_go 8 (c' := (15, [some (.int 1), some (.int 1), some (.int 6)], [.int 1], w)) rfl ?_
              exact mz_ret rfl
            refine mz_go 12 (c' := (25, [some (.ref 0), some (.int 1)], [.int (-1000001)], mz_up w 64 1 ((w 64 1) + 1))) rfl ?_
            exact mz_ret rfl
          exact mz_ret rfl
        · refine mz_go 2 (c' := (2, [some (.ref 65), some (.int (nI jxa)), some (.int xb), some (.int xc), none, none], [.int (nI jxa), .ref 65], mz_up w 64 1 ((w 64 1) + 1))) rfl ?_
          refine mz_doQ (R := mz_r132) (as := [.ref 65, .int (nI jxa)]) (rest := []) (r1 := some (.int 0)) (m1 := mz_up w 64 1 ((w 64 1) + 1)) mz_t132 mz_v132_65 rfl rfl rfl rfl rfl ⟨?_, rfl⟩ ?_
          · refine mz_go 6 (c' := (8, [some (.ref 65), some (.int (nI jxa))], [.int (w 66 0), .int 0, .int (nI jxa)], mz_up w 64 1 ((w 64 1) + 1))) rfl ?_
            rw [h660]
            refine mz_go 2 (c' := (10, [some (.ref 65), some (.int (nI jxa))], [.int ((nI N) - 1), .int 0, .int (nI jxa)], mz_up w 64 1 ((w 64 1) + 1))) rfl ?_
            rw [show nI N - 1 = -1 from by rw [show N = 0 by omega]; decide]
            refine mz_doQ (R := mz_r128) (as := [.int (nI jxa), .int 0, .int (-1)]) (rest := []) (r1 := some (.int 0)) (m1 := mz_up w 64 1 ((w 64 1) + 1)) mz_t128 mz_v128 rfl rfl rfl rfl rfl ⟨?_, rfl⟩ ?_
            · refine mz_go 3 (c' := (if (nI jxa) < 0 then 14 else 5, [some (.int (nI jxa)), some (.int 0), some (.int (-1))], [], mz_up w 64 1 ((w 64 1) + 1))) rfl ?_
              refine mz_ifF q1 ?_
              refine mz_go 3 (c' := (if (-1) < (nI jxa) then 14 else 10, [some (.int (nI jxa)), some (.int 0), some (.int (-1))], [], mz_up w 64 1 ((w 64 1) + 1))) rfl ?_
              refine mz_ifT (show ((-1) < (nI jxa)) from (sm_m1lt rfl (show jxa < 2 ^ 31 by omega))) ?_
              refine mz_go 1 (c' := (15, [some (.int (nI jxa)), some (.int 0), some (.int (-1))], [.int 0], mz_up w 64 1 ((w 64 1) + 1))) rfl ?_
              exact mz_ret rfl
            exact mz_ret rfl
          refine mz_go 3 (c' := (19, [some (.ref 65), some (.int (nI jxa)), some (.int xb), some (.int xc), none, none], [.int 1, .ref 65], mz_up w 64 1 ((w 64 1) + 1))) rfl ?_
          refine mz_doQ (R := mz_r127) (as := [.ref 65, .int 1]) (rest := []) (r1 := some (.int (-1000001))) (m1 := mz_up (mz_up w 64 1 ((w 64 1) + 1)) 68 1 ((w 68 1) + 1)) mz_t127 mz_v127_65 rfl rfl rfl rfl rfl ⟨?_, rfl⟩ ?_
          · refine mz_go 11 (c' := (14, [some (.ref 65), some (.int 1)], [.int (-1000001)], mz_up (mz_up w 64 1 ((w 64 1) + 1)) 68 1 ((w 68 1) + 1))) rfl ?_
            exact mz_ret rfl
          exact mz_ret rfl
        · exact sm_I_scr hn hI2 (fun i hi => by
            have hne : ∀ r, sm_scr r = true → i ≠ r := fun r hr e => by
              rw [e, hr] at hi
              cases hi
            simp only [mz_up_ne (hne 64 rfl), mz_up_ne (hne 68 rfl)]) rfl rfl
      · refine ⟨(-1000001), (-1000001), mz_up w 64 1 ((w 64 1) + 1), mz_up (mz_up w 64 1 ((w 64 1) + 1)) 68 1 ((w 68 1) + 1), ⟨?_, rfl⟩, ⟨?_, rfl⟩, ?_⟩
        · refine mz_go 4 (c' := (8, [some (.ref 0), some (.int (nI jxa)), some (.int xb), some (.int xc), none], [.int (nI jxa), .ref 2], w)) rfl ?_
          refine mz_doQ (R := mz_r21) (as := [.ref 2, .int (nI jxa)]) (rest := []) (r1 := some (.int 0)) (m1 := w) mz_t21 mz_v21_2 rfl rfl rfl rfl rfl ⟨?_, rfl⟩ ?_
          · refine mz_go 2 (c' := (if (nI jxa) < 0 then 22 else 4, [some (.ref 2), some (.int (nI jxa))], [], w)) rfl ?_
            refine mz_ifF q1 ?_
            refine mz_go 3 (c' := (9, [some (.ref 2), some (.int (nI jxa))], [.int (w 2 4), .int (nI jxa)], w)) rfl ?_
            rw [h4]
            refine mz_go 1 (c' := (if (nI N) ≤ (nI jxa) then 22 else 12, [some (.ref 2), some (.int (nI jxa))], [], w)) rfl ?_
            refine mz_ifT (show ((nI N) ≤ (nI jxa)) from (sm_leN rfl rfl (show N ≤ jxa by omega) (show jxa < 2 ^ 31 by omega))) ?_
            refine mz_go 1 (c' := (23, [some (.ref 2), some (.int (nI jxa))], [.int 0], w)) rfl ?_
            exact mz_ret rfl
          refine mz_go 3 (c' := (25, [some (.ref 0), some (.int (nI jxa)), some (.int xb), some (.int xc), none], [.int 1, .ref 0], w)) rfl ?_
          refine mz_doQ (R := mz_r109) (as := [.ref 0, .int 1]) (rest := []) (r1 := some (.int (-1000001))) (m1 := mz_up w 64 1 ((w 64 1) + 1)) mz_t109 mz_v109_0 rfl rfl rfl rfl rfl ⟨?_, rfl⟩ ?_
          · refine mz_go 3 (c' := (4, [some (.ref 0), some (.int 1)], [.int 6, .int 1, .int 1], w)) rfl ?_
            refine mz_doQ (R := mz_r121) (as := [.int 1, .int 1, .int 6]) (rest := []) (r1 := some (.int 1)) (m1 := w) mz_t121 mz_v121 rfl rfl rfl rfl rfl ⟨?_, rfl⟩ ?_
            · refine mz_go 8 (c' := (15, [some (.int 1), some (.int 1), some (.int 6)], [.int 1], w)) rfl ?_
              exact mz_ret rfl
            refine mz_go 12 (c' := (25, [some (.ref 0), some (.int 1)], [.int (-1000001)], mz_up w 64 1 ((w 64 1) + 1))) rfl ?_
            exact mz_ret rfl
          exact mz_ret rfl
        · refine mz_go 2 (c' := (2, [some (.ref 65), some (.int (nI jxa)), some (.int xb), some (.int xc), none, none], [.int (nI jxa), .ref 65], mz_up w 64 1 ((w 64 1) + 1))) rfl ?_
          refine mz_doQ (R := mz_r132) (as := [.ref 65, .int (nI jxa)]) (rest := []) (r1 := some (.int 0)) (m1 := mz_up w 64 1 ((w 64 1) + 1)) mz_t132 mz_v132_65 rfl rfl rfl rfl rfl ⟨?_, rfl⟩ ?_
          · refine mz_go 6 (c' := (8, [some (.ref 65), some (.int (nI jxa))], [.int (w 66 0), .int 0, .int (nI jxa)], mz_up w 64 1 ((w 64 1) + 1))) rfl ?_
            rw [h660]
            refine mz_go 2 (c' := (10, [some (.ref 65), some (.int (nI jxa))], [.int ((nI N) - 1), .int 0, .int (nI jxa)], mz_up w 64 1 ((w 64 1) + 1))) rfl ?_
            refine mz_doQ (R := mz_r128) (as := [.int (nI jxa), .int 0, .int ((nI N) - 1)]) (rest := []) (r1 := some (.int 0)) (m1 := mz_up w 64 1 ((w 64 1) + 1)) mz_t128 mz_v128 rfl rfl rfl rfl rfl ⟨?_, rfl⟩ ?_
            · refine mz_go 3 (c' := (if (nI jxa) < 0 then 14 else 5, [some (.int (nI jxa)), some (.int 0), some (.int ((nI N) - 1))], [], mz_up w 64 1 ((w 64 1) + 1))) rfl ?_
              refine mz_ifF q1 ?_
              refine mz_go 3 (c' := (if ((nI N) - 1) < (nI jxa) then 14 else 10, [some (.int (nI jxa)), some (.int 0), some (.int ((nI N) - 1))], [], mz_up w 64 1 ((w 64 1) + 1))) rfl ?_
              refine mz_ifT (show (((nI N) - 1) < (nI jxa)) from (sm_ltN (sm_subN (a := N) (b := 1) rfl rfl (by omega)) rfl (show (N - 1) < jxa by omega) (show jxa < 2 ^ 31 by omega))) ?_
              refine mz_go 1 (c' := (15, [some (.int (nI jxa)), some (.int 0), some (.int ((nI N) - 1))], [.int 0], mz_up w 64 1 ((w 64 1) + 1))) rfl ?_
              exact mz_ret rfl
            exact mz_ret rfl
          refine mz_go 3 (c' := (19, [some (.ref 65), some (.int (nI jxa)), some (.int xb), some (.int xc), none, none], [.int 1, .ref 65], mz_up w 64 1 ((w 64 1) + 1))) rfl ?_
          refine mz_doQ (R := mz_r127) (as := [.ref 65, .int 1]) (rest := []) (r1 := some (.int (-1000001))) (m1 := mz_up (mz_up w 64 1 ((w 64 1) + 1)) 68 1 ((w 68 1) + 1)) mz_t127 mz_v127_65 rfl rfl rfl rfl rfl ⟨?_, rfl⟩ ?_
          · refine mz_go 11 (c' := (14, [some (.ref 65), some (.int 1)], [.int (-1000001)], mz_up (mz_up w 64 1 ((w 64 1) + 1)) 68 1 ((w 68 1) + 1))) rfl ?_
            exact mz_ret rfl
          exact mz_ret rfl
        · exact sm_I_scr hn hI2 (fun i hi => by
            have hne : ∀ r, sm_scr r = true → i ≠ r := fun r hr e => by
              rw [e, hr] at hi
              cases hi
            simp only [mz_up_ne (hne 64 rfl), mz_up_ne (hne 68 rfl)]) rfl rfl
    · by_cases q5 : (sm_bI (sm_in xb 0 3)) = 0
      · refine ⟨(-1000001), (-1000001), mz_up w 64 1 ((w 64 1) + 1), mz_up (mz_up w 64 1 ((w 64 1) + 1)) 68 1 ((w 68 1) + 1), ⟨?_, rfl⟩, ⟨?_, rfl⟩, ?_⟩
        · refine mz_go 4 (c' := (8, [some (.ref 0), some (.int (nI jxa)), some (.int xb), some (.int xc), none], [.int (nI jxa), .ref 2], w)) rfl ?_
          refine mz_doQ (R := mz_r21) (as := [.ref 2, .int (nI jxa)]) (rest := []) (r1 := some (.int 1)) (m1 := w) mz_t21 mz_v21_2 rfl rfl rfl rfl rfl ((cs_has hN (m := w) h4 (show jxa < N by omega)).deep (by decide)) ?_
          refine mz_go 4 (c' := (17, [some (.ref 0), some (.int (nI jxa)), some (.int xb), some (.int xc), none], [.int 3, .int 0, .int xb], w)) rfl ?_
          refine mz_doQ (R := mz_r121) (as := [.int xb, .int 0, .int 3]) (rest := []) (r1 := some (.int (sm_bI (sm_in xb 0 3)))) (m1 := w) mz_t121 mz_v121 rfl rfl rfl rfl rfl ((cs_in (m := w) xb 0 3).deep (by decide)) ?_
          refine mz_go 1 (c' := (if (sm_bI (sm_in xb 0 3)) = 0 then 23 else 29, [some (.ref 0), some (.int (nI jxa)), some (.int xb), some (.int xc), none], [], w)) rfl ?_
          refine mz_ifT q5 ?_
          refine mz_go 2 (c' := (25, [some (.ref 0), some (.int (nI jxa)), some (.int xb), some (.int xc), none], [.int 1, .ref 0], w)) rfl ?_
          refine mz_doQ (R := mz_r109) (as := [.ref 0, .int 1]) (rest := []) (r1 := some (.int (-1000001))) (m1 := mz_up w 64 1 ((w 64 1) + 1)) mz_t109 mz_v109_0 rfl rfl rfl rfl rfl ⟨?_, rfl⟩ ?_
          · refine mz_go 3 (c' := (4, [some (.ref 0), some (.int 1)], [.int 6, .int 1, .int 1], w)) rfl ?_
            refine mz_doQ (R := mz_r121) (as := [.int 1, .int 1, .int 6]) (rest := []) (r1 := some (.int 1)) (m1 := w) mz_t121 mz_v121 rfl rfl rfl rfl rfl ⟨?_, rfl⟩ ?_
            · refine mz_go 8 (c' := (15, [some (.int 1), some (.int 1), some (.int 6)], [.int 1], w)) rfl ?_
              exact mz_ret rfl
            refine mz_go 12 (c' := (25, [some (.ref 0), some (.int 1)], [.int (-1000001)], mz_up w 64 1 ((w 64 1) + 1))) rfl ?_
            exact mz_ret rfl
          exact mz_ret rfl
        · refine mz_go 2 (c' := (2, [some (.ref 65), some (.int (nI jxa)), some (.int xb), some (.int xc), none, none], [.int (nI jxa), .ref 65], mz_up w 64 1 ((w 64 1) + 1))) rfl ?_
          refine mz_doQ (R := mz_r132) (as := [.ref 65, .int (nI jxa)]) (rest := []) (r1 := some (.int 1)) (m1 := mz_up w 64 1 ((w 64 1) + 1)) mz_t132 mz_v132_65 rfl rfl rfl rfl rfl ⟨?_, rfl⟩ ?_
          · refine mz_go 6 (c' := (8, [some (.ref 65), some (.int (nI jxa))], [.int (w 66 0), .int 0, .int (nI jxa)], mz_up w 64 1 ((w 64 1) + 1))) rfl ?_
            rw [h660]
            refine mz_go 2 (c' := (10, [some (.ref 65), some (.int (nI jxa))], [.int ((nI N) - 1), .int 0, .int (nI jxa)], mz_up w 64 1 ((w 64 1) + 1))) rfl ?_
            refine mz_doQ (R := mz_r128) (as := [.int (nI jxa), .int 0, .int ((nI N) - 1)]) (rest := []) (r1 := some (.int 1)) (m1 := mz_up w 64 1 ((w 64 1) + 1)) mz_t128 mz_v128 rfl rfl rfl rfl rfl ⟨?_, rfl⟩ ?_
            · refine mz_go 3 (c' := (if (nI jxa) < 0 then 14 else 5, [some (.int (nI jxa)), some (.int 0), some (.int ((nI N) - 1))], [], mz_up w 64 1 ((w 64 1) + 1))) rfl ?_
              refine mz_ifF q1 ?_
              refine mz_go 3 (c' := (if ((nI N) - 1) < (nI jxa) then 14 else 10, [some (.int (nI jxa)), some (.int 0), some (.int ((nI N) - 1))], [], mz_up w 64 1 ((w 64 1) + 1))) rfl ?_
              refine mz_ifF (show ¬ (((nI N) - 1) < (nI jxa)) from (sm_nltN (sm_subN (a := N) (b := 1) rfl rfl (by omega)) rfl (show jxa ≤ (N - 1) by omega) (show (N - 1) < 2 ^ 31 by omega))) ?_
              refine mz_go 2 (c' := (15, [some (.int (nI jxa)), some (.int 0), some (.int ((nI N) - 1))], [.int 1], mz_up w 64 1 ((w 64 1) + 1))) rfl ?_
              exact mz_ret rfl
            exact mz_ret rfl
          refine mz_go 4 (c' := (11, [some (.ref 65), some (.int (nI jxa)), some (.int xb), some (.int xc), none, none], [.int 3, .int 0, .int xb], mz_up w 64 1 ((w 64 1) + 1))) rfl ?_
          refine mz_doQ (R := mz_r128) (as := [.int xb, .int 0, .int 3]) (rest := []) (r1 := some (.int (sm_bI (sm_in xb 0 3)))) (m1 := mz_up w 64 1 ((w 64 1) + 1)) mz_t128 mz_v128 rfl rfl rfl rfl rfl ((ct_in (m := mz_up w 64 1 ((w 64 1) + 1)) xb 0 3).deep (by decide)) ?_
          refine mz_go 1 (c' := (if (sm_bI (sm_in xb 0 3)) = 0 then 17 else 23, [some (.ref 65), some (.int (nI jxa)), some (.int xb), some (.int xc), none, none], [], mz_up w 64 1 ((w 64 1) + 1))) rfl ?_
          refine mz_ifT q5 ?_
          refine mz_go 2 (c' := (19, [some (.ref 65), some (.int (nI jxa)), some (.int xb), some (.int xc), none, none], [.int 1, .ref 65], mz_up w 64 1 ((w 64 1) + 1))) rfl ?_
          refine mz_doQ (R := mz_r127) (as := [.ref 65, .int 1]) (rest := []) (r1 := some (.int (-1000001))) (m1 := mz_up (mz_up w 64 1 ((w 64 1) + 1)) 68 1 ((w 68 1) + 1)) mz_t127 mz_v127_65 rfl rfl rfl rfl rfl ⟨?_, rfl⟩ ?_
          · refine mz_go 11 (c' := (14, [some (.ref 65), some (.int 1)], [.int (-1000001)], mz_up (mz_up w 64 1 ((w 64 1) + 1)) 68 1 ((w 68 1) + 1))) rfl ?_
            exact mz_ret rfl
          exact mz_ret rfl
        · exact sm_I_scr hn hI2 (fun i hi => by
            have hne : ∀ r, sm_scr r = true → i ≠ r := fun r hr e => by
              rw [e, hr] at hi
              cases hi
            simp only [mz_up_ne (hne 64 rfl), mz_up_ne (hne 68 rfl)]) rfl rfl
      · have hl6 : (0 : Int) ≤ (xb).toInt := Int32.le_iff_toInt_le.mp (Int32.not_lt.mp (sm_in_lo q5))
        have hu6 : (xb).toInt ≤ (3 : Int) := Int32.le_iff_toInt_le.mp (Int32.not_lt.mp (sm_in_hi q5))
        obtain rfl | rfl | rfl | rfl : xb = 0 ∨ xb = 1 ∨ xb = 2 ∨ xb = 3 := by
          rcases (show xb.toInt = 0 ∨ xb.toInt = 1 ∨ xb.toInt = 2 ∨ xb.toInt = 3 by omega) with h | h | h | h
          · exact (Or.inl (Int32.toInt_inj.mp h))
          · exact (Or.inr (Or.inl (Int32.toInt_inj.mp h)))
          · exact (Or.inr (Or.inr (Or.inl (Int32.toInt_inj.mp h))))
          · exact (Or.inr (Or.inr (Or.inr (Int32.toInt_inj.mp h))))
        · obtain ⟨cc, hcc, ekk⟩ := sm_Nof (by decide) (hpb jxa (by omega)).1
          have hve1 : mz_up (mz_up (mz_up (mz_up (mz_up w 57 2 0) 57 4 0) 57 5 (w 3 jxa)) 57 6 (nI jxa)) 57 7 (w 6 jxa) = mz_set (mz_set (w) 57 ((mz_up (mz_up (mz_up (mz_up (mz_up w 57 2 0) 57 4 0) 57 5 (w 3 jxa)) 57 6 (nI jxa)) 57 7 (w 6 jxa)) 57)) 59 ((w) 59) := sm_of2 (fun i h1 h2 => by simp only [mz_up_ne h1])
          obtain ⟨ve1, re1, ge1, Ee1, We1⟩ := vs0_0_any (m := w) (r := ((mz_up (mz_up (mz_up (mz_up (mz_up w 57 2 0) 57 4 0) 57 5 (w 3 jxa)) 57 6 (nI jxa)) 57 7 (w 6 jxa)) 57)) (g := (w) 59) ⟨⟨0, by decide, rfl⟩, Or.inl rfl⟩ hcc ekk (f := cc) hcc xc (dd := 0) (d := 0) rfl (by decide)
          rw [← hve1, ← ekk] at Ee1
          obtain ⟨⟨⟨Be1, hBe1, be1⟩, pe1⟩, Ke1⟩ := We1
          by_cases q7 : (re1 2) = 0
          · have hve2 : mz_up (mz_up (mz_up (mz_up (mz_cp (mz_set (mz_set w 57 re1) 59 ge1) 58 59 0 0 30) 57 1 (nI Be1)) 65 19 0) 65 20 (nI jxa)) 65 21 0 = mz_set (mz_set (mz_up (mz_cp (mz_set (mz_set w 57 re1) 59 ge1) 58 59 0 0 30) 57 1 (nI Be1)) 65 ((mz_up (mz_up (mz_up (mz_up (mz_cp (mz_set (mz_set w 57 re1) 59 ge1) 58 59 0 0 30) 57 1 (nI Be1)) 65 19 0) 65 20 (nI jxa)) 65 21 0) 65)) 74 ((mz_up (mz_cp (mz_set (mz_set w 57 re1) 59 ge1) 58 59 0 0 30) 57 1 (nI Be1)) 74) := sm_of2 (fun i h1 h2 => by simp only [mz_up_ne h1])
            obtain ⟨ve2, re2, ge2, Ee2, We2⟩ := vs1_0_any (m := mz_up (mz_cp (mz_set (mz_set w 57 re1) 59 ge1) 58 59 0 0 30) 57 1 (nI Be1)) (w := w) hr2 (r := ((mz_up (mz_up (mz_up (mz_up (mz_cp (mz_set (mz_set w 57 re1) 59 ge1) 58 59 0 0 30) 57 1 (nI Be1)) 65 19 0) 65 20 (nI jxa)) 65 21 0) 65)) (g := (mz_up (mz_cp (mz_set (mz_set w 57 re1) 59 ge1) 58 59 0 0 30) 57 1 (nI Be1)) 74) ⟨⟨0, by decide, rfl⟩, Or.inl rfl⟩ (j := jxa) (by omega) ekk hcc rfl (f := cc) hcc xc
            rw [← hve2, ← ekk] at Ee2
            obtain ⟨⟨⟨Be2, hBe2, be2⟩, pe2⟩, Ke2⟩ := We2
            by_cases q8 : (re2 21) = 0
            · refine ⟨ve1, ve2, mz_up (mz_cp (mz_set (mz_set w 57 re1) 59 ge1) 58 59 0 0 30) 57 1 (nI Be1), mz_set (mz_set (mz_up (mz_cp (mz_set (mz_set w 57 re1) 59 ge1) 58 59 0 0 30) 57 1 (nI Be1)) 65 re2) 74 ge2, ⟨?_, rfl⟩, ⟨?_, rfl⟩, ?_⟩
              · refine mz_go 4 (c' := (8, [some (.ref 0), some (.int (nI jxa)), some (.int 0), some (.int xc), none], [.int (nI jxa), .ref 2], w)) rfl ?_
                refine mz_doQ (R := mz_r21) (as := [.ref 2, .int (nI jxa)]) (rest := []) (r1 := some (.int 1)) (m1 := w) mz_t21 mz_v21_2 rfl rfl rfl rfl rfl ((cs_has hN (m := w) h4 (show jxa < N by omega)).deep (by decide)) ?_
                refine mz_go 4 (c' := (17, [some (.ref 0), some (.int (nI jxa)), some (.int 0), some (.int xc), none], [.int 3, .int 0, .int 0], w)) rfl ?_
                refine mz_doQ (R := mz_r121) (as := [.int 0, .int 0, .int 3]) (rest := []) (r1 := some (.int 1)) (m1 := w) mz_t121 mz_v121 rfl rfl rfl rfl rfl ⟨?_, rfl⟩ ?_
                · refine mz_go 8 (c' := (15, [some (.int 0), some (.int 0), some (.int 3)], [.int 1], w)) rfl ?_
                  exact mz_ret rfl
                refine mz_go 9 (c' := (43, [some (.ref 0), some (.int (nI jxa)), some (.int 0), some (.int xc), none], [.int xc, .int 0, .int (nI jxa), .ref 2, .ref 57], w)) rfl ?_
                refine mz_doQ (R := mz_r60) (as := [.ref 57, .ref 2, .int (nI jxa), .int 0, .int xc]) (rest := []) (r1 := some (.int ve1)) (m1 := mz_set (mz_set w 57 re1) 59 ge1) mz_t60 mz_v60_57 rfl rfl rfl rfl rfl ⟨?_, rfl⟩ ?_
                · refine mz_go 8 (c' := (12, [some (.ref 57), some (.ref 2), some (.int (nI jxa)), some (.int 0), some (.int xc)], [.int (nI jxa), .ref 2], mz_up (mz_up w 57 2 0) 57 4 0)) rfl ?_
                  refine mz_doQ (R := mz_r21) (as := [.ref 2, .int (nI jxa)]) (rest := []) (r1 := some (.int 1)) (m1 := mz_up (mz_up w 57 2 0) 57 4 0) mz_t21 mz_v21_2 rfl rfl rfl rfl rfl ((cs_has hN (m := mz_up (mz_up w 57 2 0) 57 4 0) h4 (show jxa < N by omega)).deep (by decide)) ?_
                  refine mz_go 5 (c' := (26, [some (.ref 57), some (.ref 2), some (.int (nI jxa)), some (.int 0), some (.int xc)], [.int (nI jxa), .ref 3, .ref 57], mz_up (mz_up w 57 2 0) 57 4 0)) rfl ?_
                  refine mz_arr (c' := (27, [some (.ref 57), some (.ref 2), some (.int (nI jxa)), some (.int 0), some (.int xc)], [.int (w 3 ((nI jxa).toNatClampNeg)), .ref 57], mz_up (mz_up w 57 2 0) 57 4 0)) rfl (show mz_in (nI jxa) 6 = true from sm_inN rfl (show jxa < 6 by omega) (by decide)) ?_
                  rw [show (nI jxa : Int32).toNatClampNeg = jxa from sm_clN rfl (show jxa < 2 ^ 31 by omega)]
                  refine mz_go 8 (c' := (41, [some (.ref 57), some (.ref 2), some (.int (nI jxa)), some (.int 0), some (.int xc)], [.int (nI jxa), .ref 6, .ref 57], mz_up (mz_up (mz_up (mz_up w 57 2 0) 57 4 0) 57 5 (w 3 jxa)) 57 6 (nI jxa))) rfl ?_
                  refine mz_arr (c' := (42, [some (.ref 57), some (.ref 2), some (.int (nI jxa)), some (.int 0), some (.int xc)], [.int (w 6 ((nI jxa).toNatClampNeg)), .ref 57], mz_up (mz_up (mz_up (mz_up w 57 2 0) 57 4 0) 57 5 (w 3 jxa)) 57 6 (nI jxa))) rfl (show mz_in (nI jxa) 6 = true from sm_inN rfl (show jxa < 6 by omega) (by decide)) ?_
                  rw [show (nI jxa : Int32).toNatClampNeg = jxa from sm_clN rfl (show jxa < 2 ^ 31 by omega)]
                  refine mz_go 7 (c' := (54, [some (.ref 57), some (.ref 2), some (.int (nI jxa)), some (.int 0), some (.int xc)], [.int 0, .int xc, .int (w 3 jxa), .int 0, .ref 57], mz_up (mz_up (mz_up (mz_up (mz_up w 57 2 0) 57 4 0) 57 5 (w 3 jxa)) 57 6 (nI jxa)) 57 7 (w 6 jxa))) rfl ?_
                  refine mz_doQ (R := mz_r62) (as := [.ref 57, .int 0, .int (w 3 jxa), .int xc, .int 0]) (rest := []) (r1 := some (.int ve1)) (m1 := mz_set (mz_set w 57 re1) 59 ge1) mz_t62 mz_v62_57 rfl rfl rfl rfl rfl (Ee1.deep (by decide)) ?_
                  exact mz_ret rfl
                refine mz_go 5 (c' := (if (re1 2) = 0 then 65 else 58, [some (.ref 0), some (.int (nI jxa)), some (.int 0), some (.int xc), some (.int ve1)], [], mz_set (mz_set w 57 re1) 59 ge1)) rfl ?_
                refine mz_ifT q7 ?_
                refine mz_go 2 (c' := (69, [some (.ref 0), some (.int (nI jxa)), some (.int 0), some (.int xc), some (.int ve1)], [.ref 57], mz_set (mz_set w 57 re1) 59 ge1)) rfl ?_
                refine mz_doQ (R := mz_r61) (as := [.ref 57]) (rest := []) (r1 := none) (m1 := mz_up (mz_cp (mz_set (mz_set w 57 re1) 59 ge1) 58 59 0 0 30) 57 1 (nI Be1)) mz_t61 mz_v61_57 rfl rfl rfl rfl rfl ⟨?_, rfl⟩ ?_
                · refine mz_go 4 (c' := (8, [some (.ref 57)], [.ref 58, .ref 59], mz_set (mz_set w 57 re1) 59 ge1)) rfl ?_
                  refine mz_doQ (R := mz_r126) (as := [.ref 59, .ref 58]) (rest := []) (r1 := none) (m1 := mz_cp (mz_set (mz_set w 57 re1) 59 ge1) 58 59 0 0 30) mz_t126 mz_v126_59 rfl rfl rfl rfl rfl ⟨?_, rfl⟩ ?_
                  · refine mz_go 10 (c' := (14, [some (.ref 59), some (.ref 58)], [], mz_cp (mz_set (mz_set w 57 re1) 59 ge1) 58 59 0 0 30)) rfl ?_
                    exact mz_ret rfl
                  refine mz_go 3 (c' := (16, [some (.ref 57)], [.int (re1 4), .ref 57], mz_cp (mz_set (mz_set w 57 re1) 59 ge1) 58 59 0 0 30)) rfl ?_
                  rw [be1]
                  refine mz_go 1 (c' := (19, [some (.ref 57)], [], mz_up (mz_cp (mz_set (mz_set w 57 re1) 59 ge1) 58 59 0 0 30) 57 1 (nI Be1))) rfl ?_
                  exact mz_ret rfl
                refine mz_go 1 (c' := (74, [some (.ref 0), some (.int (nI jxa)), some (.int 0), some (.int xc), some (.int ve1)], [.int ve1], mz_up (mz_cp (mz_set (mz_set w 57 re1) 59 ge1) 58 59 0 0 30) 57 1 (nI Be1))) rfl ?_
                exact mz_ret rfl
              · refine mz_go 2 (c' := (2, [some (.ref 65), some (.int (nI jxa)), some (.int 0), some (.int xc), none, none], [.int (nI jxa), .ref 65], mz_up (mz_cp (mz_set (mz_set w 57 re1) 59 ge1) 58 59 0 0 30) 57 1 (nI Be1))) rfl ?_
                refine mz_doQ (R := mz_r132) (as := [.ref 65, .int (nI jxa)]) (rest := []) (r1 := some (.int 1)) (m1 := mz_up (mz_cp (mz_set (mz_set w 57 re1) 59 ge1) 58 59 0 0 30) 57 1 (nI Be1)) mz_t132 mz_v132_65 rfl rfl rfl rfl rfl ⟨?_, rfl⟩ ?_
                · refine mz_go 6 (c' := (8, [some (.ref 65), some (.int (nI jxa))], [.int (w 66 0), .int 0, .int (nI jxa)], mz_up (mz_cp (mz_set (mz_set w 57 re1) 59 ge1) 58 59 0 0 30) 57 1 (nI Be1))) rfl ?_
                  rw [h660]
                  refine mz_go 2 (c' := (10, [some (.ref 65), some (.int (nI jxa))], [.int ((nI N) - 1), .int 0, .int (nI jxa)], mz_up (mz_cp (mz_set (mz_set w 57 re1) 59 ge1) 58 59 0 0 30) 57 1 (nI Be1))) rfl ?_
                  refine mz_doQ (R := mz_r128) (as := [.int (nI jxa), .int 0, .int ((nI N) - 1)]) (rest := []) (r1 := some (.int 1)) (m1 := mz_up (mz_cp (mz_set (mz_set w 57 re1) 59 ge1) 58 59 0 0 30) 57 1 (nI Be1)) mz_t128 mz_v128 rfl rfl rfl rfl rfl ⟨?_, rfl⟩ ?_
                  · refine mz_go 3 (c' := (if (nI jxa) < 0 then 14 else 5, [some (.int (nI jxa)), some (.int 0), some (.int ((nI N) - 1))], [], mz_up (mz_cp (mz_set (mz_set w 57 re1) 59 ge1) 58 59 0 0 30) 57 1 (nI Be1))) rfl ?_
                    refine mz_ifF q1 ?_
                    refine mz_go 3 (c' := (if ((nI N) - 1) < (nI jxa) then 14 else 10, [some (.int (nI jxa)), some (.int 0), some (.int ((nI N) - 1))], [], mz_up (mz_cp (mz_set (mz_set w 57 re1) 59 ge1) 58 59 0 0 30) 57 1 (nI Be1))) rfl ?_
                    refine mz_ifF (show ¬ (((nI N) - 1) < (nI jxa)) from (sm_nltN (sm_subN (a := N) (b := 1) rfl rfl (by omega)) rfl (show jxa ≤ (N - 1) by omega) (show (N - 1) < 2 ^ 31 by omega))) ?_
                    refine mz_go 2 (c' := (15, [some (.int (nI jxa)), some (.int 0), some (.int ((nI N) - 1))], [.int 1], mz_up (mz_cp (mz_set (mz_set w 57 re1) 59 ge1) 58 59 0 0 30) 57 1 (nI Be1))) rfl ?_
                    exact mz_ret rfl
                  exact mz_ret rfl
                refine mz_go 4 (c' := (11, [some (.ref 65), some (.int (nI jxa)), some (.int 0), some (.int xc), none, none], [.int 3, .int 0, .int 0], mz_up (mz_cp (mz_set (mz_set w 57 re1) 59 ge1) 58 59 0 0 30) 57 1 (nI Be1))) rfl ?_
                refine mz_doQ (R := mz_r128) (as := [.int 0, .int 0, .int 3]) (rest := []) (r1 := some (.int 1)) (m1 := mz_up (mz_cp (mz_set (mz_set w 57 re1) 59 ge1) 58 59 0 0 30) 57 1 (nI Be1)) mz_t128 mz_v128 rfl rfl rfl rfl rfl ⟨?_, rfl⟩ ?_
                · refine mz_go 8 (c' := (15, [some (.int 0), some (.int 0), some (.int 3)], [.int 1], mz_up (mz_cp (mz_set (mz_set w 57 re1) 59 ge1) 58 59 0 0 30) 57 1 (nI Be1))) rfl ?_
                  exact mz_ret rfl
                refine mz_go 11 (c' := (39, [some (.ref 65), some (.int (nI jxa)), some (.int 0), some (.int xc), none, none], [.ref 65], mz_up (mz_up (mz_up (mz_up (mz_cp (mz_set (mz_set w 57 re1) 59 ge1) 58 59 0 0 30) 57 1 (nI Be1)) 65 19 0) 65 20 (nI jxa)) 65 21 0)) rfl ?_
                refine mz_doQ (R := mz_r211) (as := [.ref 65]) (rest := []) (r1 := some (.int (w 3 jxa))) (m1 := mz_up (mz_up (mz_up (mz_up (mz_cp (mz_set (mz_set w 57 re1) 59 ge1) 58 59 0 0 30) 57 1 (nI Be1)) 65 19 0) 65 20 (nI jxa)) 65 21 0) mz_t211 mz_v211_65 rfl rfl rfl rfl rfl ⟨?_, rfl⟩ ?_
                · refine mz_go 4 (c' := (6, [some (.ref 65)], [.int 0, .int (nI jxa), .ref 65], mz_up (mz_up (mz_up (mz_up (mz_cp (mz_set (mz_set w 57 re1) 59 ge1) 58 59 0 0 30) 57 1 (nI Be1)) 65 19 0) 65 20 (nI jxa)) 65 21 0)) rfl ?_
                  refine mz_doQ (R := mz_r133) (as := [.ref 65, .int (nI jxa), .int 0]) (rest := []) (r1 := some (.int (w 3 jxa))) (m1 := mz_up (mz_up (mz_up (mz_up (mz_cp (mz_set (mz_set w 57 re1) 59 ge1) 58 59 0 0 30) 57 1 (nI Be1)) 65 19 0) 65 20 (nI jxa)) 65 21 0) mz_t133 mz_v133_65 rfl rfl rfl rfl rfl ⟨?_, rfl⟩ ?_
                  · refine mz_go 9 (c' := (12, [some (.ref 65), some (.int (nI jxa)), some (.int 0)], [.int ((30 + (4 * (nI jxa))) + 0), .ref 66], mz_up (mz_up (mz_up (mz_up (mz_cp (mz_set (mz_set w 57 re1) 59 ge1) 58 59 0 0 30) 57 1 (nI Be1)) 65 19 0) 65 20 (nI jxa)) 65 21 0)) rfl ?_
                    refine mz_arr (c' := (13, [some (.ref 65), some (.int (nI jxa)), some (.int 0)], [.int (w 66 (((30 + (4 * (nI jxa))) + 0).toNatClampNeg))], mz_up (mz_up (mz_up (mz_up (mz_cp (mz_set (mz_set w 57 re1) 59 ge1) 58 59 0 0 30) 57 1 (nI Be1)) 65 19 0) 65 20 (nI jxa)) 65 21 0)) rfl (show mz_in ((30 + (4 * (nI jxa))) + 0) 650 = true from sm_inN (sm_addN (sm_addN rfl (sm_mulN rfl rfl)) rfl) (show ((30 + (4 * jxa)) + 0) < 650 by omega) (by decide)) ?_
                    rw [show ((30 + (4 * (nI jxa))) + 0 : Int32).toNatClampNeg = ((30 + (4 * jxa)) + 0) from sm_clN (sm_addN (sm_addN rfl (sm_mulN rfl rfl)) rfl) (show ((30 + (4 * jxa)) + 0) < 2 ^ 31 by omega)]
                    rw [show w 66 ((30 + (4 * jxa)) + 0) = w 3 jxa from (hr2.2.1 jxa (by omega)).1]
                    exact mz_ret rfl
                  exact mz_ret rfl
                refine mz_go 6 (c' := (52, [some (.ref 65), some (.int (nI jxa)), some (.int 0), some (.int xc), some (.int (w 3 jxa)), none], [.int xc, .int (w 3 jxa), .ref 65], mz_up (mz_up (mz_up (mz_up (mz_cp (mz_set (mz_set w 57 re1) 59 ge1) 58 59 0 0 30) 57 1 (nI Be1)) 65 19 0) 65 20 (nI jxa)) 65 21 0)) rfl ?_
                refine mz_doQ (R := mz_r213) (as := [.ref 65, .int (w 3 jxa), .int xc]) (rest := []) (r1 := some (.int ve2)) (m1 := mz_set (mz_set (mz_up (mz_cp (mz_set (mz_set w 57 re1) 59 ge1) 58 59 0 0 30) 57 1 (nI Be1)) 65 re2) 74 ge2) mz_t213 mz_v213_65 rfl rfl rfl rfl rfl (Ee2.deep (by decide)) ?_
                refine mz_go 5 (c' := (if (re2 21) = 0 then 113 else 104, [some (.ref 65), some (.int (nI jxa)), some (.int 0), some (.int xc), some (.int (w 3 jxa)), some (.int ve2)], [], mz_set (mz_set (mz_up (mz_cp (mz_set (mz_set w 57 re1) 59 ge1) 58 59 0 0 30) 57 1 (nI Be1)) 65 re2) 74 ge2)) rfl ?_
                refine mz_ifT q8 ?_
                refine mz_go 1 (c' := (115, [some (.ref 65), some (.int (nI jxa)), some (.int 0), some (.int xc), some (.int (w 3 jxa)), some (.int ve2)], [.int ve2], mz_set (mz_set (mz_up (mz_cp (mz_set (mz_set w 57 re1) 59 ge1) 58 59 0 0 30) 57 1 (nI Be1)) 65 re2) 74 ge2)) rfl ?_
                exact mz_ret rfl
              · exact sm_I_tr hn hI2 (fun i hi h1 => by
                  have hne : ∀ r, sm_scr r = true → i ≠ r := fun r hr e => by
                    rw [e, hr] at hi
                    cases hi
                  simp only [mz_cp_ne (hne 58 rfl), mz_set_ne (hne 59 rfl), mz_set_ne (hne 65 rfl), mz_set_ne (hne 74 rfl), mz_set_ne h1, mz_up_ne h1]) (show (mz_set (mz_set (mz_up (mz_cp (mz_set (mz_set w 57 re1) 59 ge1) 58 59 0 0 30) 57 1 (nI Be1)) 65 re2) 74 ge2) 65 2 = w 65 2 from Ke2 2 (by decide) (by decide)) ⟨(sm_Nto (n := 30) (k := Be1) (by decide) (by omega)), (by rw [show (mz_set (mz_set (mz_up (mz_cp (mz_set (mz_set w 57 re1) 59 ge1) 58 59 0 0 30) 57 1 (nI Be1)) 65 re2) 74 ge2) 65 19 = nI Be2 from be2]; exact sm_Nto (n := 30) (by decide) hBe2)⟩
            · refine ⟨ve1, (-1000006), mz_up (mz_cp (mz_set (mz_set w 57 re1) 59 ge1) 58 59 0 0 30) 57 1 (nI Be1), mz_up (mz_set (mz_set (mz_up (mz_cp (mz_set (mz_set w 57 re1) 59 ge1) 58 59 0 0 30) 57 1 (nI Be1)) 65 re2) 74 ge2) 68 6 ((w 68 6) + 1), ⟨?_, rfl⟩, ⟨?_, rfl⟩, ?_⟩
              · refine mz_go 4 (c' := (8, [some (.ref 0), some (.int (nI jxa)), some (.int 0), some (.int xc), none], [.int (nI jxa), .ref 2], w)) rfl ?_
                refine mz_doQ (R := mz_r21) (as := [.ref 2, .int (nI jxa)]) (rest := []) (r1 := some (.int 1)) (m1 := w) mz_t21 mz_v21_2 rfl rfl rfl rfl rfl ((cs_has hN (m := w) h4 (show jxa < N by omega)).deep (by decide)) ?_
                refine mz_go 4 (c' := (17, [some (.ref 0), some (.int (nI jxa)), some (.int 0), some (.int xc), none], [.int 3, .int 0, .int 0], w)) rfl ?_
                refine mz_doQ (R := mz_r121) (as := [.int 0, .int 0, .int 3]) (rest := []) (r1 := some (.int 1)) (m1 := w) mz_t121 mz_v121 rfl rfl rfl rfl rfl ⟨?_, rfl⟩ ?_
                · refine mz_go 8 (c' := (15, [some (.int 0), some (.int 0), some (.int 3)], [.int 1], w)) rfl ?_
                  exact mz_ret rfl
                refine mz_go 9 (c' := (43, [some (.ref 0), some (.int (nI jxa)), some (.int 0), some (.int xc), none], [.int xc, .int 0, .int (nI jxa), .ref 2, .ref 57], w)) rfl ?_
                refine mz_doQ (R := mz_r60) (as := [.ref 57, .ref 2, .int (nI jxa), .int 0, .int xc]) (rest := []) (r1 := some (.int ve1)) (m1 := mz_set (mz_set w 57 re1) 59 ge1) mz_t60 mz_v60_57 rfl rfl rfl rfl rfl ⟨?_, rfl⟩ ?_
                · refine mz_go 8 (c' := (12, [some (.ref 57), some (.ref 2), some (.int (nI jxa)), some (.int 0), some (.int xc)], [.int (nI jxa), .ref 2], mz_up (mz_up w 57 2 0) 57 4 0)) rfl ?_
                  refine mz_doQ (R := mz_r21) (as := [.ref 2, .int (nI jxa)]) (rest := []) (r1 := some (.int 1)) (m1 := mz_up (mz_up w 57 2 0) 57 4 0) mz_t21 mz_v21_2 rfl rfl rfl rfl rfl ((cs_has hN (m := mz_up (mz_up w 57 2 0) 57 4 0) h4 (show jxa < N by omega)).deep (by decide)) ?_
                  refine mz_go 5 (c' := (26, [some (.ref 57), some (.ref 2), some (.int (nI jxa)), some (.int 0), some (.int xc)], [.int (nI jxa), .ref 3, .ref 57], mz_up (mz_up w 57 2 0) 57 4 0)) rfl ?_
                  refine mz_arr (c' := (27, [some (.ref 57), some (.ref 2), some (.int (nI jxa)), some (.int 0), some (.int xc)], [.int (w 3 ((nI jxa).toNatClampNeg)), .ref 57], mz_up (mz_up w 57 2 0) 57 4 0)) rfl (show mz_in (nI jxa) 6 = true from sm_inN rfl (show jxa < 6 by omega) (by decide)) ?_
                  rw [show (nI jxa : Int32).toNatClampNeg = jxa from sm_clN rfl (show jxa < 2 ^ 31 by omega)]
                  refine mz_go 8 (c' := (41, [some (.ref 57), some (.ref 2), some (.int (nI jxa)), some (.int 0), some (.int xc)], [.int (nI jxa), .ref 6, .ref 57], mz_up (mz_up (mz_up (mz_up w 57 2 0) 57 4 0) 57 5 (w 3 jxa)) 57 6 (nI jxa))) rfl ?_
                  refine mz_arr (c' := (42, [some (.ref 57), some (.ref 2), some (.int (nI jxa)), some (.int 0), some (.int xc)], [.int (w 6 ((nI jxa).toNatClampNeg)), .ref 57], mz_up (mz_up (mz_up (mz_up w 57 2 0) 57 4 0) 57 5 (w 3 jxa)) 57 6 (nI jxa))) rfl (show mz_in (nI jxa) 6 = true from sm_inN rfl (show jxa < 6 by omega) (by decide)) ?_
                  rw [show (nI jxa : Int32).toNatClampNeg = jxa from sm_clN rfl (show jxa < 2 ^ 31 by omega)]
                  refine mz_go 7 (c' := (54, [some (.ref 57), some (.ref 2), some (.int (nI jxa)), some (.int 0), some (.int xc)], [.int 0, .int xc, .int (w 3 jxa), .int 0, .ref 57], mz_up (mz_up (mz_up (mz_up (mz_up w 57 2 0) 57 4 0) 57 5 (w 3 jxa)) 57 6 (nI jxa)) 57 7 (w 6 jxa))) rfl ?_
                  refine mz_doQ (R := mz_r62) (as := [.ref 57, .int 0, .int (w 3 jxa), .int xc, .int 0]) (rest := []) (r1 := some (.int ve1)) (m1 := mz_set (mz_set w 57 re1) 59 ge1) mz_t62 mz_v62_57 rfl rfl rfl rfl rfl (Ee1.deep (by decide)) ?_
                  exact mz_ret rfl
                refine mz_go 5 (c' := (if (re1 2) = 0 then 65 else 58, [some (.ref 0), some (.int (nI jxa)), some (.int 0), some (.int xc), some (.int ve1)], [], mz_set (mz_set w 57 re1) 59 ge1)) rfl ?_
                refine mz_ifT q7 ?_
                refine mz_go 2 (c' := (69, [some (.ref 0), some (.int (nI jxa)), some (.int 0), some (.int xc), some (.int ve1)], [.ref 57], mz_set (mz_set w 57 re1) 59 ge1)) rfl ?_
                refine mz_doQ (R := mz_r61) (as := [.ref 57]) (rest := []) (r1 := none) (m1 := mz_up (mz_cp (mz_set (mz_set w 57 re1) 59 ge1) 58 59 0 0 30) 57 1 (nI Be1)) mz_t61 mz_v61_57 rfl rfl rfl rfl rfl ⟨?_, rfl⟩ ?_
                · refine mz_go 4 (c' := (8, [some (.ref 57)], [.ref 58, .ref 59], mz_set (mz_set w 57 re1) 59 ge1)) rfl ?_
                  refine mz_doQ (R := mz_r126) (as := [.ref 59, .ref 58]) (rest := []) (r1 := none) (m1 := mz_cp (mz_set (mz_set w 57 re1) 59 ge1) 58 59 0 0 30) mz_t126 mz_v126_59 rfl rfl rfl rfl rfl ⟨?_, rfl⟩ ?_
                  · refine mz_go 10 (c' := (14, [some (.ref 59), some (.ref 58)], [], mz_cp (mz_set (mz_set w 57 re1) 59 ge1) 58 59 0 0 30)) rfl ?_
                    exact mz_ret rfl
                  refine mz_go 3 (c' := (16, [some (.ref 57)], [.int (re1 4), .ref 57], mz_cp (mz_set (mz_set w 57 re1) 59 ge1) 58 59 0 0 30)) rfl ?_
                  rw [be1]
                  refine mz_go 1 (c' := (19, [some (.ref 57)], [], mz_up (mz_cp (mz_set (mz_set w 57 re1) 59 ge1) 58 59 0 0 30) 57 1 (nI Be1))) rfl ?_
                  exact mz_ret rfl
                refine mz_go 1 (c' := (74, [some (.ref 0), some (.int (nI jxa)), some (.int 0), some (.int xc), some (.int ve1)], [.int ve1], mz_up (mz_cp (mz_set (mz_set w 57 re1) 59 ge1) 58 59 0 0 30) 57 1 (nI Be1))) rfl ?_
                exact mz_ret rfl
              · refine mz_go 2 (c' := (2, [some (.ref 65), some (.int (nI jxa)), some (.int 0), some (.int xc), none, none], [.int (nI jxa), .ref 65], mz_up (mz_cp (mz_set (mz_set w 57 re1) 59 ge1) 58 59 0 0 30) 57 1 (nI Be1))) rfl ?_
                refine mz_doQ (R := mz_r132) (as := [.ref 65, .int (nI jxa)]) (rest := []) (r1 := some (.int 1)) (m1 := mz_up (mz_cp (mz_set (mz_set w 57 re1) 59 ge1) 58 59 0 0 30) 57 1 (nI Be1)) mz_t132 mz_v132_65 rfl rfl rfl rfl rfl ⟨?_, rfl⟩ ?_
                · refine mz_go 6 (c' := (8, [some (.ref 65), some (.int (nI jxa))], [.int (w 66 0), .int 0, .int (nI jxa)], mz_up (mz_cp (mz_set (mz_set w 57 re1) 59 ge1) 58 59 0 0 30) 57 1 (nI Be1))) rfl ?_
                  rw [h660]
                  refine mz_go 2 (c' := (10, [some (.ref 65), some (.int (nI jxa))], [.int ((nI N) - 1), .int 0, .int (nI jxa)], mz_up (mz_cp (mz_set (mz_set w 57 re1) 59 ge1) 58 59 0 0 30) 57 1 (nI Be1))) rfl ?_
                  refine mz_doQ (R := mz_r128) (as := [.int (nI jxa), .int 0, .int ((nI N) - 1)]) (rest := []) (r1 := some (.int 1)) (m1 := mz_up (mz_cp (mz_set (mz_set w 57 re1) 59 ge1) 58 59 0 0 30) 57 1 (nI Be1)) mz_t128 mz_v128 rfl rfl rfl rfl rfl ⟨?_, rfl⟩ ?_
                  · refine mz_go 3 (c' := (if (nI jxa) < 0 then 14 else 5, [some (.int (nI jxa)), some (.int 0), some (.int ((nI N) - 1))], [], mz_up (mz_cp (mz_set (mz_set w 57 re1) 59 ge1) 58 59 0 0 30) 57 1 (nI Be1))) rfl ?_
                    refine mz_ifF q1 ?_
                    refine mz_go 3 (c' := (if ((nI N) - 1) < (nI jxa) then 14 else 10, [some (.int (nI jxa)), some (.int 0), some (.int ((nI N) - 1))], [], mz_up (mz_cp (mz_set (mz_set w 57 re1) 59 ge1) 58 59 0 0 30) 57 1 (nI Be1))) rfl ?_
                    refine mz_ifF (show ¬ (((nI N) - 1) < (nI jxa)) from (sm_nltN (sm_subN (a := N) (b := 1) rfl rfl (by omega)) rfl (show jxa ≤ (N - 1) by omega) (show (N - 1) < 2 ^ 31 by omega))) ?_
                    refine mz_go 2 (c' := (15, [some (.int (nI jxa)), some (.int 0), some (.int ((nI N) - 1))], [.int 1], mz_up (mz_cp (mz_set (mz_set w 57 re1) 59 ge1) 58 59 0 0 30) 57 1 (nI Be1))) rfl ?_
                    exact mz_ret rfl
                  exact mz_ret rfl
                refine mz_go 4 (c' := (11, [some (.ref 65), some (.int (nI jxa)), some (.int 0), some (.int xc), none, none], [.int 3, .int 0, .int 0], mz_up (mz_cp (mz_set (mz_set w 57 re1) 59 ge1) 58 59 0 0 30) 57 1 (nI Be1))) rfl ?_
                refine mz_doQ (R := mz_r128) (as := [.int 0, .int 0, .int 3]) (rest := []) (r1 := some (.int 1)) (m1 := mz_up (mz_cp (mz_set (mz_set w 57 re1) 59 ge1) 58 59 0 0 30) 57 1 (nI Be1)) mz_t128 mz_v128 rfl rfl rfl rfl rfl ⟨?_, rfl⟩ ?_
                · refine mz_go 8 (c' := (15, [some (.int 0), some (.int 0), some (.int 3)], [.int 1], mz_up (mz_cp (mz_set (mz_set w 57 re1) 59 ge1) 58 59 0 0 30) 57 1 (nI Be1))) rfl ?_
                  exact mz_ret rfl
                refine mz_go 11 (c' := (39, [some (.ref 65), some (.int (nI jxa)), some (.int 0), some (.int xc), none, none], [.ref 65], mz_up (mz_up (mz_up (mz_up (mz_cp (mz_set (mz_set w 57 re1) 59 ge1) 58 59 0 0 30) 57 1 (nI Be1)) 65 19 0) 65 20 (nI jxa)) 65 21 0)) rfl ?_
                refine mz_doQ (R := mz_r211) (as := [.ref 65]) (rest := []) (r1 := some (.int (w 3 jxa))) (m1 := mz_up (mz_up (mz_up (mz_up (mz_cp (mz_set (mz_set w 57 re1) 59 ge1) 58 59 0 0 30) 57 1 (nI Be1)) 65 19 0) 65 20 (nI jxa)) 65 21 0) mz_t211 mz_v211_65 rfl rfl rfl rfl rfl ⟨?_, rfl⟩ ?_
                · refine mz_go 4 (c' := (6, [some (.ref 65)], [.int 0, .int (nI jxa), .ref 65], mz_up (mz_up (mz_up (mz_up (mz_cp (mz_set (mz_set w 57 re1) 59 ge1) 58 59 0 0 30) 57 1 (nI Be1)) 65 19 0) 65 20 (nI jxa)) 65 21 0)) rfl ?_
                  refine mz_doQ (R := mz_r133) (as := [.ref 65, .int (nI jxa), .int 0]) (rest := []) (r1 := some (.int (w 3 jxa))) (m1 := mz_up (mz_up (mz_up (mz_up (mz_cp (mz_set (mz_set w 57 re1) 59 ge1) 58 59 0 0 30) 57 1 (nI Be1)) 65 19 0) 65 20 (nI jxa)) 65 21 0) mz_t133 mz_v133_65 rfl rfl rfl rfl rfl ⟨?_, rfl⟩ ?_
                  · refine mz_go 9 (c' := (12, [some (.ref 65), some (.int (nI jxa)), some (.int 0)], [.int ((30 + (4 * (nI jxa))) + 0), .ref 66], mz_up (mz_up (mz_up (mz_up (mz_cp (mz_set (mz_set w 57 re1) 59 ge1) 58 59 0 0 30) 57 1 (nI Be1)) 65 19 0) 65 20 (nI jxa)) 65 21 0)) rfl ?_
                    refine mz_arr (c' := (13, [some (.ref 65), some (.int (nI jxa)), some (.int 0)], [.int (w 66 (((30 + (4 * (nI jxa))) + 0).toNatClampNeg))], mz_up (mz_up (mz_up (mz_up (mz_cp (mz_set (mz_set w 57 re1) 59 ge1) 58 59 0 0 30) 57 1 (nI Be1)) 65 19 0) 65 20 (nI jxa)) 65 21 0)) rfl (show mz_in ((30 + (4 * (nI jxa))) + 0) 650 = true from sm_inN (sm_addN (sm_addN rfl (sm_mulN rfl rfl)) rfl) (show ((30 + (4 * jxa)) + 0) < 650 by omega) (by decide)) ?_
                    rw [show ((30 + (4 * (nI jxa))) + 0 : Int32).toNatClampNeg = ((30 + (4 * jxa)) + 0) from sm_clN (sm_addN (sm_addN rfl (sm_mulN rfl rfl)) rfl) (show ((30 + (4 * jxa)) + 0) < 2 ^ 31 by omega)]
                    rw [show w 66 ((30 + (4 * jxa)) + 0) = w 3 jxa from (hr2.2.1 jxa (by omega)).1]
                    exact mz_ret rfl
                  exact mz_ret rfl
                refine mz_go 6 (c' := (52, [some (.ref 65), some (.int (nI jxa)), some (.int 0), some (.int xc), some (.int (w 3 jxa)), none], [.int xc, .int (w 3 jxa), .ref 65], mz_up (mz_up (mz_up (mz_up (mz_cp (mz_set (mz_set w 57 re1) 59 ge1) 58 59 0 0 30) 57 1 (nI Be1)) 65 19 0) 65 20 (nI jxa)) 65 21 0)) rfl ?_
                refine mz_doQ (R := mz_r213) (as := [.ref 65, .int (w 3 jxa), .int xc]) (rest := []) (r1 := some (.int ve2)) (m1 := mz_set (mz_set (mz_up (mz_cp (mz_set (mz_set w 57 re1) 59 ge1) 58 59 0 0 30) 57 1 (nI Be1)) 65 re2) 74 ge2) mz_t213 mz_v213_65 rfl rfl rfl rfl rfl (Ee2.deep (by decide)) ?_
                refine mz_go 5 (c' := (if (re2 21) = 0 then 113 else 104, [some (.ref 65), some (.int (nI jxa)), some (.int 0), some (.int xc), some (.int (w 3 jxa)), some (.int ve2)], [], mz_set (mz_set (mz_up (mz_cp (mz_set (mz_set w 57 re1) 59 ge1) 58 59 0 0 30) 57 1 (nI Be1)) 65 re2) 74 ge2)) rfl ?_
                refine mz_ifF q8 ?_
                refine mz_go 2 (c' := (107, [some (.ref 65), some (.int (nI jxa)), some (.int 0), some (.int xc), some (.int (w 3 jxa)), some (.int ve2)], [.int 6, .ref 65], mz_set (mz_set (mz_up (mz_cp (mz_set (mz_set w 57 re1) 59 ge1) 58 59 0 0 30) 57 1 (nI Be1)) 65 re2) 74 ge2)) rfl ?_
                refine mz_doQ (R := mz_r127) (as := [.ref 65, .int 6]) (rest := []) (r1 := some (.int (-1000006))) (m1 := mz_up (mz_set (mz_set (mz_up (mz_cp (mz_set (mz_set w 57 re1) 59 ge1) 58 59 0 0 30) 57 1 (nI Be1)) 65 re2) 74 ge2) 68 6 ((w 68 6) + 1)) mz_t127 mz_v127_65 rfl rfl rfl rfl rfl ⟨?_, rfl⟩ ?_
                · refine mz_go 11 (c' := (14, [some (.ref 65), some (.int 6)], [.int (-1000006)], mz_up (mz_set (mz_set (mz_up (mz_cp (mz_set (mz_set w 57 re1) 59 ge1) 58 59 0 0 30) 57 1 (nI Be1)) 65 re2) 74 ge2) 68 6 ((w 68 6) + 1))) rfl ?_
                  exact mz_ret rfl
                refine mz_go 1 (c' := (115, [some (.ref 65), some (.int (nI jxa)), some (.int 0), some (.int xc), some (.int (w 3 jxa)), some (.int ve2)], [.int (-1000006)], mz_up (mz_set (mz_set (mz_up (mz_cp (mz_set (mz_set w 57 re1) 59 ge1) 58 59 0 0 30) 57 1 (nI Be1)) 65 re2) 74 ge2) 68 6 ((w 68 6) + 1))) rfl ?_
                exact mz_ret rfl
              · exact sm_I_tr hn hI2 (fun i hi h1 => by
                  have hne : ∀ r, sm_scr r = true → i ≠ r := fun r hr e => by
                    rw [e, hr] at hi
                    cases hi
                  simp only [mz_cp_ne (hne 58 rfl), mz_set_ne (hne 59 rfl), mz_set_ne (hne 65 rfl), mz_set_ne (hne 74 rfl), mz_set_ne h1, mz_up_ne (hne 68 rfl), mz_up_ne h1]) (show (mz_up (mz_set (mz_set (mz_up (mz_cp (mz_set (mz_set w 57 re1) 59 ge1) 58 59 0 0 30) 57 1 (nI Be1)) 65 re2) 74 ge2) 68 6 ((w 68 6) + 1)) 65 2 = w 65 2 from Ke2 2 (by decide) (by decide)) ⟨(sm_Nto (n := 30) (k := Be1) (by decide) (by omega)), (by rw [show (mz_up (mz_set (mz_set (mz_up (mz_cp (mz_set (mz_set w 57 re1) 59 ge1) 58 59 0 0 30) 57 1 (nI Be1)) 65 re2) 74 ge2) 68 6 ((w 68 6) + 1)) 65 19 = nI Be2 from be2]; exact sm_Nto (n := 30) (by decide) hBe2)⟩
          · have hve2 : mz_up (mz_up (mz_up (mz_up (mz_set (mz_set w 57 re1) 59 ge1) 64 6 ((w 64 6) + 1)) 65 19 0) 65 20 (nI jxa)) 65 21 0 = mz_set (mz_set (mz_up (mz_set (mz_set w 57 re1) 59 ge1) 64 6 ((w 64 6) + 1)) 65 ((mz_up (mz_up (mz_up (mz_up (mz_set (mz_set w 57 re1) 59 ge1) 64 6 ((w 64 6) + 1)) 65 19 0) 65 20 (nI jxa)) 65 21 0) 65)) 74 ((mz_up (mz_set (mz_set w 57 re1) 59 ge1) 64 6 ((w 64 6) + 1)) 74) := sm_of2 (fun i h1 h2 => by simp only [mz_up_ne h1])
            obtain ⟨ve2, re2, ge2, Ee2, We2⟩ := vs1_0_any (m := mz_up (mz_set (mz_set w 57 re1) 59 ge1) 64 6 ((w 64 6) + 1)) (w := w) hr2 (r := ((mz_up (mz_up (mz_up (mz_up (mz_set (mz_set w 57 re1) 59 ge1) 64 6 ((w 64 6) + 1)) 65 19 0) 65 20 (nI jxa)) 65 21 0) 65)) (g := (mz_up (mz_set (mz_set w 57 re1) 59 ge1) 64 6 ((w 64 6) + 1)) 74) ⟨⟨0, by decide, rfl⟩, Or.inl rfl⟩ (j := jxa) (by omega) ekk hcc rfl (f := cc) hcc xc
            rw [← hve2, ← ekk] at Ee2
            obtain ⟨⟨⟨Be2, hBe2, be2⟩, pe2⟩, Ke2⟩ := We2
            by_cases q9 : (re2 21) = 0
            · refine ⟨(-1000006), ve2, mz_up (mz_set (mz_set w 57 re1) 59 ge1) 64 6 ((w 64 6) + 1), mz_set (mz_set (mz_up (mz_set (mz_set w 57 re1) 59 ge1) 64 6 ((w 64 6) + 1)) 65 re2) 74 ge2, ⟨?_, rfl⟩, ⟨?_, rfl⟩, ?_⟩
              · refine mz_go 4 (c' := (8, [some (.ref 0), some (.int (nI jxa)), some (.int 0), some (.int xc), none], [.int (nI jxa), .ref 2], w)) rfl ?_
                refine mz_doQ (R := mz_r21) (as := [.ref 2, .int (nI jxa)]) (rest := []) (r1 := some (.int 1)) (m1 := w) mz_t21 mz_v21_2 rfl rfl rfl rfl rfl ((cs_has hN (m := w) h4 (show jxa < N by omega)).deep (by decide)) ?_
                refine mz_go 4 (c' := (17, [some (.ref 0), some (.int (nI jxa)), some (.int 0), some (.int xc), none], [.int 3, .int 0, .int 0], w)) rfl ?_
                refine mz_doQ (R := mz_r121) (as := [.int 0, .int 0, .int 3]) (rest := []) (r1 := some (.int 1)) (m1 := w) mz_t121 mz_v121 rfl rfl rfl rfl rfl ⟨?_, rfl⟩ ?_
                · refine mz_go 8 (c' := (15, [some (.int 0), some (.int 0), some (.int 3)], [.int 1], w)) rfl ?_
                  exact mz_ret rfl
                refine mz_go 9 (c' := (43, [some (.ref 0), some (.int (nI jxa)), some (.int 0), some (.int xc), none], [.int xc, .int 0, .int (nI jxa), .ref 2, .ref 57], w)) rfl ?_
                refine mz_doQ (R := mz_r60) (as := [.ref 57, .ref 2, .int (nI jxa), .int 0, .int xc]) (rest := []) (r1 := some (.int ve1)) (m1 := mz_set (mz_set w 57 re1) 59 ge1) mz_t60 mz_v60_57 rfl rfl rfl rfl rfl ⟨?_, rfl⟩ ?_
                · refine mz_go 8 (c' := (12, [some (.ref 57), some (.ref 2), some (.int (nI jxa)), some (.int 0), some (.int xc)], [.int (nI jxa), .ref 2], mz_up (mz_up w 57 2 0) 57 4 0)) rfl ?_
                  refine mz_doQ (R := mz_r21) (as := [.ref 2, .int (nI jxa)]) (rest := []) (r1 := some (.int 1)) (m1 := mz_up (mz_up w 57 2 0) 57 4 0) mz_t21 mz_v21_2 rfl rfl rfl rfl rfl ((cs_has hN (m := mz_up (mz_up w 57 2 0) 57 4 0) h4 (show jxa < N by omega)).deep (by decide)) ?_
                  refine mz_go 5 (c' := (26, [some (.ref 57), some (.ref 2), some (.int (nI jxa)), some (.int 0), some (.int xc)], [.int (nI jxa), .ref 3, .ref 57], mz_up (mz_up w 57 2 0) 57 4 0)) rfl ?_
                  refine mz_arr (c' := (27, [some (.ref 57), some (.ref 2), some (.int (nI jxa)), some (.int 0), some (.int xc)], [.int (w 3 ((nI jxa).toNatClampNeg)), .ref 57], mz_up (mz_up w 57 2 0) 57 4 0)) rfl (show mz_in (nI jxa) 6 = true from sm_inN rfl (show jxa < 6 by omega) (by decide)) ?_
                  rw [show (nI jxa : Int32).toNatClampNeg = jxa from sm_clN rfl (show jxa < 2 ^ 31 by omega)]
                  refine mz_go 8 (c' := (41, [some (.ref 57), some (.ref 2), some (.int (nI jxa)), some (.int 0), some (.int xc)], [.int (nI jxa), .ref 6, .ref 57], mz_up (mz_up (mz_up (mz_up w 57 2 0) 57 4 0) 57 5 (w 3 jxa)) 57 6 (nI jxa))) rfl ?_
                  refine mz_arr (c' := (42, [some (.ref 57), some (.ref 2), some (.int (nI jxa)), some (.int 0), some (.int xc)], [.int (w 6 ((nI jxa).toNatClampNeg)), .ref 57], mz_up (mz_up (mz_up (mz_up w 57 2 0) 57 4 0) 57 5 (w 3 jxa)) 57 6 (nI jxa))) rfl (show mz_in (nI jxa) 6 = true from sm_inN rfl (show jxa < 6 by omega) (by decide)) ?_
                  rw [show (nI jxa : Int32).toNatClampNeg = jxa from sm_clN rfl (show jxa < 2 ^ 31 by omega)]
                  refine mz_go 7 (c' := (54, [some (.ref 57), some (.ref 2), some (.int (nI jxa)), some (.int 0), some (.int xc)], [.int 0, .int xc, .int (w 3 jxa), .int 0, .ref 57], mz_up (mz_up (mz_up (mz_up (mz_up w 57 2 0) 57 4 0) 57 5 (w 3 jxa)) 57 6 (nI jxa)) 57 7 (w 6 jxa))) rfl ?_
                  refine mz_doQ (R := mz_r62) (as := [.ref 57, .int 0, .int (w 3 jxa), .int xc, .int 0]) (rest := []) (r1 := some (.int ve1)) (m1 := mz_set (mz_set w 57 re1) 59 ge1) mz_t62 mz_v62_57 rfl rfl rfl rfl rfl (Ee1.deep (by decide)) ?_
                  exact mz_ret rfl
                refine mz_go 5 (c' := (if (re1 2) = 0 then 65 else 58, [some (.ref 0), some (.int (nI jxa)), some (.int 0), some (.int xc), some (.int ve1)], [], mz_set (mz_set w 57 re1) 59 ge1)) rfl ?_
                refine mz_ifF q7 ?_
                refine mz_go 2 (c' := (61, [some (.ref 0), some (.int (nI jxa)), some (.int 0), some (.int xc), some (.int ve1)], [.int 6, .ref 0], mz_set (mz_set w 57 re1) 59 ge1)) rfl ?_
                refine mz_doQ (R := mz_r109) (as := [.ref 0, .int 6]) (rest := []) (r1 := some (.int (-1000006))) (m1 := mz_up (mz_set (mz_set w 57 re1) 59 ge1) 64 6 ((w 64 6) + 1)) mz_t109 mz_v109_0 rfl rfl rfl rfl rfl ⟨?_, rfl⟩ ?_
                · refine mz_go 3 (c' := (4, [some (.ref 0), some (.int 6)], [.int 6, .int 1, .int 6], mz_set (mz_set w 57 re1) 59 ge1)) rfl ?_
                  refine mz_doQ (R := mz_r121) (as := [.int 6, .int 1, .int 6]) (rest := []) (r1 := some (.int 1)) (m1 := mz_set (mz_set w 57 re1) 59 ge1) mz_t121 mz_v121 rfl rfl rfl rfl rfl ⟨?_, rfl⟩ ?_
                  · refine mz_go 8 (c' := (15, [some (.int 6), some (.int 1), some (.int 6)], [.int 1], mz_set (mz_set w 57 re1) 59 ge1)) rfl ?_
                    exact mz_ret rfl
                  refine mz_go 12 (c' := (25, [some (.ref 0), some (.int 6)], [.int (-1000006)], mz_up (mz_set (mz_set w 57 re1) 59 ge1) 64 6 ((w 64 6) + 1))) rfl ?_
                  exact mz_ret rfl
                exact mz_ret rfl
              · refine mz_go 2 (c' := (2, [some (.ref 65), some (.int (nI jxa)), some (.int 0), some (.int xc), none, none], [.int (nI jxa), .ref 65], mz_up (mz_set (mz_set w 57 re1) 59 ge1) 64 6 ((w 64 6) + 1))) rfl ?_
                refine mz_doQ (R := mz_r132) (as := [.ref 65, .int (nI jxa)]) (rest := []) (r1 := some (.int 1)) (m1 := mz_up (mz_set (mz_set w 57 re1) 59 ge1) 64 6 ((w 64 6) + 1)) mz_t132 mz_v132_65 rfl rfl rfl rfl rfl ⟨?_, rfl⟩ ?_
                · refine mz_go 6 (c' := (8, [some (.ref 65), some (.int (nI jxa))], [.int (w 66 0), .int 0, .int (nI jxa)], mz_up (mz_set (mz_set w 57 re1) 59 ge1) 64 6 ((w 64 6) + 1))) rfl ?_
                  rw [h660]
                  refine mz_go 2 (c' := (10, [some (.ref 65), some (.int (nI jxa))], [.int ((nI N) - 1), .int 0, .int (nI jxa)], mz_up (mz_set (mz_set w 57 re1) 59 ge1) 64 6 ((w 64 6) + 1))) rfl ?_
                  refine mz_doQ (R := mz_r128) (as := [.int (nI jxa), .int 0, .int ((nI N) - 1)]) (rest := []) (r1 := some (.int 1)) (m1 := mz_up (mz_set (mz_set w 57 re1) 59 ge1) 64 6 ((w 64 6) + 1)) mz_t128 mz_v128 rfl rfl rfl rfl rfl ⟨?_, rfl⟩ ?_
                  · refine mz_go 3 (c' := (if (nI jxa) < 0 then 14 else 5, [some (.int (nI jxa)), some (.int 0), some (.int ((nI N) - 1))], [], mz_up (mz_set (mz_set w 57 re1) 59 ge1) 64 6 ((w 64 6) + 1))) rfl ?_
                    refine mz_ifF q1 ?_
                    refine mz_go 3 (c' := (if ((nI N) - 1) < (nI jxa) then 14 else 10, [some (.int (nI jxa)), some (.int 0), some (.int ((nI N) - 1))], [], mz_up (mz_set (mz_set w 57 re1) 59 ge1) 64 6 ((w 64 6) + 1))) rfl ?_
                    refine mz_ifF (show ¬ (((nI N) - 1) < (nI jxa)) from (sm_nltN (sm_subN (a := N) (b := 1) rfl rfl (by omega)) rfl (show jxa ≤ (N - 1) by omega) (show (N - 1) < 2 ^ 31 by omega))) ?_
                    refine mz_go 2 (c' := (15, [some (.int (nI jxa)), some (.int 0), some (.int ((nI N) - 1))], [.int 1], mz_up (mz_set (mz_set w 57 re1) 59 ge1) 64 6 ((w 64 6) + 1))) rfl ?_
                    exact mz_ret rfl
                  exact mz_ret rfl
                refine mz_go 4 (c' := (11, [some (.ref 65), some (.int (nI jxa)), some (.int 0), some (.int xc), none, none], [.int 3, .int 0, .int 0], mz_up (mz_set (mz_set w 57 re1) 59 ge1) 64 6 ((w 64 6) + 1))) rfl ?_
                refine mz_doQ (R := mz_r128) (as := [.int 0, .int 0, .int 3]) (rest := []) (r1 := some (.int 1)) (m1 := mz_up (mz_set (mz_set w 57 re1) 59 ge1) 64 6 ((w 64 6) + 1)) mz_t128 mz_v128 rfl rfl rfl rfl rfl ⟨?_, rfl⟩ ?_
                · refine mz_go 8 (c' := (15, [some (.int 0), some (.int 0), some (.int 3)], [.int 1], mz_up (mz_set (mz_set w 57 re1) 59 ge1) 64 6 ((w 64 6) + 1))) rfl ?_
                  exact mz_ret rfl
                refine mz_go 11 (c' := (39, [some (.ref 65), some (.int (nI jxa)), some (.int 0), some (.int xc), none, none], [.ref 65], mz_up (mz_up (mz_up (mz_up (mz_set (mz_set w 57 re1) 59 ge1) 64 6 ((w 64 6) + 1)) 65 19 0) 65 20 (nI jxa)) 65 21 0)) rfl ?_
                refine mz_doQ (R := mz_r211) (as := [.ref 65]) (rest := []) (r1 := some (.int (w 3 jxa))) (m1 := mz_up (mz_up (mz_up (mz_up (mz_set (mz_set w 57 re1) 59 ge1) 64 6 ((w 64 6) + 1)) 65 19 0) 65 20 (nI jxa)) 65 21 0) mz_t211 mz_v211_65 rfl rfl rfl rfl rfl ⟨?_, rfl⟩ ?_
                · refine mz_go 4 (c' := (6, [some (.ref 65)], [.int 0, .int (nI jxa), .ref 65], mz_up (mz_up (mz_up (mz_up (mz_set (mz_set w 57 re1) 59 ge1) 64 6 ((w 64 6) + 1)) 65 19 0) 65 20 (nI jxa)) 65 21 0)) rfl ?_
                  refine mz_doQ (R := mz_r133) (as := [.ref 65, .int (nI jxa), .int 0]) (rest := []) (r1 := some (.int (w 3 jxa))) (m1 := mz_up (mz_up (mz_up (mz_up (mz_set (mz_set w 57 re1) 59 ge1) 64 6 ((w 64 6) + 1)) 65 19 0) 65 20 (nI jxa)) 65 21 0) mz_t133 mz_v133_65 rfl rfl rfl rfl rfl ⟨?_, rfl⟩ ?_
                  · refine mz_go 9 (c' := (12, [some (.ref 65), some (.int (nI jxa)), some (.int 0)], [.int ((30 + (4 * (nI jxa))) + 0), .ref 66], mz_up (mz_up (mz_up (mz_up (mz_set (mz_set w 57 re1) 59 ge1) 64 6 ((w 64 6) + 1)) 65 19 0) 65 20 (nI jxa)) 65 21 0)) rfl ?_
                    refine mz_arr (c' := (13, [some (.ref 65), some (.int (nI jxa)), some (.int 0)], [.int (w 66 (((30 + (4 * (nI jxa))) + 0).toNatClampNeg))], mz_up (mz_up (mz_up (mz_up (mz_set (mz_set w 57 re1) 59 ge1) 64 6 ((w 64 6) + 1)) 65 19 0) 65 20 (nI jxa)) 65 21 0)) rfl (show mz_in ((30 + (4 * (nI jxa))) + 0) 650 = true from sm_inN (sm_addN (sm_addN rfl (sm_mulN rfl rfl)) rfl) (show ((30 + (4 * jxa)) + 0) < 650 by omega) (by decide)) ?_
                    rw [show ((30 + (4 * (nI jxa))) + 0 : Int32).toNatClampNeg = ((30 + (4 * jxa)) + 0) from sm_clN (sm_addN (sm_addN rfl (sm_mulN rfl rfl)) rfl) (show ((30 + (4 * jxa)) + 0) < 2 ^ 31 by omega)]
                    rw [show w 66 ((30 + (4 * jxa)) + 0) = w 3 jxa from (hr2.2.1 jxa (by omega)).1]
                    exact mz_ret rfl
                  exact mz_ret rfl
                refine mz_go 6 (c' := (52, [some (.ref 65), some (.int (nI jxa)), some (.int 0), some (.int xc), some (.int (w 3 jxa)), none], [.int xc, .int (w 3 jxa), .ref 65], mz_up (mz_up (mz_up (mz_up (mz_set (mz_set w 57 re1) 59 ge1) 64 6 ((w 64 6) + 1)) 65 19 0) 65 20 (nI jxa)) 65 21 0)) rfl ?_
                refine mz_doQ (R := mz_r213) (as := [.ref 65, .int (w 3 jxa), .int xc]) (rest := []) (r1 := some (.int ve2)) (m1 := mz_set (mz_set (mz_up (mz_set (mz_set w 57 re1) 59 ge1) 64 6 ((w 64 6) + 1)) 65 re2) 74 ge2) mz_t213 mz_v213_65 rfl rfl rfl rfl rfl (Ee2.deep (by decide)) ?_
                refine mz_go 5 (c' := (if (re2 21) = 0 then 113 else 104, [some (.ref 65), some (.int (nI jxa)), some (.int 0), some (.int xc), some (.int (w 3 jxa)), some (.int ve2)], [], mz_set (mz_set (mz_up (mz_set (mz_set w 57 re1) 59 ge1) 64 6 ((w 64 6) + 1)) 65 re2) 74 ge2)) rfl ?_
                refine mz_ifT q9 ?_
                refine mz_go 1 (c' := (115, [some (.ref 65), some (.int (nI jxa)), some (.int 0), some (.int xc), some (.int (w 3 jxa)), some (.int ve2)], [.int ve2], mz_set (mz_set (mz_up (mz_set (mz_set w 57 re1) 59 ge1) 64 6 ((w 64 6) + 1)) 65 re2) 74 ge2)) rfl ?_
                exact mz_ret rfl
              · exact sm_I_tr hn hI2 (fun i hi h1 => by
                  have hne : ∀ r, sm_scr r = true → i ≠ r := fun r hr e => by
                    rw [e, hr] at hi
                    cases hi
                  simp only [mz_set_ne (hne 59 rfl), mz_set_ne (hne 65 rfl), mz_set_ne (hne 74 rfl), mz_set_ne h1, mz_up_ne (hne 64 rfl)]) (show (mz_set (mz_set (mz_up (mz_set (mz_set w 57 re1) 59 ge1) 64 6 ((w 64 6) + 1)) 65 re2) 74 ge2) 65 2 = w 65 2 from Ke2 2 (by decide) (by decide)) ⟨(by rw [show (mz_set (mz_set (mz_up (mz_set (mz_set w 57 re1) 59 ge1) 64 6 ((w 64 6) + 1)) 65 re2) 74 ge2) 57 1 = w 57 1 from Ke1 1 (by decide) (by decide)]; exact hcb1), (by rw [show (mz_set (mz_set (mz_up (mz_set (mz_set w 57 re1) 59 ge1) 64 6 ((w 64 6) + 1)) 65 re2) 74 ge2) 65 19 = nI Be2 from be2]; exact sm_Nto (n := 30) (by decide) hBe2)⟩
            · refine ⟨(-1000006), (-1000006), mz_up (mz_set (mz_set w 57 re1) 59 ge1) 64 6 ((w 64 6) + 1), mz_up (mz_set (mz_set (mz_up (mz_set (mz_set w 57 re1) 59 ge1) 64 6 ((w 64 6) + 1)) 65 re2) 74 ge2) 68 6 ((w 68 6) + 1), ⟨?_, rfl⟩, ⟨?_, rfl⟩, ?_⟩
              · refine mz_go 4 (c' := (8, [some (.ref 0), some (.int (nI jxa)), some (.int 0), some (.int xc), none], [.int (nI jxa), .ref 2], w)) rfl ?_
                refine mz_doQ (R := mz_r21) (as := [.ref 2, .int (nI jxa)]) (rest := []) (r1 := some (.int 1)) (m1 := w) mz_t21 mz_v21_2 rfl rfl rfl rfl rfl ((cs_has hN (m := w) h4 (show jxa < N by omega)).deep (by decide)) ?_
                refine mz_go 4 (c' := (17, [some (.ref 0), some (.int (nI jxa)), some (.int 0), some (.int xc), none], [.int 3, .int 0, .int 0], w)) rfl ?_
                refine mz_doQ (R := mz_r121) (as := [.int 0, .int 0, .int 3]) (rest := []) (r1 := some (.int 1)) (m1 := w) mz_t121 mz_v121 rfl rfl rfl rfl rfl ⟨?_, rfl⟩ ?_
                · refine mz_go 8 (c' := (15, [some (.int 0), some (.int 0), some (.int 3)], [.int 1], w)) rfl ?_
                  exact mz_ret rfl
                refine mz_go 9 (c' := (43, [some (.ref 0), some (.int (nI jxa)), some (.int 0), some (.int xc), none], [.int xc, .int 0, .int (nI jxa), .ref 2, .ref 57], w)) rfl ?_
                refine mz_doQ (R := mz_r60) (as := [.ref 57, .ref 2, .int (nI jxa), .int 0, .int xc]) (rest := []) (r1 := some (.int ve1)) (m1 := mz_set (mz_set w 57 re1) 59 ge1) mz_t60 mz_v60_57 rfl rfl rfl rfl rfl ⟨?_, rfl⟩ ?_
                · refine mz_go 8 (c' := (12, [some (.ref 57), some (.ref 2), some (.int (nI jxa)), some (.int 0), some (.int xc)], [.int (nI jxa), .ref 2], mz_up (mz_up w 57 2 0) 57 4 0)) rfl ?_
                  refine mz_doQ (R := mz_r21) (as := [.ref 2, .int (nI jxa)]) (rest := []) (r1 := some (.int 1)) (m1 := mz_up (mz_up w 57 2 0) 57 4 0) mz_t21 mz_v21_2 rfl rfl rfl rfl rfl ((cs_has hN (m := mz_up (mz_up w 57 2 0) 57 4 0) h4 (show jxa < N by omega)).deep (by decide)) ?_
                  refine mz_go 5 (c' := (26, [some (.ref 57), some (.ref 2), some (.int (nI jxa)), some (.int 0), some (.int xc)], [.int (nI jxa), .ref 3, .ref 57], mz_up (mz_up w 57 2 0) 57 4 0)) rfl ?_
                  refine mz_arr (c' := (27, [some (.ref 57), some (.ref 2), some (.int (nI jxa)), some (.int 0), some (.int xc)], [.int (w 3 ((nI jxa).toNatClampNeg)), .ref 57], mz_up (mz_up w 57 2 0) 57 4 0)) rfl (show mz_in (nI jxa) 6 = true from sm_inN rfl (show jxa < 6 by omega) (by decide)) ?_
                  rw [show (nI jxa : Int32).toNatClampNeg = jxa from sm_clN rfl (show jxa < 2 ^ 31 by omega)]
                  refine mz_go 8 (c' := (41, [some (.ref 57), some (.ref 2), some (.int (nI jxa)), some (.int 0), some (.int xc)], [.int (nI jxa), .ref 6, .ref 57], mz_up (mz_up (mz_up (mz_up w 57 2 0) 57 4 0) 57 5 (w 3 jxa)) 57 6 (nI jxa))) rfl ?_
                  refine mz_arr (c' := (42, [some (.ref 57), some (.ref 2), some (.int (nI jxa)), some (.int 0), some (.int xc)], [.int (w 6 ((nI jxa).toNatClampNeg)), .ref 57], mz_up (mz_up (mz_up (mz_up w 57 2 0) 57 4 0) 57 5 (w 3 jxa)) 57 6 (nI jxa))) rfl (show mz_in (nI jxa) 6 = true from sm_inN rfl (show jxa < 6 by omega) (by decide)) ?_
                  rw [show (nI jxa : Int32).toNatClampNeg = jxa from sm_clN rfl (show jxa < 2 ^ 31 by omega)]
                  refine mz_go 7 (c' := (54, [some (.ref 57), some (.ref 2), some (.int (nI jxa)), some (.int 0), some (.int xc)], [.int 0, .int xc, .int (w 3 jxa), .int 0, .ref 57], mz_up (mz_up (mz_up (mz_up (mz_up w 57 2 0) 57 4 0) 57 5 (w 3 jxa)) 57 6 (nI jxa)) 57 7 (w 6 jxa))) rfl ?_
                  refine mz_doQ (R := mz_r62) (as := [.ref 57, .int 0, .int (w 3 jxa), .int xc, .int 0]) (rest := []) (r1 := some (.int ve1)) (m1 := mz_set (mz_set w 57 re1) 59 ge1) mz_t62 mz_v62_57 rfl rfl rfl rfl rfl (Ee1.deep (by decide)) ?_
                  exact mz_ret rfl
                refine mz_go 5 (c' := (if (re1 2) = 0 then 65 else 58, [some (.ref 0), some (.int (nI jxa)), some (.int 0), some (.int xc), some (.int ve1)], [], mz_set (mz_set w 57 re1) 59 ge1)) rfl ?_
                refine mz_ifF q7 ?_
                refine mz_go 2 (c' := (61, [some (.ref 0), some (.int (nI jxa)), some (.int 0), some (.int xc), some (.int ve1)], [.int 6, .ref 0], mz_set (mz_set w 57 re1) 59 ge1)) rfl ?_
                refine mz_doQ (R := mz_r109) (as := [.ref 0, .int 6]) (rest := []) (r1 := some (.int (-1000006))) (m1 := mz_up (mz_set (mz_set w 57 re1) 59 ge1) 64 6 ((w 64 6) + 1)) mz_t109 mz_v109_0 rfl rfl rfl rfl rfl ⟨?_, rfl⟩ ?_
                · refine mz_go 3 (c' := (4, [some (.ref 0), some (.int 6)], [.int 6, .int 1, .int 6], mz_set (mz_set w 57 re1) 59 ge1)) rfl ?_
                  refine mz_doQ (R := mz_r121) (as := [.int 6, .int 1, .int 6]) (rest := []) (r1 := some (.int 1)) (m1 := mz_set (mz_set w 57 re1) 59 ge1) mz_t121 mz_v121 rfl rfl rfl rfl rfl ⟨?_, rfl⟩ ?_
                  · refine mz_go 8 (c' := (15, [some (.int 6), some (.int 1), some (.int 6)], [.int 1], mz_set (mz_set w 57 re1) 59 ge1)) rfl ?_
                    exact mz_ret rfl
                  refine mz_go 12 (c' := (25, [some (.ref 0), some (.int 6)], [.int (-1000006)], mz_up (mz_set (mz_set w 57 re1) 59 ge1) 64 6 ((w 64 6) + 1))) rfl ?_
                  exact mz_ret rfl
                exact mz_ret rfl
              · refine mz_go 2 (c' := (2, [some (.ref 65), some (.int (nI jxa)), some (.int 0), some (.int xc), none, none], [.int (nI jxa), .ref 65], mz_up (mz_set (mz_set w 57 re1) 59 ge1) 64 6 ((w 64 6) + 1))) rfl ?_
                refine mz_doQ (R := mz_r132) (as := [.ref 65, .int (nI jxa)]) (rest := []) (r1 := some (.int 1)) (m1 := mz_up (mz_set (mz_set w 57 re1) 59 ge1) 64 6 ((w 64 6) + 1)) mz_t132 mz_v132_65 rfl rfl rfl rfl rfl ⟨?_, rfl⟩ ?_
                · refine mz_go 6 (c' := (8, [some (.ref 65), some (.int (nI jxa))], [.int (w 66 0), .int 0, .int (nI jxa)], mz_up (mz_set (mz_set w 57 re1) 59 ge1) 64 6 ((w 64 6) + 1))) rfl ?_
                  rw [h660]
                  refine mz_go 2 (c' := (10, [some (.ref 65), some (.int (nI jxa))], [.int ((nI N) - 1), .int 0, .int (nI jxa)], mz_up (mz_set (mz_set w 57 re1) 59 ge1) 64 6 ((w 64 6) + 1))) rfl ?_
                  refine mz_doQ (R := mz_r128) (as := [.int (nI jxa), .int 0, .int ((nI N) - 1)]) (rest := []) (r1 := some (.int 1)) (m1 := mz_up (mz_set (mz_set w 57 re1) 59 ge1) 64 6 ((w 64 6) + 1)) mz_t128 mz_v128 rfl rfl rfl rfl rfl ⟨?_, rfl⟩ ?_
                  · refine mz_go 3 (c' := (if (nI jxa) < 0 then 14 else 5, [some (.int (nI jxa)), some (.int 0), some (.int ((nI N) - 1))], [], mz_up (mz_set (mz_set w 57 re1) 59 ge1) 64 6 ((w 64 6) + 1))) rfl ?_
                    refine mz_ifF q1 ?_
                    refine mz_go 3 (c' := (if ((nI N) - 1) < (nI jxa) then 14 else 10, [some (.int (nI jxa)), some (.int 0), some (.int ((nI N) - 1))], [], mz_up (mz_set (mz_set w 57 re1) 59 ge1) 64 6 ((w 64 6) + 1))) rfl ?_
                    refine mz_ifF (show ¬ (((nI N) - 1) < (nI jxa)) from (sm_nltN (sm_subN (a := N) (b := 1) rfl rfl (by omega)) rfl (show jxa ≤ (N - 1) by omega) (show (N - 1) < 2 ^ 31 by omega))) ?_
                    refine mz_go 2 (c' := (15, [some (.int (nI jxa)), some (.int 0), some (.int ((nI N) - 1))], [.int 1], mz_up (mz_set (mz_set w 57 re1) 59 ge1) 64 6 ((w 64 6) + 1))) rfl ?_
                    exact mz_ret rfl
                  exact mz_ret rfl
                refine mz_go 4 (c' := (11, [some (.ref 65), some (.int (nI jxa)), some (.int 0), some (.int xc), none, none], [.int 3, .int 0, .int 0], mz_up (mz_set (mz_set w 57 re1) 59 ge1) 64 6 ((w 64 6) + 1))) rfl ?_
                refine mz_doQ (R := mz_r128) (as := [.int 0, .int 0, .int 3]) (rest := []) (r1 := some (.int 1)) (m1 := mz_up (mz_set (mz_set w 57 re1) 59 ge1) 64 6 ((w 64 6) + 1)) mz_t128 mz_v128 rfl rfl rfl rfl rfl ⟨?_, rfl⟩ ?_
                · refine mz_go 8 (c' := (15, [some (.int 0), some (.int 0), some (.int 3)], [.int 1], mz_up (mz_set (mz_set w 57 re1) 59 ge1) 64 6 ((w 64 6) + 1))) rfl ?_
                  exact mz_ret rfl
                refine mz_go 11 (c' := (39, [some (.ref 65), some (.int (nI jxa)), some (.int 0), some (.int xc), none, none], [.ref 65], mz_up (mz_up (mz_up (mz_up (mz_set (mz_set w 57 re1) 59 ge1) 64 6 ((w 64 6) + 1)) 65 19 0) 65 20 (nI jxa)) 65 21 0)) rfl ?_
                refine mz_doQ (R := mz_r211) (as := [.ref 65]) (rest := []) (r1 := some (.int (w 3 jxa))) (m1 := mz_up (mz_up (mz_up (mz_up (mz_set (mz_set w 57 re1) 59 ge1) 64 6 ((w 64 6) + 1)) 65 19 0) 65 20 (nI jxa)) 65 21 0) mz_t211 mz_v211_65 rfl rfl rfl rfl rfl ⟨?_, rfl⟩ ?_
                · refine mz_go 4 (c' := (6, [some (.ref 65)], [.int 0, .int (nI jxa), .ref 65], mz_up (mz_up (mz_up (mz_up (mz_set (mz_set w 57 re1) 59 ge1) 64 6 ((w 64 6) + 1)) 65 19 0) 65 20 (nI jxa)) 65 21 0)) rfl ?_
                  refine mz_doQ (R := mz_r133) (as := [.ref 65, .int (nI jxa), .int 0]) (rest := []) (r1 := some (.int (w 3 jxa))) (m1 := mz_up (mz_up (mz_up (mz_up (mz_set (mz_set w 57 re1) 59 ge1) 64 6 ((w 64 6) + 1)) 65 19 0) 65 20 (nI jxa)) 65 21 0) mz_t133 mz_v133_65 rfl rfl rfl rfl rfl ⟨?_, rfl⟩ ?_
                  · refine mz_go 9 (c' := (12, [some (.ref 65), some (.int (nI jxa)), some (.int 0)], [.int ((30 + (4 * (nI jxa))) + 0), .ref 66], mz_up (mz_up (mz_up (mz_up (mz_set (mz_set w 57 re1) 59 ge1) 64 6 ((w 64 6) + 1)) 65 19 0) 65 20 (nI jxa)) 65 21 0)) rfl ?_
                    refine mz_arr (c' := (13, [some (.ref 65), some (.int (nI jxa)), some (.int 0)], [.int (w 66 (((30 + (4 * (nI jxa))) + 0).toNatClampNeg))], mz_up (mz_up (mz_up (mz_up (mz_set (mz_set w 57 re1) 59 ge1) 64 6 ((w 64 6) + 1)) 65 19 0) 65 20 (nI jxa)) 65 21 0)) rfl (show mz_in ((30 + (4 * (nI jxa))) + 0) 650 = true from sm_inN (sm_addN (sm_addN rfl (sm_mulN rfl rfl)) rfl) (show ((30 + (4 * jxa)) + 0) < 650 by omega) (by decide)) ?_
                    rw [show ((30 + (4 * (nI jxa))) + 0 : Int32).toNatClampNeg = ((30 + (4 * jxa)) + 0) from sm_clN (sm_addN (sm_addN rfl (sm_mulN rfl rfl)) rfl) (show ((30 + (4 * jxa)) + 0) < 2 ^ 31 by omega)]
                    rw [show w 66 ((30 + (4 * jxa)) + 0) = w 3 jxa from (hr2.2.1 jxa (by omega)).1]
                    exact mz_ret rfl
                  exact mz_ret rfl
                refine mz_go 6 (c' := (52, [some (.ref 65), some (.int (nI jxa)), some (.int 0), some (.int xc), some (.int (w 3 jxa)), none], [.int xc, .int (w 3 jxa), .ref 65], mz_up (mz_up (mz_up (mz_up (mz_set (mz_set w 57 re1) 59 ge1) 64 6 ((w 64 6) + 1)) 65 19 0) 65 20 (nI jxa)) 65 21 0)) rfl ?_
                refine mz_doQ (R := mz_r213) (as := [.ref 65, .int (w 3 jxa), .int xc]) (rest := []) (r1 := some (.int ve2)) (m1 := mz_set (mz_set (mz_up (mz_set (mz_set w 57 re1) 59 ge1) 64 6 ((w 64 6) + 1)) 65 re2) 74 ge2) mz_t213 mz_v213_65 rfl rfl rfl rfl rfl (Ee2.deep (by decide)) ?_
                refine mz_go 5 (c' := (if (re2 21) = 0 then 113 else 104, [some (.ref 65), some (.int (nI jxa)), some (.int 0), some (.int xc), some (.int (w 3 jxa)), some (.int ve2)], [], mz_set (mz_set (mz_up (mz_set (mz_set w 57 re1) 59 ge1) 64 6 ((w 64 6) + 1)) 65 re2) 74 ge2)) rfl ?_
                refine mz_ifF q9 ?_
                refine mz_go 2 (c' := (107, [some (.ref 65), some (.int (nI jxa)), some (.int 0), some (.int xc), some (.int (w 3 jxa)), some (.int ve2)], [.int 6, .ref 65], mz_set (mz_set (mz_up (mz_set (mz_set w 57 re1) 59 ge1) 64 6 ((w 64 6) + 1)) 65 re2) 74 ge2)) rfl ?_
                refine mz_doQ (R := mz_r127) (as := [.ref 65, .int 6]) (rest := []) (r1 := some (.int (-1000006))) (m1 := mz_up (mz_set (mz_set (mz_up (mz_set (mz_set w 57 re1) 59 ge1) 64 6 ((w 64 6) + 1)) 65 re2) 74 ge2) 68 6 ((w 68 6) + 1)) mz_t127 mz_v127_65 rfl rfl rfl rfl rfl ⟨?_, rfl⟩ ?_
                · refine mz_go 11 (c' := (14, [some (.ref 65), some (.int 6)], [.int (-1000006)], mz_up (mz_set (mz_set (mz_up (mz_set (mz_set w 57 re1) 59 ge1) 64 6 ((w 64 6) + 1)) 65 re2) 74 ge2) 68 6 ((w 68 6) + 1))) rfl ?_
                  exact mz_ret rfl
                refine mz_go 1 (c' := (115, [some (.ref 65), some (.int (nI jxa)), some (.int 0), some (.int xc), some (.int (w 3 jxa)), some (.int ve2)], [.int (-1000006)], mz_up (mz_set (mz_set (mz_up (mz_set (mz_set w 57 re1) 59 ge1) 64 6 ((w 64 6) + 1)) 65 re2) 74 ge2) 68 6 ((w 68 6) + 1))) rfl ?_
                exact mz_ret rfl
              · exact sm_I_tr hn hI2 (fun i hi h1 => by
                  have hne : ∀ r, sm_scr r = true → i ≠ r := fun r hr e => by
                    rw [e, hr] at hi
                    cases hi
                  simp only [mz_set_ne (hne 59 rfl), mz_set_ne (hne 65 rfl), mz_set_ne (hne 74 rfl), mz_set_ne h1, mz_up_ne (hne 64 rfl), mz_up_ne (hne 68 rfl)]) (show (mz_up (mz_set (mz_set (mz_up (mz_set (mz_set w 57 re1) 59 ge1) 64 6 ((w 64 6) + 1)) 65 re2) 74 ge2) 68 6 ((w 68 6) + 1)) 65 2 = w 65 2 from Ke2 2 (by decide) (by decide)) ⟨(by rw [show (mz_up (mz_set (mz_set (mz_up (mz_set (mz_set w 57 re1) 59 ge1) 64 6 ((w 64 6) + 1)) 65 re2) 74 ge2) 68 6 ((w 68 6) + 1)) 57 1 = w 57 1 from Ke1 1 (by decide) (by decide)]; exact hcb1), (by rw [show (mz_up (mz_set (mz_set (mz_up (mz_set (mz_set w 57 re1) 59 ge1) 64 6 ((w 64 6) + 1)) 65 re2) 74 ge2) 68 6 ((w 68 6) + 1)) 65 19 = nI Be2 from be2]; exact sm_Nto (n := 30) (by decide) hBe2)⟩
        · obtain ⟨cc, hcc, ekk⟩ := sm_Nof (by decide) (hpb jxa (by omega)).1
          have hve1 : mz_up (mz_up (mz_up (mz_up (mz_up w 57 2 0) 57 4 0) 57 5 (w 3 jxa)) 57 6 (nI jxa)) 57 7 (w 6 jxa) = mz_set (mz_set (w) 57 ((mz_up (mz_up (mz_up (mz_up (mz_up w 57 2 0) 57 4 0) 57 5 (w 3 jxa)) 57 6 (nI jxa)) 57 7 (w 6 jxa)) 57)) 59 ((w) 59) := sm_of2 (fun i h1 h2 => by simp only [mz_up_ne h1])
          obtain ⟨ve1, re1, ge1, Ee1, We1⟩ := vs0_1_any (m := w) (r := ((mz_up (mz_up (mz_up (mz_up (mz_up w 57 2 0) 57 4 0) 57 5 (w 3 jxa)) 57 6 (nI jxa)) 57 7 (w 6 jxa)) 57)) (g := (w) 59) ⟨⟨0, by decide, rfl⟩, Or.inl rfl⟩ hcc ekk (f := cc) hcc xc (dd := 0) (d := 0) rfl (by decide)
          rw [← hve1, ← ekk] at Ee1
          obtain ⟨⟨⟨Be1, hBe1, be1⟩, pe1⟩, Ke1⟩ := We1
          by_cases q10 : (re1 2) = 0
          · have hve2 : mz_up (mz_up (mz_up (mz_up (mz_cp (mz_set (mz_set w 57 re1) 59 ge1) 58 59 0 0 30) 57 1 (nI Be1)) 65 19 0) 65 20 (nI jxa)) 65 21 0 = mz_set (mz_set (mz_up (mz_cp (mz_set (mz_set w 57 re1) 59 ge1) 58 59 0 0 30) 57 1 (nI Be1)) 65 ((mz_up (mz_up (mz_up (mz_up (mz_cp (mz_set (mz_set w 57 re1) 59 ge1) 58 59 0 0 30) 57 1 (nI Be1)) 65 19 0) 65 20 (nI jxa)) 65 21 0) 65)) 74 ((mz_up (mz_cp (mz_set (mz_set w 57 re1) 59 ge1) 58 59 0 0 30) 57 1 (nI Be1)) 74) := sm_of2 (fun i h1 h2 => by simp only [mz_up_ne h1])
            obtain ⟨ve2, re2, ge2, Ee2, We2⟩ := vs1_1_any (m := mz_up (mz_cp (mz_set (mz_set w 57 re1) 59 ge1) 58 59 0 0 30) 57 1 (nI Be1)) (w := w) hr2 (r := ((mz_up (mz_up (mz_up (mz_up (mz_cp (mz_set (mz_set w 57 re1) 59 ge1) 58 59 0 0 30) 57 1 (nI Be1)) 65 19 0) 65 20 (nI jxa)) 65 21 0) 65)) (g := (mz_up (mz_cp (mz_set (mz_set w 57 re1) 59 ge1) 58 59 0 0 30) 57 1 (nI Be1)) 74) ⟨⟨0, by decide, rfl⟩, Or.inl rfl⟩ (j := jxa) (by omega) ekk hcc rfl (f := cc) hcc xc
            rw [← hve2, ← ekk] at Ee2
            obtain ⟨⟨⟨Be2, hBe2, be2⟩, pe2⟩, Ke2⟩ := We2
            by_cases q11 : (re2 21) = 0
            · refine ⟨ve1, ve2, mz_up (mz_cp (mz_set (mz_set w 57 re1) 59 ge1) 58 59 0 0 30) 57 1 (nI Be1), mz_set (mz_set (mz_up (mz_cp (mz_set (mz_set w 57 re1) 59 ge1) 58 59 0 0 30) 57 1 (nI Be1)) 65 re2) 74 ge2, ⟨?_, rfl⟩, ⟨?_, rfl⟩, ?_⟩
              · refine mz_go 4 (c' := (8, [some (.ref 0), some (.int (nI jxa)), some (.int 1), some (.int xc), none], [.int (nI jxa), .ref 2], w)) rfl ?_
                refine mz_doQ (R := mz_r21) (as := [.ref 2, .int (nI jxa)]) (rest := []) (r1 := some (.int 1)) (m1 := w) mz_t21 mz_v21_2 rfl rfl rfl rfl rfl ((cs_has hN (m := w) h4 (show jxa < N by omega)).deep (by decide)) ?_
                refine mz_go 4 (c' := (17, [some (.ref 0), some (.int (nI jxa)), some (.int 1), some (.int xc), none], [.int 3, .int 0, .int 1], w)) rfl ?_
                refine mz_doQ (R := mz_r121) (as := [.int 1, .int 0, .int 3]) (rest := []) (r1 := some (.int 1)) (m1 := w) mz_t121 mz_v121 rfl rfl rfl rfl rfl ⟨?_, rfl⟩ ?_
                · refine mz_go 8 (c' := (15, [some (.int 1), some (.int 0), some (.int 3)], [.int 1], w)) rfl ?_
                  exact mz_ret rfl
                refine mz_go 9 (c' := (43, [some (.ref 0), some (.int (nI jxa)), some (.int 1), some (.int xc), none], [.int xc, .int 1, .int (nI jxa), .ref 2, .ref 57], w)) rfl ?_
                refine mz_doQ (R := mz_r60) (as := [.ref 57, .ref 2, .int (nI jxa), .int 1, .int xc]) (rest := []) (r1 := some (.int ve1)) (m1 := mz_set (mz_set w 57 re1) 59 ge1) mz_t60 mz_v60_57 rfl rfl rfl rfl rfl ⟨?_, rfl⟩ ?_
                · refine mz_go 8 (c' := (12, [some (.ref 57), some (.ref 2), some (.int (nI jxa)), some (.int 1), some (.int xc)], [.int (nI jxa), .ref 2], mz_up (mz_up w 57 2 0) 57 4 0)) rfl ?_
                  refine mz_doQ (R := mz_r21) (as := [.ref 2, .int (nI jxa)]) (rest := []) (r1 := some (.int 1)) (m1 := mz_up (mz_up w 57 2 0) 57 4 0) mz_t21 mz_v21_2 rfl rfl rfl rfl rfl ((cs_has hN (m := mz_up (mz_up w 57 2 0) 57 4 0) h4 (show jxa < N by omega)).deep (by decide)) ?_
                  refine mz_go 5 (c' := (26, [some (.ref 57), some (.ref 2), some (.int (nI jxa)), some (.int 1), some (.int xc)], [.int (nI jxa), .ref 3, .ref 57], mz_up (mz_up w 57 2 0) 57 4 0)) rfl ?_
                  refine mz_arr (c' := (27, [some (.ref 57), some (.ref 2), some (.int (nI jxa)), some (.int 1), some (.int xc)], [.int (w 3 ((nI jxa).toNatClampNeg)), .ref 57], mz_up (mz_up w 57 2 0) 57 4 0)) rfl (show mz_in (nI jxa) 6 = true from sm_inN rfl (show jxa < 6 by omega) (by decide)) ?_
                  rw [show (nI jxa : Int32).toNatClampNeg = jxa from sm_clN rfl (show jxa < 2 ^ 31 by omega)]
                  refine mz_go 8 (c' := (41, [some (.ref 57), some (.ref 2), some (.int (nI jxa)), some (.int 1), some (.int xc)], [.int (nI jxa), .ref 6, .ref 57], mz_up (mz_up (mz_up (mz_up w 57 2 0) 57 4 0) 57 5 (w 3 jxa)) 57 6 (nI jxa))) rfl ?_
                  refine mz_arr (c' := (42, [some (.ref 57), some (.ref 2), some (.int (nI jxa)), some (.int 1), some (.int xc)], [.int (w 6 ((nI jxa).toNatClampNeg)), .ref 57], mz_up (mz_up (mz_up (mz_up w 57 2 0) 57 4 0) 57 5 (w 3 jxa)) 57 6 (nI jxa))) rfl (show mz_in (nI jxa) 6 = true from sm_inN rfl (show jxa < 6 by omega) (by decide)) ?_
                  rw [show (nI jxa : Int32).toNatClampNeg = jxa from sm_clN rfl (show jxa < 2 ^ 31 by omega)]
                  refine mz_go 7 (c' := (54, [some (.ref 57), some (.ref 2), some (.int (nI jxa)), some (.int 1), some (.int xc)], [.int 0, .int xc, .int (w 3 jxa), .int 1, .ref 57], mz_up (mz_up (mz_up (mz_up (mz_up w 57 2 0) 57 4 0) 57 5 (w 3 jxa)) 57 6 (nI jxa)) 57 7 (w 6 jxa))) rfl ?_
                  refine mz_doQ (R := mz_r62) (as := [.ref 57, .int 1, .int (w 3 jxa), .int xc, .int 0]) (rest := []) (r1 := some (.int ve1)) (m1 := mz_set (mz_set w 57 re1) 59 ge1) mz_t62 mz_v62_57 rfl rfl rfl rfl rfl (Ee1.deep (by decide)) ?_
                  exact mz_ret rfl
                refine mz_go 5 (c' := (if (re1 2) = 0 then 65 else 58, [some (.ref 0), some (.int (nI jxa)), some (.int 1), some (.int xc), some (.int ve1)], [], mz_set (mz_set w 57 re1) 59 ge1)) rfl ?_
                refine mz_ifT q10 ?_
                refine mz_go 2 (c' := (69, [some (.ref 0), some (.int (nI jxa)), some (.int 1), some (.int xc), some (.int ve1)], [.ref 57], mz_set (mz_set w 57 re1) 59 ge1)) rfl ?_
                refine mz_doQ (R := mz_r61) (as := [.ref 57]) (rest := []) (r1 := none) (m1 := mz_up (mz_cp (mz_set (mz_set w 57 re1) 59 ge1) 58 59 0 0 30) 57 1 (nI Be1)) mz_t61 mz_v61_57 rfl rfl rfl rfl rfl ⟨?_, rfl⟩ ?_
                · refine mz_go 4 (c' := (8, [some (.ref 57)], [.ref 58, .ref 59], mz_set (mz_set w 57 re1) 59 ge1)) rfl ?_
                  refine mz_doQ (R := mz_r126) (as := [.ref 59, .ref 58]) (rest := []) (r1 := none) (m1 := mz_cp (mz_set (mz_set w 57 re1) 59 ge1) 58 59 0 0 30) mz_t126 mz_v126_59 rfl rfl rfl rfl rfl ⟨?_, rfl⟩ ?_
                  · refine mz_go 10 (c' := (14, [some (.ref 59), some (.ref 58)], [], mz_cp (mz_set (mz_set w 57 re1) 59 ge1) 58 59 0 0 30)) rfl ?_
                    exact mz_ret rfl
                  refine mz_go 3 (c' := (16, [some (.ref 57)], [.int (re1 4), .ref 57], mz_cp (mz_set (mz_set w 57 re1) 59 ge1) 58 59 0 0 30)) rfl ?_
                  rw [be1]
                  refine mz_go 1 (c' := (19, [some (.ref 57)], [], mz_up (mz_cp (mz_set (mz_set w 57 re1) 59 ge1) 58 59 0 0 30) 57 1 (nI Be1))) rfl ?_
                  exact mz_ret rfl
                refine mz_go 1 (c' := (74, [some (.ref 0), some (.int (nI jxa)), some (.int 1), some (.int xc), some (.int ve1)], [.int ve1], mz_up (mz_cp (mz_set (mz_set w 57 re1) 59 ge1) 58 59 0 0 30) 57 1 (nI Be1))) rfl ?_
                exact mz_ret rfl
              · refine mz_go 2 (c' := (2, [some (.ref 65), some (.int (nI jxa)), some (.int 1), some (.int xc), none, none], [.int (nI jxa), .ref 65], mz_up (mz_cp (mz_set (mz_set w 57 re1) 59 ge1) 58 59 0 0 30) 57 1 (nI Be1))) rfl ?_
                refine mz_doQ (R := mz_r132) (as := [.ref 65, .int (nI jxa)]) (rest := []) (r1 := some (.int 1)) (m1 := mz_up (mz_cp (mz_set (mz_set w 57 re1) 59 ge1) 58 59 0 0 30) 57 1 (nI Be1)) mz_t132 mz_v132_65 rfl rfl rfl rfl rfl ⟨?_, rfl⟩ ?_
                · refine mz_go 6 (c' := (8, [some (.ref 65), some (.int (nI jxa))], [.int (w 66 0), .int 0, .int (nI jxa)], mz_up (mz_cp (mz_set (mz_set w 57 re1) 59 ge1) 58 59 0 0 30) 57 1 (nI Be1))) rfl ?_
                  rw [h660]
                  refine mz_go 2 (c' := (10, [some (.ref 65), some (.int (nI jxa))], [.int ((nI N) - 1), .int 0, .int (nI jxa)], mz_up (mz_cp (mz_set (mz_set w 57 re1) 59 ge1) 58 59 0 0 30) 57 1 (nI Be1))) rfl ?_
                  refine mz_doQ (R := mz_r128) (as := [.int (nI jxa), .int 0, .int ((nI N) - 1)]) (rest := []) (r1 := some (.int 1)) (m1 := mz_up (mz_cp (mz_set (mz_set w 57 re1) 59 ge1) 58 59 0 0 30) 57 1 (nI Be1)) mz_t128 mz_v128 rfl rfl rfl rfl rfl ⟨?_, rfl⟩ ?_
                  · refine mz_go 3 (c' := (if (nI jxa) < 0 then 14 else 5, [some (.int (nI jxa)), some (.int 0), some (.int ((nI N) - 1))], [], mz_up (mz_cp (mz_set (mz_set w 57 re1) 59 ge1) 58 59 0 0 30) 57 1 (nI Be1))) rfl ?_
                    refine mz_ifF q1 ?_
                    refine mz_go 3 (c' := (if ((nI N) - 1) < (nI jxa) then 14 else 10, [some (.int (nI jxa)), some (.int 0), some (.int ((nI N) - 1))], [], mz_up (mz_cp (mz_set (mz_set w 57 re1) 59 ge1) 58 59 0 0 30) 57 1 (nI Be1))) rfl ?_
                    refine mz_ifF (show ¬ (((nI N) - 1) < (nI jxa)) from (sm_nltN (sm_subN (a := N) (b := 1) rfl rfl (by omega)) rfl (show jxa ≤ (N - 1) by omega) (show (N - 1) < 2 ^ 31 by omega))) ?_
                    refine mz_go 2 (c' := (15, [some (.int (nI jxa)), some (.int 0), some (.int ((nI N) - 1))], [.int 1], mz_up (mz_cp (mz_set (mz_set w 57 re1) 59 ge1) 58 59 0 0 30) 57 1 (nI Be1))) rfl ?_
                    exact mz_ret rfl
                  exact mz_ret rfl
                refine mz_go 4 (c' := (11, [some (.ref 65), some (.int (nI jxa)), some (.int 1), some (.int xc), none, none], [.int 3, .int 0, .int 1], mz_up (mz_cp (mz_set (mz_set w 57 re1) 59 ge1) 58 59 0 0 30) 57 1 (nI Be1))) rfl ?_
                refine mz_doQ (R := mz_r128) (as := [.int 1, .int 0, .int 3]) (rest := []) (r1 := some (.int 1)) (m1 := mz_up (mz_cp (mz_set (mz_set w 57 re1) 59 ge1) 58 59 0 0 30) 57 1 (nI Be1)) mz_t128 mz_v128 rfl rfl rfl rfl rfl ⟨?_, rfl⟩ ?_
                · refine mz_go 8 (c' := (15, [some (.int 1), some (.int 0), some (.int 3)], [.int 1], mz_up (mz_cp (mz_set (mz_set w 57 re1) 59 ge1) 58 59 0 0 30) 57 1 (nI Be1))) rfl ?_
                  exact mz_ret rfl
                refine mz_go 11 (c' := (39, [some (.ref 65), some (.int (nI jxa)), some (.int 1), some (.int xc), none, none], [.ref 65], mz_up (mz_up (mz_up (mz_up (mz_cp (mz_set (mz_set w 57 re1) 59 ge1) 58 59 0 0 30) 57 1 (nI Be1)) 65 19 0) 65 20 (nI jxa)) 65 21 0)) rfl ?_
                refine mz_doQ (R := mz_r211) (as := [.ref 65]) (rest := []) (r1 := some (.int (w 3 jxa))) (m1 := mz_up (mz_up (mz_up (mz_up (mz_cp (mz_set (mz_set w 57 re1) 59 ge1) 58 59 0 0 30) 57 1 (nI Be1)) 65 19 0) 65 20 (nI jxa)) 65 21 0) mz_t211 mz_v211_65 rfl rfl rfl rfl rfl ⟨?_, rfl⟩ ?_
                · refine mz_go 4 (c' := (6, [some (.ref 65)], [.int 0, .int (nI jxa), .ref 65], mz_up (mz_up (mz_up (mz_up (mz_cp (mz_set (mz_set w 57 re1) 59 ge1) 58 59 0 0 30) 57 1 (nI Be1)) 65 19 0) 65 20 (nI jxa)) 65 21 0)) rfl ?_
                  refine mz_doQ (R := mz_r133) (as := [.ref 65, .int (nI jxa), .int 0]) (rest := []) (r1 := some (.int (w 3 jxa))) (m1 := mz_up (mz_up (mz_up (mz_up (mz_cp (mz_set (mz_set w 57 re1) 59 ge1) 58 59 0 0 30) 57 1 (nI Be1)) 65 19 0) 65 20 (nI jxa)) 65 21 0) mz_t133 mz_v133_65 rfl rfl rfl rfl rfl ⟨?_, rfl⟩ ?_
                  · refine mz_go 9 (c' := (12, [some (.ref 65), some (.int (nI jxa)), some (.int 0)], [.int ((30 + (4 * (nI jxa))) + 0), .ref 66], mz_up (mz_up (mz_up (mz_up (mz_cp (mz_set (mz_set w 57 re1) 59 ge1) 58 59 0 0 30) 57 1 (nI Be1)) 65 19 0) 65 20 (nI jxa)) 65 21 0)) rfl ?_
                    refine mz_arr (c' := (13, [some (.ref 65), some (.int (nI jxa)), some (.int 0)], [.int (w 66 (((30 + (4 * (nI jxa))) + 0).toNatClampNeg))], mz_up (mz_up (mz_up (mz_up (mz_cp (mz_set (mz_set w 57 re1) 59 ge1) 58 59 0 0 30) 57 1 (nI Be1)) 65 19 0) 65 20 (nI jxa)) 65 21 0)) rfl (show mz_in ((30 + (4 * (nI jxa))) + 0) 650 = true from sm_inN (sm_addN (sm_addN rfl (sm_mulN rfl rfl)) rfl) (show ((30 + (4 * jxa)) + 0) < 650 by omega) (by decide)) ?_
                    rw [show ((30 + (4 * (nI jxa))) + 0 : Int32).toNatClampNeg = ((30 + (4 * jxa)) + 0) from sm_clN (sm_addN (sm_addN rfl (sm_mulN rfl rfl)) rfl) (show ((30 + (4 * jxa)) + 0) < 2 ^ 31 by omega)]
                    rw [show w 66 ((30 + (4 * jxa)) + 0) = w 3 jxa from (hr2.2.1 jxa (by omega)).1]
                    exact mz_ret rfl
                  exact mz_ret rfl
                refine mz_go 9 (c' := (67, [some (.ref 65), some (.int (nI jxa)), some (.int 1), some (.int xc), some (.int (w 3 jxa)), none], [.int xc, .int (w 3 jxa), .ref 65], mz_up (mz_up (mz_up (mz_up (mz_cp (mz_set (mz_set w 57 re1) 59 ge1) 58 59 0 0 30) 57 1 (nI Be1)) 65 19 0) 65 20 (nI jxa)) 65 21 0)) rfl ?_
                refine mz_doQ (R := mz_r214) (as := [.ref 65, .int (w 3 jxa), .int xc]) (rest := []) (r1 := some (.int ve2)) (m1 := mz_set (mz_set (mz_up (mz_cp (mz_set (mz_set w 57 re1) 59 ge1) 58 59 0 0 30) 57 1 (nI Be1)) 65 re2) 74 ge2) mz_t214 mz_v214_65 rfl rfl rfl rfl rfl (Ee2.deep (by decide)) ?_
                refine mz_go 5 (c' := (if (re2 21) = 0 then 113 else 104, [some (.ref 65), some (.int (nI jxa)), some (.int 1), some (.int xc), some (.int (w 3 jxa)), some (.int ve2)], [], mz_set (mz_set (mz_up (mz_cp (mz_set (mz_set w 57 re1) 59 ge1) 58 59 0 0 30) 57 1 (nI Be1)) 65 re2) 74 ge2)) rfl ?_
                refine mz_ifT q11 ?_
                refine mz_go 1 (c' := (115, [some (.ref 65), some (.int (nI jxa)), some (.int 1), some (.int xc), some (.int (w 3 jxa)), some (.int ve2)], [.int ve2], mz_set (mz_set (mz_up (mz_cp (mz_set (mz_set w 57 re1) 59 ge1) 58 59 0 0 30) 57 1 (nI Be1)) 65 re2) 74 ge2)) rfl ?_
                exact mz_ret rfl
              · exact sm_I_tr hn hI2 (fun i hi h1 => by
                  have hne : ∀ r, sm_scr r = true → i ≠ r := fun r hr e => by
                    rw [e, hr] at hi
                    cases hi
                  simp only [mz_cp_ne (hne 58 rfl), mz_set_ne (hne 59 rfl), mz_set_ne (hne 65 rfl), mz_set_ne (hne 74 rfl), mz_set_ne h1, mz_up_ne h1]) (show (mz_set (mz_set (mz_up (mz_cp (mz_set (mz_set w 57 re1) 59 ge1) 58 59 0 0 30) 57 1 (nI Be1)) 65 re2) 74 ge2) 65 2 = w 65 2 from Ke2 2 (by decide) (by decide)) ⟨(sm_Nto (n := 30) (k := Be1) (by decide) (by omega)), (by rw [show (mz_set (mz_set (mz_up (mz_cp (mz_set (mz_set w 57 re1) 59 ge1) 58 59 0 0 30) 57 1 (nI Be1)) 65 re2) 74 ge2) 65 19 = nI Be2 from be2]; exact sm_Nto (n := 30) (by decide) hBe2)⟩
            · refine ⟨ve1, (-1000006), mz_up (mz_cp (mz_set (mz_set w 57 re1) 59 ge1) 58 59 0 0 30) 57 1 (nI Be1), mz_up (mz_set (mz_set (mz_up (mz_cp (mz_set (mz_set w 57 re1) 59 ge1) 58 59 0 0 30) 57 1 (nI Be1)) 65 re2) 74 ge2) 68 6 ((w 68 6) + 1), ⟨?_, rfl⟩, ⟨?_, rfl⟩, ?_⟩
              · refine mz_go 4 (c' := (8, [some (.ref 0), some (.int (nI jxa)), some (.int 1), some (.int xc), none], [.int (nI jxa), .ref 2], w)) rfl ?_
                refine mz_doQ (R := mz_r21) (as := [.ref 2, .int (nI jxa)]) (rest := []) (r1 := some (.int 1)) (m1 := w) mz_t21 mz_v21_2 rfl rfl rfl rfl rfl ((cs_has hN (m := w) h4 (show jxa < N by omega)).deep (by decide)) ?_
                refine mz_go 4 (c' := (17, [some (.ref 0), some (.int (nI jxa)), some (.int 1), some (.int xc), none], [.int 3, .int 0, .int 1], w)) rfl ?_
                refine mz_doQ (R := mz_r121) (as := [.int 1, .int 0, .int 3]) (rest := []) (r1 := some (.int 1)) (m1 := w) mz_t121 mz_v121 rfl rfl rfl rfl rfl ⟨?_, rfl⟩ ?_
                · refine mz_go 8 (c' := (15, [some (.int 1), some (.int 0), some (.int 3)], [.int 1], w)) rfl ?_
                  exact mz_ret rfl
                refine mz_go 9 (c' := (43, [some (.ref 0), some (.int (nI jxa)), some (.int 1), some (.int xc), none], [.int xc, .int 1, .int (nI jxa), .ref 2, .ref 57], w)) rfl ?_
                refine mz_doQ (R := mz_r60) (as := [.ref 57, .ref 2, .int (nI jxa), .int 1, .int xc]) (rest := []) (r1 := some (.int ve1)) (m1 := mz_set (mz_set w 57 re1) 59 ge1) mz_t60 mz_v60_57 rfl rfl rfl rfl rfl ⟨?_, rfl⟩ ?_
                · refine mz_go 8 (c' := (12, [some (.ref 57), some (.ref 2), some (.int (nI jxa)), some (.int 1), some (.int xc)], [.int (nI jxa), .ref 2], mz_up (mz_up w 57 2 0) 57 4 0)) rfl ?_
                  refine mz_doQ (R := mz_r21) (as := [.ref 2, .int (nI jxa)]) (rest := []) (r1 := some (.int 1)) (m1 := mz_up (mz_up w 57 2 0) 57 4 0) mz_t21 mz_v21_2 rfl rfl rfl rfl rfl ((cs_has hN (m := mz_up (mz_up w 57 2 0) 57 4 0) h4 (show jxa < N by omega)).deep (by decide)) ?_
                  refine mz_go 5 (c' := (26, [some (.ref 57), some (.ref 2), some (.int (nI jxa)), some (.int 1), some (.int xc)], [.int (nI jxa), .ref 3, .ref 57], mz_up (mz_up w 57 2 0) 57 4 0)) rfl ?_
                  refine mz_arr (c' := (27, [some (.ref 57), some (.ref 2), some (.int (nI jxa)), some (.int 1), some (.int xc)], [.int (w 3 ((nI jxa).toNatClampNeg)), .ref 57], mz_up (mz_up w 57 2 0) 57 4 0)) rfl (show mz_in (nI jxa) 6 = true from sm_inN rfl (show jxa < 6 by omega) (by decide)) ?_
                  rw [show (nI jxa : Int32).toNatClampNeg = jxa from sm_clN rfl (show jxa < 2 ^ 31 by omega)]
                  refine mz_go 8 (c' := (41, [some (.ref 57), some (.ref 2), some (.int (nI jxa)), some (.int 1), some (.int xc)], [.int (nI jxa), .ref 6, .ref 57], mz_up (mz_up (mz_up (mz_up w 57 2 0) 57 4 0) 57 5 (w 3 jxa)) 57 6 (nI jxa))) rfl ?_
                  refine mz_arr (c' := (42, [some (.ref 57), some (.ref 2), some (.int (nI jxa)), some (.int 1), some (.int xc)], [.int (w 6 ((nI jxa).toNatClampNeg)), .ref 57], mz_up (mz_up (mz_up (mz_up w 57 2 0) 57 4 0) 57 5 (w 3 jxa)) 57 6 (nI jxa))) rfl (show mz_in (nI jxa) 6 = true from sm_inN rfl (show jxa < 6 by omega) (by decide)) ?_
                  rw [show (nI jxa : Int32).toNatClampNeg = jxa from sm_clN rfl (show jxa < 2 ^ 31 by omega)]
                  refine mz_go 7 (c' := (54, [some (.ref 57), some (.ref 2), some (.int (nI jxa)), some (.int 1), some (.int xc)], [.int 0, .int xc, .int (w 3 jxa), .int 1, .ref 57], mz_up (mz_up (mz_up (mz_up (mz_up w 57 2 0) 57 4 0) 57 5 (w 3 jxa)) 57 6 (nI jxa)) 57 7 (w 6 jxa))) rfl ?_
                  refine mz_doQ (R := mz_r62) (as := [.ref 57, .int 1, .int (w 3 jxa), .int xc, .int 0]) (rest := []) (r1 := some (.int ve1)) (m1 := mz_set (mz_set w 57 re1) 59 ge1) mz_t62 mz_v62_57 rfl rfl rfl rfl rfl (Ee1.deep (by decide)) ?_
                  exact mz_ret rfl
                refine mz_go 5 (c' := (if (re1 2) = 0 then 65 else 58, [some (.ref 0), some (.int (nI jxa)), some (.int 1), some (.int xc), some (.int ve1)], [], mz_set (mz_set w 57 re1) 59 ge1)) rfl ?_
                refine mz_ifT q10 ?_
                refine mz_go 2 (c' := (69, [some (.ref 0), some (.int (nI jxa)), some (.int 1), some (.int xc), some (.int ve1)], [.ref 57], mz_set (mz_set w 57 re1) 59 ge1)) rfl ?_
                refine mz_doQ (R := mz_r61) (as := [.ref 57]) (rest := []) (r1 := none) (m1 := mz_up (mz_cp (mz_set (mz_set w 57 re1) 59 ge1) 58 59 0 0 30) 57 1 (nI Be1)) mz_t61 mz_v61_57 rfl rfl rfl rfl rfl ⟨?_, rfl⟩ ?_
                · refine mz_go 4 (c' := (8, [some (.ref 57)], [.ref 58, .ref 59], mz_set (mz_set w 57 re1) 59 ge1)) rfl ?_
                  refine mz_doQ (R := mz_r126) (as := [.ref 59, .ref 58]) (rest := []) (r1 := none) (m1 := mz_cp (mz_set (mz_set w 57 re1) 59 ge1) 58 59 0 0 30) mz_t126 mz_v126_59 rfl rfl rfl rfl rfl ⟨?_, rfl⟩ ?_
                  · refine mz_go 10 (c' := (14, [some (.ref 59), some (.ref 58)], [], mz_cp (mz_set (mz_set w 57 re1) 59 ge1) 58 59 0 0 30)) rfl ?_
                    exact mz_ret rfl
                  refine mz_go 3 (c' := (16, [some (.ref 57)], [.int (re1 4), .ref 57], mz_cp (mz_set (mz_set w 57 re1) 59 ge1) 58 59 0 0 30)) rfl ?_
                  rw [be1]
                  refine mz_go 1 (c' := (19, [some (.ref 57)], [], mz_up (mz_cp (mz_set (mz_set w 57 re1) 59 ge1) 58 59 0 0 30) 57 1 (nI Be1))) rfl ?_
                  exact mz_ret rfl
                refine mz_go 1 (c' := (74, [some (.ref 0), some (.int (nI jxa)), some (.int 1), some (.int xc), some (.int ve1)], [.int ve1], mz_up (mz_cp (mz_set (mz_set w 57 re1) 59 ge1) 58 59 0 0 30) 57 1 (nI Be1))) rfl ?_
                exact mz_ret rfl
              · refine mz_go 2 (c' := (2, [some (.ref 65), some (.int (nI jxa)), some (.int 1), some (.int xc), none, none], [.int (nI jxa), .ref 65], mz_up (mz_cp (mz_set (mz_set w 57 re1) 59 ge1) 58 59 0 0 30) 57 1 (nI Be1))) rfl ?_
                refine mz_doQ (R := mz_r132) (as := [.ref 65, .int (nI jxa)]) (rest := []) (r1 := some (.int 1)) (m1 := mz_up (mz_cp (mz_set (mz_set w 57 re1) 59 ge1) 58 59 0 0 30) 57 1 (nI Be1)) mz_t132 mz_v132_65 rfl rfl rfl rfl rfl ⟨?_, rfl⟩ ?_
                · refine mz_go 6 (c' := (8, [some (.ref 65), some (.int (nI jxa))], [.int (w 66 0), .int 0, .int (nI jxa)], mz_up (mz_cp (mz_set (mz_set w 57 re1) 59 ge1) 58 59 0 0 30) 57 1 (nI Be1))) rfl ?_
                  rw [h660]
                  refine mz_go 2 (c' := (10, [some (.ref 65), some (.int (nI jxa))], [.int ((nI N) - 1), .int 0, .int (nI jxa)], mz_up (mz_cp (mz_set (mz_set w 57 re1) 59 ge1) 58 59 0 0 30) 57 1 (nI Be1))) rfl ?_
                  refine mz_doQ (R := mz_r128) (as := [.int (nI jxa), .int 0, .int ((nI N) - 1)]) (rest := []) (r1 := some (.int 1)) (m1 := mz_up (mz_cp (mz_set (mz_set w 57 re1) 59 ge1) 58 59 0 0 30) 57 1 (nI Be1)) mz_t128 mz_v128 rfl rfl rfl rfl rfl ⟨?_, rfl⟩ ?_
                  · refine mz_go 3 (c' := (if (nI jxa) < 0 then 14 else 5, [some (.int (nI jxa)), some (.int 0), some (.int ((nI N) - 1))], [], mz_up (mz_cp (mz_set (mz_set w 57 re1) 59 ge1) 58 59 0 0 30) 57 1 (nI Be1))) rfl ?_
                    refine mz_ifF q1 ?_
                    refine mz_go 3 (c' := (if ((nI N) - 1) < (nI jxa) then 14 else 10, [some (.int (nI jxa)), some (.int 0), some (.int ((nI N) - 1))], [], mz_up (mz_cp (mz_set (mz_set w 57 re1) 59 ge1) 58 59 0 0 30) 57 1 (nI Be1))) rfl ?_
                    refine mz_ifF (show ¬ (((nI N) - 1) < (nI jxa)) from (sm_nltN (sm_subN (a := N) (b := 1) rfl rfl (by omega)) rfl (show jxa ≤ (N - 1) by omega) (show (N - 1) < 2 ^ 31 by omega))) ?_
                    refine mz_go 2 (c' := (15, [some (.int (nI jxa)), some (.int 0), some (.int ((nI N) - 1))], [.int 1], mz_up (mz_cp (mz_set (mz_set w 57 re1) 59 ge1) 58 59 0 0 30) 57 1 (nI Be1))) rfl ?_
                    exact mz_ret rfl
                  exact mz_ret rfl
                refine mz_go 4 (c' := (11, [some (.ref 65), some (.int (nI jxa)), some (.int 1), some (.int xc), none, none], [.int 3, .int 0, .int 1], mz_up (mz_cp (mz_set (mz_set w 57 re1) 59 ge1) 58 59 0 0 30) 57 1 (nI Be1))) rfl ?_
                refine mz_doQ (R := mz_r128) (as := [.int 1, .int 0, .int 3]) (rest := []) (r1 := some (.int 1)) (m1 := mz_up (mz_cp (mz_set (mz_set w 57 re1) 59 ge1) 58 59 0 0 30) 57 1 (nI Be1)) mz_t128 mz_v128 rfl rfl rfl rfl rfl ⟨?_, rfl⟩ ?_
                · refine mz_go 8 (c' := (15, [some (.int 1), some (.int 0), some (.int 3)], [.int 1], mz_up (mz_cp (mz_set (mz_set w 57 re1) 59 ge1) 58 59 0 0 30) 57 1 (nI Be1))) rfl ?_
                  exact mz_ret rfl
                refine mz_go 11 (c' := (39, [some (.ref 65), some (.int (nI jxa)), some (.int 1), some (.int xc), none, none], [.ref 65], mz_up (mz_up (mz_up (mz_up (mz_cp (mz_set (mz_set w 57 re1) 59 ge1) 58 59 0 0 30) 57 1 (nI Be1)) 65 19 0) 65 20 (nI jxa)) 65 21 0)) rfl ?_
                refine mz_doQ (R := mz_r211) (as := [.ref 65]) (rest := []) (r1 := some (.int (w 3 jxa))) (m1 := mz_up (mz_up (mz_up (mz_up (mz_cp (mz_set (mz_set w 57 re1) 59 ge1) 58 59 0 0 30) 57 1 (nI Be1)) 65 19 0) 65 20 (nI jxa)) 65 21 0) mz_t211 mz_v211_65 rfl rfl rfl rfl rfl ⟨?_, rfl⟩ ?_
                · refine mz_go 4 (c' := (6, [some (.ref 65)], [.int 0, .int (nI jxa), .ref 65], mz_up (mz_up (mz_up (mz_up (mz_cp (mz_set (mz_set w 57 re1) 59 ge1) 58 59 0 0 30) 57 1 (nI Be1)) 65 19 0) 65 20 (nI jxa)) 65 21 0)) rfl ?_
                  refine mz_doQ (R := mz_r133) (as := [.ref 65, .int (nI jxa), .int 0]) (rest := []) (r1 := some (.int (w 3 jxa))) (m1 := mz_up (mz_up (mz_up (mz_up (mz_cp (mz_set (mz_set w 57 re1) 59 ge1) 58 59 0 0 30) 57 1 (nI Be1)) 65 19 0) 65 20 (nI jxa)) 65 21 0) mz_t133 mz_v133_65 rfl rfl rfl rfl rfl ⟨?_, rfl⟩ ?_
                  · refine mz_go 9 (c' := (12, [some (.ref 65), some (.int (nI jxa)), some (.int 0)], [.int ((30 + (4 * (nI jxa))) + 0), .ref 66], mz_up (mz_up (mz_up (mz_up (mz_cp (mz_set (mz_set w 57 re1) 59 ge1) 58 59 0 0 30) 57 1 (nI Be1)) 65 19 0) 65 20 (nI jxa)) 65 21 0)) rfl ?_
                    refine mz_arr (c' := (13, [some (.ref 65), some (.int (nI jxa)), some (.int 0)], [.int (w 66 (((30 + (4 * (nI jxa))) + 0).toNatClampNeg))], mz_up (mz_up (mz_up (mz_up (mz_cp (mz_set (mz_set w 57 re1) 59 ge1) 58 59 0 0 30) 57 1 (nI Be1)) 65 19 0) 65 20 (nI jxa)) 65 21 0)) rfl (show mz_in ((30 + (4 * (nI jxa))) + 0) 650 = true from sm_inN (sm_addN (sm_addN rfl (sm_mulN rfl rfl)) rfl) (show ((30 + (4 * jxa)) + 0) < 650 by omega) (by decide)) ?_
                    rw [show ((30 + (4 * (nI jxa))) + 0 : Int32).toNatClampNeg = ((30 + (4 * jxa)) + 0) from sm_clN (sm_addN (sm_addN rfl (sm_mulN rfl rfl)) rfl) (show ((30 + (4 * jxa)) + 0) < 2 ^ 31 by omega)]
                    rw [show w 66 ((30 + (4 * jxa)) + 0) = w 3 jxa from (hr2.2.1 jxa (by omega)).1]
                    exact mz_ret rfl
                  exact mz_ret rfl
                refine mz_go 9 (c' := (67, [some (.ref 65), some (.int (nI jxa)), some (.int 1), some (.int xc), some (.int (w 3 jxa)), none], [.int xc, .int (w 3 jxa), .ref 65], mz_up (mz_up (mz_up (mz_up (mz_cp (mz_set (mz_set w 57 re1) 59 ge1) 58 59 0 0 30) 57 1 (nI Be1)) 65 19 0) 65 20 (nI jxa)) 65 21 0)) rfl ?_
                refine mz_doQ (R := mz_r214) (as := [.ref 65, .int (w 3 jxa), .int xc]) (rest := []) (r1 := some (.int ve2)) (m1 := mz_set (mz_set (mz_up (mz_cp (mz_set (mz_set w 57 re1) 59 ge1) 58 59 0 0 30) 57 1 (nI Be1)) 65 re2) 74 ge2) mz_t214 mz_v214_65 rfl rfl rfl rfl rfl (Ee2.deep (by decide)) ?_
                refine mz_go 5 (c' := (if (re2 21) = 0 then 113 else 104, [some (.ref 65), some (.int (nI jxa)), some (.int 1), some (.int xc), some (.int (w 3 jxa)), some (.int ve2)], [], mz_set (mz_set (mz_up (mz_cp (mz_set (mz_set w 57 re1) 59 ge1) 58 59 0 0 30) 57 1 (nI Be1)) 65 re2) 74 ge2)) rfl ?_
                refine mz_ifF q11 ?_
                refine mz_go 2 (c' := (107, [some (.ref 65), some (.int (nI jxa)), some (.int 1), some (.int xc), some (.int (w 3 jxa)), some (.int ve2)], [.int 6, .ref 65], mz_set (mz_set (mz_up (mz_cp (mz_set (mz_set w 57 re1) 59 ge1) 58 59 0 0 30) 57 1 (nI Be1)) 65 re2) 74 ge2)) rfl ?_
                refine mz_doQ (R := mz_r127) (as := [.ref 65, .int 6]) (rest := []) (r1 := some (.int (-1000006))) (m1 := mz_up (mz_set (mz_set (mz_up (mz_cp (mz_set (mz_set w 57 re1) 59 ge1) 58 59 0 0 30) 57 1 (nI Be1)) 65 re2) 74 ge2) 68 6 ((w 68 6) + 1)) mz_t127 mz_v127_65 rfl rfl rfl rfl rfl ⟨?_, rfl⟩ ?_
                · refine mz_go 11 (c' := (14, [some (.ref 65), some (.int 6)], [.int (-1000006)], mz_up (mz_set (mz_set (mz_up (mz_cp (mz_set (mz_set w 57 re1) 59 ge1) 58 59 0 0 30) 57 1 (nI Be1)) 65 re2) 74 ge2) 68 6 ((w 68 6) + 1))) rfl ?_
                  exact mz_ret rfl
                refine mz_go 1 (c' := (115, [some (.ref 65), some (.int (nI jxa)), some (.int 1), some (.int xc), some (.int (w 3 jxa)), some (.int ve2)], [.int (-1000006)], mz_up (mz_set (mz_set (mz_up (mz_cp (mz_set (mz_set w 57 re1) 59 ge1) 58 59 0 0 30) 57 1 (nI Be1)) 65 re2) 74 ge2) 68 6 ((w 68 6) + 1))) rfl ?_
                exact mz_ret rfl
              · exact sm_I_tr hn hI2 (fun i hi h1 => by
                  have hne : ∀ r, sm_scr r = true → i ≠ r := fun r hr e => by
                    rw [e, hr] at hi
                    cases hi
                  simp only [mz_cp_ne (hne 58 rfl), mz_set_ne (hne 59 rfl), mz_set_ne (hne 65 rfl), mz_set_ne (hne 74 rfl), mz_set_ne h1, mz_up_ne (hne 68 rfl), mz_up_ne h1]) (show (mz_up (mz_set (mz_set (mz_up (mz_cp (mz_set (mz_set w 57 re1) 59 ge1) 58 59 0 0 30) 57 1 (nI Be1)) 65 re2) 74 ge2) 68 6 ((w 68 6) + 1)) 65 2 = w 65 2 from Ke2 2 (by decide) (by decide)) ⟨(sm_Nto (n := 30) (k := Be1) (by decide) (by omega)), (by rw [show (mz_up (mz_set (mz_set (mz_up (mz_cp (mz_set (mz_set w 57 re1) 59 ge1) 58 59 0 0 30) 57 1 (nI Be1)) 65 re2) 74 ge2) 68 6 ((w 68 6) + 1)) 65 19 = nI Be2 from be2]; exact sm_Nto (n := 30) (by decide) hBe2)⟩
          · have hve2 : mz_up (mz_up (mz_up (mz_up (mz_set (mz_set w 57 re1) 59 ge1) 64 6 ((w 64 6) + 1)) 65 19 0) 65 20 (nI jxa)) 65 21 0 = mz_set (mz_set (mz_up (mz_set (mz_set w 57 re1) 59 ge1) 64 6 ((w 64 6) + 1)) 65 ((mz_up (mz_up (mz_up (mz_up (mz_set (mz_set w 57 re1) 59 ge1) 64 6 ((w 64 6) + 1)) 65 19 0) 65 20 (nI jxa)) 65 21 0) 65)) 74 ((mz_up (mz_set (mz_set w 57 re1) 59 ge1) 64 6 ((w 64 6) + 1)) 74) := sm_of2 (fun i h1 h2 => by simp only [mz_up_ne h1])
            obtain ⟨ve2, re2, ge2, Ee2, We2⟩ := vs1_1_any (m := mz_up (mz_set (mz_set w 57 re1) 59 ge1) 64 6 ((w 64 6) + 1)) (w := w) hr2 (r := ((mz_up (mz_up (mz_up (mz_up (mz_set (mz_set w 57 re1) 59 ge1) 64 6 ((w 64 6) + 1)) 65 19 0) 65 20 (nI jxa)) 65 21 0) 65)) (g := (mz_up (mz_set (mz_set w 57 re1) 59 ge1) 64 6 ((w 64 6) + 1)) 74) ⟨⟨0, by decide, rfl⟩, Or.inl rfl⟩ (j := jxa) (by omega) ekk hcc rfl (f := cc) hcc xc
            rw [← hve2, ← ekk] at Ee2
            obtain ⟨⟨⟨Be2, hBe2, be2⟩, pe2⟩, Ke2⟩ := We2
            by_cases q12 : (re2 21) = 0
            · refine ⟨(-1000006), ve2, mz_up (mz_set (mz_set w 57 re1) 59 ge1) 64 6 ((w 64 6) + 1), mz_set (mz_set (mz_up (mz_set (mz_set w 57 re1) 59 ge1) 64 6 ((w 64 6) + 1)) 65 re2) 74 ge2, ⟨?_, rfl⟩, ⟨?_, rfl⟩, ?_⟩
              · refine mz_go 4 (c' := (8, [some (.ref 0), some (.int (nI jxa)), some (.int 1), some (.int xc), none], [.int (nI jxa), .ref 2], w)) rfl ?_
                refine mz_doQ (R := mz_r21) (as := [.ref 2, .int (nI jxa)]) (rest := []) (r1 := some (.int 1)) (m1 := w) mz_t21 mz_v21_2 rfl rfl rfl rfl rfl ((cs_has hN (m := w) h4 (show jxa < N by omega)).deep (by decide)) ?_
                refine mz_go 4 (c' := (17, [some (.ref 0), some (.int (nI jxa)), some (.int 1), some (.int xc), none], [.int 3, .int 0, .int 1], w)) rfl ?_
                refine mz_doQ (R := mz_r121) (as := [.int 1, .int 0, .int 3]) (rest := []) (r1 := some (.int 1)) (m1 := w) mz_t121 mz_v121 rfl rfl rfl rfl rfl ⟨?_, rfl⟩ ?_
                · refine mz_go 8 (c' := (15, [some (.int 1), some (.int 0), some (.int 3)], [.int 1], w)) rfl ?_
                  exact mz_ret rfl
                refine mz_go 9 (c' := (43, [some (.ref 0), some (.int (nI jxa)), some (.int 1), some (.int xc), none], [.int xc, .int 1, .int (nI jxa), .ref 2, .ref 57], w)) rfl ?_
                refine mz_doQ (R := mz_r60) (as := [.ref 57, .ref 2, .int (nI jxa), .int 1, .int xc]) (rest := []) (r1 := some (.int ve1)) (m1 := mz_set (mz_set w 57 re1) 59 ge1) mz_t60 mz_v60_57 rfl rfl rfl rfl rfl ⟨?_, rfl⟩ ?_
                · refine mz_go 8 (c' := (12, [some (.ref 57), some (.ref 2), some (.int (nI jxa)), some (.int 1), some (.int xc)], [.int (nI jxa), .ref 2], mz_up (mz_up w 57 2 0) 57 4 0)) rfl ?_
                  refine mz_doQ (R := mz_r21) (as := [.ref 2, .int (nI jxa)]) (rest := []) (r1 := some (.int 1)) (m1 := mz_up (mz_up w 57 2 0) 57 4 0) mz_t21 mz_v21_2 rfl rfl rfl rfl rfl ((cs_has hN (m := mz_up (mz_up w 57 2 0) 57 4 0) h4 (show jxa < N by omega)).deep (by decide)) ?_
                  refine mz_go 5 (c' := (26, [some (.ref 57), some (.ref 2), some (.int (nI jxa)), some (.int 1), some (.int xc)], [.int (nI jxa), .ref 3, .ref 57], mz_up (mz_up w 57 2 0) 57 4 0)) rfl ?_
                  refine mz_arr (c' := (27, [some (.ref 57), some (.ref 2), some (.int (nI jxa)), some (.int 1), some (.int xc)], [.int (w 3 ((nI jxa).toNatClampNeg)), .ref 57], mz_up (mz_up w 57 2 0) 57 4 0)) rfl (show mz_in (nI jxa) 6 = true from sm_inN rfl (show jxa < 6 by omega) (by decide)) ?_
                  rw [show (nI jxa : Int32).toNatClampNeg = jxa from sm_clN rfl (show jxa < 2 ^ 31 by omega)]
                  refine mz_go 8 (c' := (41, [some (.ref 57), some (.ref 2), some (.int (nI jxa)), some (.int 1), some (.int xc)], [.int (nI jxa), .ref 6, .ref 57], mz_up (mz_up (mz_up (mz_up w 57 2 0) 57 4 0) 57 5 (w 3 jxa)) 57 6 (nI jxa))) rfl ?_
                  refine mz_arr (c' := (42, [some (.ref 57), some (.ref 2), some (.int (nI jxa)), some (.int 1), some (.int xc)], [.int (w 6 ((nI jxa).toNatClampNeg)), .ref 57], mz_up (mz_up (mz_up (mz_up w 57 2 0) 57 4 0) 57 5 (w 3 jxa)) 57 6 (nI jxa))) rfl (show mz_in (nI jxa) 6 = true from sm_inN rfl (show jxa < 6 by omega) (by decide)) ?_
                  rw [show (nI jxa : Int32).toNatClampNeg = jxa from sm_clN rfl (show jxa < 2 ^ 31 by omega)]
                  refine mz_go 7 (c' := (54, [some (.ref 57), some (.ref 2), some (.int (nI jxa)), some (.int 1), some (.int xc)], [.int 0, .int xc, .int (w 3 jxa), .int 1, .ref 57], mz_up (mz_up (mz_up (mz_up (mz_up w 57 2 0) 57 4 0) 57 5 (w 3 jxa)) 57 6 (nI jxa)) 57 7 (w 6 jxa))) rfl ?_
                  refine mz_doQ (R := mz_r62) (as := [.ref 57, .int 1, .int (w 3 jxa), .int xc, .int 0]) (rest := []) (r1 := some (.int ve1)) (m1 := mz_set (mz_set w 57 re1) 59 ge1) mz_t62 mz_v62_57 rfl rfl rfl rfl rfl (Ee1.deep (by decide)) ?_
                  exact mz_ret rfl
                refine mz_go 5 (c' := (if (re1 2) = 0 then 65 else 58, [some (.ref 0), some (.int (nI jxa)), some (.int 1), some (.int xc), some (.int ve1)], [], mz_set (mz_set w 57 re1) 59 ge1)) rfl ?_
                refine mz_ifF q10 ?_
                refine mz_go 2 (c' := (61, [some (.ref 0), some (.int (nI jxa)), some (.int 1), some (.int xc), some (.int ve1)], [.int 6, .ref 0], mz_set (mz_set w 57 re1) 59 ge1)) rfl ?_
                refine mz_doQ (R := mz_r109) (as := [.ref 0, .int 6]) (rest := []) (r1 := some (.int (-1000006))) (m1 := mz_up (mz_set (mz_set w 57 re1) 59 ge1) 64 6 ((w 64 6) + 1)) mz_t109 mz_v109_0 rfl rfl rfl rfl rfl ⟨?_, rfl⟩ ?_
                · refine mz_go 3 (c' := (4, [some (.ref 0), some (.int 6)], [.int 6, .int 1, .int 6], mz_set (mz_set w 57 re1) 59 ge1)) rfl ?_
                  refine mz_doQ (R := mz_r121) (as := [.int 6, .int 1, .int 6]) (rest := []) (r1 := some (.int 1)) (m1 := mz_set (mz_set w 57 re1) 59 ge1) mz_t121 mz_v121 rfl rfl rfl rfl rfl ⟨?_, rfl⟩ ?_
                  · refine mz_go 8 (c' := (15, [some (.int 6), some (.int 1), some (.int 6)], [.int 1], mz_set (mz_set w 57 re1) 59 ge1)) rfl ?_
                    exact mz_ret rfl
                  refine mz_go 12 (c' := (25, [some (.ref 0), some (.int 6)], [.int (-1000006)], mz_up (mz_set (mz_set w 57 re1) 59 ge1) 64 6 ((w 64 6) + 1))) rfl ?_
                  exact mz_ret rfl
                exact mz_ret rfl
              · refine mz_go 2 (c' := (2, [some (.ref 65), some (.int (nI jxa)), some (.int 1), some (.int xc), none, none], [.int (nI jxa), .ref 65], mz_up (mz_set (mz_set w 57 re1) 59 ge1) 64 6 ((w 64 6) + 1))) rfl ?_
                refine mz_doQ (R := mz_r132) (as := [.ref 65, .int (nI jxa)]) (rest := []) (r1 := some (.int 1)) (m1 := mz_up (mz_set (mz_set w 57 re1) 59 ge1) 64 6 ((w 64 6) + 1)) mz_t132 mz_v132_65 rfl rfl rfl rfl rfl ⟨?_, rfl⟩ ?_
                · refine mz_go 6 (c' := (8, [some (.ref 65), some (.int (nI jxa))], [.int (w 66 0), .int 0, .int (nI jxa)], mz_up (mz_set (mz_set w 57 re1) 59 ge1) 64 6 ((w 64 6) + 1))) rfl ?_
                  rw [h660]
                  refine mz_go 2 (c' := (10, [some (.ref 65), some (.int (nI jxa))], [.int ((nI N) - 1), .int 0, .int (nI jxa)], mz_up (mz_set (mz_set w 57 re1) 59 ge1) 64 6 ((w 64 6) + 1))) rfl ?_
                  refine mz_doQ (R := mz_r128) (as := [.int (nI jxa), .int 0, .int ((nI N) - 1)]) (rest := []) (r1 := some (.int 1)) (m1 := mz_up (mz_set (mz_set w 57 re1) 59 ge1) 64 6 ((w 64 6) + 1)) mz_t128 mz_v128 rfl rfl rfl rfl rfl ⟨?_, rfl⟩ ?_
                  · refine mz_go 3 (c' := (if (nI jxa) < 0 then 14 else 5, [some (.int (nI jxa)), some (.int 0), some (.int ((nI N) - 1))], [], mz_up (mz_set (mz_set w 57 re1) 59 ge1) 64 6 ((w 64 6) + 1))) rfl ?_
                    refine mz_ifF q1 ?_
                    refine mz_go 3 (c' := (if ((nI N) - 1) < (nI jxa) then 14 else 10, [some (.int (nI jxa)), some (.int 0), some (.int ((nI N) - 1))], [], mz_up (mz_set (mz_set w 57 re1) 59 ge1) 64 6 ((w 64 6) + 1))) rfl ?_
                    refine mz_ifF (show ¬ (((nI N) - 1) < (nI jxa)) from (sm_nltN (sm_subN (a := N) (b := 1) rfl rfl (by omega)) rfl (show jxa ≤ (N - 1) by omega) (show (N - 1) < 2 ^ 31 by omega))) ?_
                    refine mz_go 2 (c' := (15, [some (.int (nI jxa)), some (.int 0), some (.int ((nI N) - 1))], [.int 1], mz_up (mz_set (mz_set w 57 re1) 59 ge1) 64 6 ((w 64 6) + 1))) rfl ?_
                    exact mz_ret rfl
                  exact mz_ret rfl
                refine mz_go 4 (c' := (11, [some (.ref 65), some (.int (nI jxa)), some (.int 1), some (.int xc), none, none], [.int 3, .int 0, .int 1], mz_up (mz_set (mz_set w 57 re1) 59 ge1) 64 6 ((w 64 6) + 1))) rfl ?_
                refine mz_doQ (R := mz_r128) (as := [.int 1, .int 0, .int 3]) (rest := []) (r1 := some (.int 1)) (m1 := mz_up (mz_set (mz_set w 57 re1) 59 ge1) 64 6 ((w 64 6) + 1)) mz_t128 mz_v128 rfl rfl rfl rfl rfl ⟨?_, rfl⟩ ?_
                · refine mz_go 8 (c' := (15, [some (.int 1), some (.int 0), some (.int 3)], [.int 1], mz_up (mz_set (mz_set w 57 re1) 59 ge1) 64 6 ((w 64 6) + 1))) rfl ?_
                  exact mz_ret rfl
                refine mz_go 11 (c' := (39, [some (.ref 65), some (.int (nI jxa)), some (.int 1), some (.int xc), none, none], [.ref 65], mz_up (mz_up (mz_up (mz_up (mz_set (mz_set w 57 re1) 59 ge1) 64 6 ((w 64 6) + 1)) 65 19 0) 65 20 (nI jxa)) 65 21 0)) rfl ?_
                refine mz_doQ (R := mz_r211) (as := [.ref 65]) (rest := []) (r1 := some (.int (w 3 jxa))) (m1 := mz_up (mz_up (mz_up (mz_up (mz_set (mz_set w 57 re1) 59 ge1) 64 6 ((w 64 6) + 1)) 65 19 0) 65 20 (nI jxa)) 65 21 0) mz_t211 mz_v211_65 rfl rfl rfl rfl rfl ⟨?_, rfl⟩ ?_
                · refine mz_go 4 (c' := (6, [some (.ref 65)], [.int 0, .int (nI jxa), .ref 65], mz_up (mz_up (mz_up (mz_up (mz_set (mz_set w 57 re1) 59 ge1) 64 6 ((w 64 6) + 1)) 65 19 0) 65 20 (nI jxa)) 65 21 0)) rfl ?_
                  refine mz_doQ (R := mz_r133) (as := [.ref 65, .int (nI jxa), .int 0]) (rest := []) (r1 := some (.int (w 3 jxa))) (m1 := mz_up (mz_up (mz_up (mz_up (mz_set (mz_set w 57 re1) 59 ge1) 64 6 ((w 64 6) + 1)) 65 19 0) 65 20 (nI jxa)) 65 21 0) mz_t133 mz_v133_65 rfl rfl rfl rfl rfl ⟨?_, rfl⟩ ?_
                  · refine mz_go 9 (c' := (12, [some (.ref 65), some (.int (nI jxa)), some (.int 0)], [.int ((30 + (4 * (nI jxa))) + 0), .ref 66], mz_up (mz_up (mz_up (mz_up (mz_set (mz_set w 57 re1) 59 ge1) 64 6 ((w 64 6) + 1)) 65 19 0) 65 20 (nI jxa)) 65 21 0)) rfl ?_
                    refine mz_arr (c' := (13, [some (.ref 65), some (.int (nI jxa)), some (.int 0)], [.int (w 66 (((30 + (4 * (nI jxa))) + 0).toNatClampNeg))], mz_up (mz_up (mz_up (mz_up (mz_set (mz_set w 57 re1) 59 ge1) 64 6 ((w 64 6) + 1)) 65 19 0) 65 20 (nI jxa)) 65 21 0)) rfl (show mz_in ((30 + (4 * (nI jxa))) + 0) 650 = true from sm_inN (sm_addN (sm_addN rfl (sm_mulN rfl rfl)) rfl) (show ((30 + (4 * jxa)) + 0) < 650 by omega) (by decide)) ?_
                    rw [show ((30 + (4 * (nI jxa))) + 0 : Int32).toNatClampNeg = ((30 + (4 * jxa)) + 0) from sm_clN (sm_addN (sm_addN rfl (sm_mulN rfl rfl)) rfl) (show ((30 + (4 * jxa)) + 0) < 2 ^ 31 by omega)]
                    rw [show w 66 ((30 + (4 * jxa)) + 0) = w 3 jxa from (hr2.2.1 jxa (by omega)).1]
                    exact mz_ret rfl
                  exact mz_ret rfl
                refine mz_go 9 (c' := (67, [some (.ref 65), some (.int (nI jxa)), some (.int 1), some (.int xc), some (.int (w 3 jxa)), none], [.int xc, .int (w 3 jxa), .ref 65], mz_up (mz_up (mz_up (mz_up (mz_set (mz_set w 57 re1) 59 ge1) 64 6 ((w 64 6) + 1)) 65 19 0) 65 20 (nI jxa)) 65 21 0)) rfl ?_
                refine mz_doQ (R := mz_r214) (as := [.ref 65, .int (w 3 jxa), .int xc]) (rest := []) (r1 := some (.int ve2)) (m1 := mz_set (mz_set (mz_up (mz_set (mz_set w 57 re1) 59 ge1) 64 6 ((w 64 6) + 1)) 65 re2) 74 ge2) mz_t214 mz_v214_65 rfl rfl rfl rfl rfl (Ee2.deep (by decide)) ?_
                refine mz_go 5 (c' := (if (re2 21) = 0 then 113 else 104, [some (.ref 65), some (.int (nI jxa)), some (.int 1), some (.int xc), some (.int (w 3 jxa)), some (.int ve2)], [], mz_set (mz_set (mz_up (mz_set (mz_set w 57 re1) 59 ge1) 64 6 ((w 64 6) + 1)) 65 re2) 74 ge2)) rfl ?_
                refine mz_ifT q12 ?_
                refine mz_go 1 (c' := (115, [some (.ref 65), some (.int (nI jxa)), some (.int 1), some (.int xc), some (.int (w 3 jxa)), some (.int ve2)], [.int ve2], mz_set (mz_set (mz_up (mz_set (mz_set w 57 re1) 59 ge1) 64 6 ((w 64 6) + 1)) 65 re2) 74 ge2)) rfl ?_
                exact mz_ret rfl
              · exact sm_I_tr hn hI2 (fun i hi h1 => by
                  have hne : ∀ r, sm_scr r = true → i ≠ r := fun r hr e => by
                    rw [e, hr] at hi
                    cases hi
                  simp only [mz_set_ne (hne 59 rfl), mz_set_ne (hne 65 rfl), mz_set_ne (hne 74 rfl), mz_set_ne h1, mz_up_ne (hne 64 rfl)]) (show (mz_set (mz_set (mz_up (mz_set (mz_set w 57 re1) 59 ge1) 64 6 ((w 64 6) + 1)) 65 re2) 74 ge2) 65 2 = w 65 2 from Ke2 2 (by decide) (by decide)) ⟨(by rw [show (mz_set (mz_set (mz_up (mz_set (mz_set w 57 re1) 59 ge1) 64 6 ((w 64 6) + 1)) 65 re2) 74 ge2) 57 1 = w 57 1 from Ke1 1 (by decide) (by decide)]; exact hcb1), (by rw [show (mz_set (mz_set (mz_up (mz_set (mz_set w 57 re1) 59 ge1) 64 6 ((w 64 6) + 1)) 65 re2) 74 ge2) 65 19 = nI Be2 from be2]; exact sm_Nto (n := 30) (by decide) hBe2)⟩
            · refine ⟨(-1000006), (-1000006), mz_up (mz_set (mz_set w 57 re1) 59 ge1) 64 6 ((w 64 6) + 1), mz_up (mz_set (mz_set (mz_up (mz_set (mz_set w 57 re1) 59 ge1) 64 6 ((w 64 6) + 1)) 65 re2) 74 ge2) 68 6 ((w 68 6) + 1), ⟨?_, rfl⟩, ⟨?_, rfl⟩, ?_⟩
              · refine mz_go 4 (c' := (8, [some (.ref 0), some (.int (nI jxa)), some (.int 1), some (.int xc), none], [.int (nI jxa), .ref 2], w)) rfl ?_
                refine mz_doQ (R := mz_r21) (as := [.ref 2, .int (nI jxa)]) (rest := []) (r1 := some (.int 1)) (m1 := w) mz_t21 mz_v21_2 rfl rfl rfl rfl rfl ((cs_has hN (m := w) h4 (show jxa < N by omega)).deep (by decide)) ?_
                refine mz_go 4 (c' := (17, [some (.ref 0), some (.int (nI jxa)), some (.int 1), some (.int xc), none], [.int 3, .int 0, .int 1], w)) rfl ?_
                refine mz_doQ (R := mz_r121) (as := [.int 1, .int 0, .int 3]) (rest := []) (r1 := some (.int 1)) (m1 := w) mz_t121 mz_v121 rfl rfl rfl rfl rfl ⟨?_, rfl⟩ ?_
                · refine mz_go 8 (c' := (15, [some (.int 1), some (.int 0), some (.int 3)], [.int 1], w)) rfl ?_
                  exact mz_ret rfl
                refine mz_go 9 (c' := (43, [some (.ref 0), some (.int (nI jxa)), some (.int 1), some (.int xc), none], [.int xc, .int 1, .int (nI jxa), .ref 2, .ref 57], w)) rfl ?_
                refine mz_doQ (R := mz_r60) (as := [.ref 57, .ref 2, .int (nI jxa), .int 1, .int xc]) (rest := []) (r1 := some (.int ve1)) (m1 := mz_set (mz_set w 57 re1) 59 ge1) mz_t60 mz_v60_57 rfl rfl rfl rfl rfl ⟨?_, rfl⟩ ?_
                · refine mz_go 8 (c' := (12, [some (.ref 57), some (.ref 2), some (.int (nI jxa)), some (.int 1), some (.int xc)], [.int (nI jxa), .ref 2], mz_up (mz_up w 57 2 0) 57 4 0)) rfl ?_
                  refine mz_doQ (R := mz_r21) (as := [.ref 2, .int (nI jxa)]) (rest := []) (r1 := some (.int 1)) (m1 := mz_up (mz_up w 57 2 0) 57 4 0) mz_t21 mz_v21_2 rfl rfl rfl rfl rfl ((cs_has hN (m := mz_up (mz_up w 57 2 0) 57 4 0) h4 (show jxa < N by omega)).deep (by decide)) ?_
                  refine mz_go 5 (c' := (26, [some (.ref 57), some (.ref 2), some (.int (nI jxa)), some (.int 1), some (.int xc)], [.int (nI jxa), .ref 3, .ref 57], mz_up (mz_up w 57 2 0) 57 4 0)) rfl ?_
                  refine mz_arr (c' := (27, [some (.ref 57), some (.ref 2), some (.int (nI jxa)), some (.int 1), some (.int xc)], [.int (w 3 ((nI jxa).toNatClampNeg)), .ref 57], mz_up (mz_up w 57 2 0) 57 4 0)) rfl (show mz_in (nI jxa) 6 = true from sm_inN rfl (show jxa < 6 by omega) (by decide)) ?_
                  rw [show (nI jxa : Int32).toNatClampNeg = jxa from sm_clN rfl (show jxa < 2 ^ 31 by omega)]
                  refine mz_go 8 (c' := (41, [some (.ref 57), some (.ref 2), some (.int (nI jxa)), some (.int 1), some (.int xc)], [.int (nI jxa), .ref 6, .ref 57], mz_up (mz_up (mz_up (mz_up w 57 2 0) 57 4 0) 57 5 (w 3 jxa)) 57 6 (nI jxa))) rfl ?_
                  refine mz_arr (c' := (42, [some (.ref 57), some (.ref 2), some (.int (nI jxa)), some (.int 1), some (.int xc)], [.int (w 6 ((nI jxa).toNatClampNeg)), .ref 57], mz_up (mz_up (mz_up (mz_up w 57 2 0) 57 4 0) 57 5 (w 3 jxa)) 57 6 (nI jxa))) rfl (show mz_in (nI jxa) 6 = true from sm_inN rfl (show jxa < 6 by omega) (by decide)) ?_
                  rw [show (nI jxa : Int32).toNatClampNeg = jxa from sm_clN rfl (show jxa < 2 ^ 31 by omega)]
                  refine mz_go 7 (c' := (54, [some (.ref 57), some (.ref 2), some (.int (nI jxa)), some (.int 1), some (.int xc)], [.int 0, .int xc, .int (w 3 jxa), .int 1, .ref 57], mz_up (mz_up (mz_up (mz_up (mz_up w 57 2 0) 57 4 0) 57 5 (w 3 jxa)) 57 6 (nI jxa)) 57 7 (w 6 jxa))) rfl ?_
                  refine mz_doQ (R := mz_r62) (as := [.ref 57, .int 1, .int (w 3 jxa), .int xc, .int 0]) (rest := []) (r1 := some (.int ve1)) (m1 := mz_set (mz_set w 57 re1) 59 ge1) mz_t62 mz_v62_57 rfl rfl rfl rfl rfl (Ee1.deep (by decide)) ?_
                  exact mz_ret rfl
                refine mz_go 5 (c' := (if (re1 2) = 0 then 65 else 58, [some (.ref 0), some (.int (nI jxa)), some (.int 1), some (.int xc), some (.int ve1)], [], mz_set (mz_set w 57 re1) 59 ge1)) rfl ?_
                refine mz_ifF q10 ?_
                refine mz_go 2 (c' := (61, [some (.ref 0), some (.int (nI jxa)), some (.int 1), some (.int xc), some (.int ve1)], [.int 6, .ref 0], mz_set (mz_set w 57 re1) 59 ge1)) rfl ?_
                refine mz_doQ (R := mz_r109) (as := [.ref 0, .int 6]) (rest := []) (r1 := some (.int (-1000006))) (m1 := mz_up (mz_set (mz_set w 57 re1) 59 ge1) 64 6 ((w 64 6) + 1)) mz_t109 mz_v109_0 rfl rfl rfl rfl rfl ⟨?_, rfl⟩ ?_
                · refine mz_go 3 (c' := (4, [some (.ref 0), some (.int 6)], [.int 6, .int 1, .int 6], mz_set (mz_set w 57 re1) 59 ge1)) rfl ?_
                  refine mz_doQ (R := mz_r121) (as := [.int 6, .int 1, .int 6]) (rest := []) (r1 := some (.int 1)) (m1 := mz_set (mz_set w 57 re1) 59 ge1) mz_t121 mz_v121 rfl rfl rfl rfl rfl ⟨?_, rfl⟩ ?_
                  · refine mz_go 8 (c' := (15, [some (.int 6), some (.int 1), some (.int 6)], [.int 1], mz_set (mz_set w 57 re1) 59 ge1)) rfl ?_
                    exact mz_ret rfl
                  refine mz_go 12 (c' := (25, [some (.ref 0), some (.int 6)], [.int (-1000006)], mz_up (mz_set (mz_set w 57 re1) 59 ge1) 64 6 ((w 64 6) + 1))) rfl ?_
                  exact mz_ret rfl
                exact mz_ret rfl
              · refine mz_go 2 (c' := (2, [some (.ref 65), some (.int (nI jxa)), some (.int 1), some (.int xc), none, none], [.int (nI jxa), .ref 65], mz_up (mz_set (mz_set w 57 re1) 59 ge1) 64 6 ((w 64 6) + 1))) rfl ?_
                refine mz_doQ (R := mz_r132) (as := [.ref 65, .int (nI jxa)]) (rest := []) (r1 := some (.int 1)) (m1 := mz_up (mz_set (mz_set w 57 re1) 59 ge1) 64 6 ((w 64 6) + 1)) mz_t132 mz_v132_65 rfl rfl rfl rfl rfl ⟨?_, rfl⟩ ?_
                · refine mz_go 6 (c' := (8, [some (.ref 65), some (.int (nI jxa))], [.int (w 66 0), .int 0, .int (nI jxa)], mz_up (mz_set (mz_set w 57 re1) 59 ge1) 64 6 ((w 64 6) + 1))) rfl ?_
                  rw [h660]
                  refine mz_go 2 (c' := (10, [some (.ref 65), some (.int (nI jxa))], [.int ((nI N) - 1), .int 0, .int (nI jxa)], mz_up (mz_set (mz_set w 57 re1) 59 ge1) 64 6 ((w 64 6) + 1))) rfl ?_
                  refine mz_doQ (R := mz_r128) (as := [.int (nI jxa), .int 0, .int ((nI N) - 1)]) (rest := []) (r1 := some (.int 1)) (m1 := mz_up (mz_set (mz_set w 57 re1) 59 ge1) 64 6 ((w 64 6) + 1)) mz_t128 mz_v128 rfl rfl rfl rfl rfl ⟨?_, rfl⟩ ?_
                  · refine mz_go 3 (c' := (if (nI jxa) < 0 then 14 else 5, [some (.int (nI jxa)), some (.int 0), some (.int ((nI N) - 1))], [], mz_up (mz_set (mz_set w 57 re1) 59 ge1) 64 6 ((w 64 6) + 1))) rfl ?_
                    refine mz_ifF q1 ?_
                    refine mz_go 3 (c' := (if ((nI N) - 1) < (nI jxa) then 14 else 10, [some (.int (nI jxa)), some (.int 0), some (.int ((nI N) - 1))], [], mz_up (mz_set (mz_set w 57 re1) 59 ge1) 64 6 ((w 64 6) + 1))) rfl ?_
                    refine mz_ifF (show ¬ (((nI N) - 1) < (nI jxa)) from (sm_nltN (sm_subN (a := N) (b := 1) rfl rfl (by omega)) rfl (show jxa ≤ (N - 1) by omega) (show (N - 1) < 2 ^ 31 by omega))) ?_
                    refine mz_go 2 (c' := (15, [some (.int (nI jxa)), some (.int 0), some (.int ((nI N) - 1))], [.int 1], mz_up (mz_set (mz_set w 57 re1) 59 ge1) 64 6 ((w 64 6) + 1))) rfl ?_
                    exact mz_ret rfl
                  exact mz_ret rfl
                refine mz_go 4 (c' := (11, [some (.ref 65), some (.int (nI jxa)), some (.int 1), some (.int xc), none, none], [.int 3, .int 0, .int 1], mz_up (mz_set (mz_set w 57 re1) 59 ge1) 64 6 ((w 64 6) + 1))) rfl ?_
                refine mz_doQ (R := mz_r128) (as := [.int 1, .int 0, .int 3]) (rest := []) (r1 := some (.int 1)) (m1 := mz_up (mz_set (mz_set w 57 re1) 59 ge1) 64 6 ((w 64 6) + 1)) mz_t128 mz_v128 rfl rfl rfl rfl rfl ⟨?_, rfl⟩ ?_
                · refine mz_go 8 (c' := (15, [some (.int 1), some (.int 0), some (.int 3)], [.int 1], mz_up (mz_set (mz_set w 57 re1) 59 ge1) 64 6 ((w 64 6) + 1))) rfl ?_
                  exact mz_ret rfl
                refine mz_go 11 (c' := (39, [some (.ref 65), some (.int (nI jxa)), some (.int 1), some (.int xc), none, none], [.ref 65], mz_up (mz_up (mz_up (mz_up (mz_set (mz_set w 57 re1) 59 ge1) 64 6 ((w 64 6) + 1)) 65 19 0) 65 20 (nI jxa)) 65 21 0)) rfl ?_
                refine mz_doQ (R := mz_r211) (as := [.ref 65]) (rest := []) (r1 := some (.int (w 3 jxa))) (m1 := mz_up (mz_up (mz_up (mz_up (mz_set (mz_set w 57 re1) 59 ge1) 64 6 ((w 64 6) + 1)) 65 19 0) 65 20 (nI jxa)) 65 21 0) mz_t211 mz_v211_65 rfl rfl rfl rfl rfl ⟨?_, rfl⟩ ?_
                · refine mz_go 4 (c' := (6, [some (.ref 65)], [.int 0, .int (nI jxa), .ref 65], mz_up (mz_up (mz_up (mz_up (mz_set (mz_set w 57 re1) 59 ge1) 64 6 ((w 64 6) + 1)) 65 19 0) 65 20 (nI jxa)) 65 21 0)) rfl ?_
                  refine mz_doQ (R := mz_r133) (as := [.ref 65, .int (nI jxa), .int 0]) (rest := []) (r1 := some (.int (w 3 jxa))) (m1 := mz_up (mz_up (mz_up (mz_up (mz_set (mz_set w 57 re1) 59 ge1) 64 6 ((w 64 6) + 1)) 65 19 0) 65 20 (nI jxa)) 65 21 0) mz_t133 mz_v133_65 rfl rfl rfl rfl rfl ⟨?_, rfl⟩ ?_
                  · refine mz_go 9 (c' := (12, [some (.ref 65), some (.int (nI jxa)), some (.int 0)], [.int ((30 + (4 * (nI jxa))) + 0), .ref 66], mz_up (mz_up (mz_up (mz_up (mz_set (mz_set w 57 re1) 59 ge1) 64 6 ((w 64 6) + 1)) 65 19 0) 65 20 (nI jxa)) 65 21 0)) rfl ?_
                    refine mz_arr (c' := (13, [some (.ref 65), some (.int (nI jxa)), some (.int 0)], [.int (w 66 (((30 + (4 * (nI jxa))) + 0).toNatClampNeg))], mz_up (mz_up (mz_up (mz_up (mz_set (mz_set w 57 re1) 59 ge1) 64 6 ((w 64 6) + 1)) 65 19 0) 65 20 (nI jxa)) 65 21 0)) rfl (show mz_in ((30 + (4 * (nI jxa))) + 0) 650 = true from sm_inN (sm_addN (sm_addN rfl (sm_mulN rfl rfl)) rfl) (show ((30 + (4 * jxa)) + 0) < 650 by omega) (by decide)) ?_
                    rw [show ((30 + (4 * (nI jxa))) + 0 : Int32).toNatClampNeg = ((30 + (4 * jxa)) + 0) from sm_clN (sm_addN (sm_addN rfl (sm_mulN rfl rfl)) rfl) (show ((30 + (4 * jxa)) + 0) < 2 ^ 31 by omega)]
                    rw [show w 66 ((30 + (4 * jxa)) + 0) = w 3 jxa from (hr2.2.1 jxa (by omega)).1]
                    exact mz_ret rfl
                  exact mz_ret rfl
                refine mz_go 9 (c' := (67, [some (.ref 65), some (.int (nI jxa)), some (.int 1), some (.int xc), some (.int (w 3 jxa)), none], [.int xc, .int (w 3 jxa), .ref 65], mz_up (mz_up (mz_up (mz_up (mz_set (mz_set w 57 re1) 59 ge1) 64 6 ((w 64 6) + 1)) 65 19 0) 65 20 (nI jxa)) 65 21 0)) rfl ?_
                refine mz_doQ (R := mz_r214) (as := [.ref 65, .int (w 3 jxa), .int xc]) (rest := []) (r1 := some (.int ve2)) (m1 := mz_set (mz_set (mz_up (mz_set (mz_set w 57 re1) 59 ge1) 64 6 ((w 64 6) + 1)) 65 re2) 74 ge2) mz_t214 mz_v214_65 rfl rfl rfl rfl rfl (Ee2.deep (by decide)) ?_
                refine mz_go 5 (c' := (if (re2 21) = 0 then 113 else 104, [some (.ref 65), some (.int (nI jxa)), some (.int 1), some (.int xc), some (.int (w 3 jxa)), some (.int ve2)], [], mz_set (mz_set (mz_up (mz_set (mz_set w 57 re1) 59 ge1) 64 6 ((w 64 6) + 1)) 65 re2) 74 ge2)) rfl ?_
                refine mz_ifF q12 ?_
                refine mz_go 2 (c' := (107, [some (.ref 65), some (.int (nI jxa)), some (.int 1), some (.int xc), some (.int (w 3 jxa)), some (.int ve2)], [.int 6, .ref 65], mz_set (mz_set (mz_up (mz_set (mz_set w 57 re1) 59 ge1) 64 6 ((w 64 6) + 1)) 65 re2) 74 ge2)) rfl ?_
                refine mz_doQ (R := mz_r127) (as := [.ref 65, .int 6]) (rest := []) (r1 := some (.int (-1000006))) (m1 := mz_up (mz_set (mz_set (mz_up (mz_set (mz_set w 57 re1) 59 ge1) 64 6 ((w 64 6) + 1)) 65 re2) 74 ge2) 68 6 ((w 68 6) + 1)) mz_t127 mz_v127_65 rfl rfl rfl rfl rfl ⟨?_, rfl⟩ ?_
                · refine mz_go 11 (c' := (14, [some (.ref 65), some (.int 6)], [.int (-1000006)], mz_up (mz_set (mz_set (mz_up (mz_set (mz_set w 57 re1) 59 ge1) 64 6 ((w 64 6) + 1)) 65 re2) 74 ge2) 68 6 ((w 68 6) + 1))) rfl ?_
                  exact mz_ret rfl
                refine mz_go 1 (c' := (115, [some (.ref 65), some (.int (nI jxa)), some (.int 1), some (.int xc), some (.int (w 3 jxa)), some (.int ve2)], [.int (-1000006)], mz_up (mz_set (mz_set (mz_up (mz_set (mz_set w 57 re1) 59 ge1) 64 6 ((w 64 6) + 1)) 65 re2) 74 ge2) 68 6 ((w 68 6) + 1))) rfl ?_
                exact mz_ret rfl
              · exact sm_I_tr hn hI2 (fun i hi h1 => by
                  have hne : ∀ r, sm_scr r = true → i ≠ r := fun r hr e => by
                    rw [e, hr] at hi
                    cases hi
                  simp only [mz_set_ne (hne 59 rfl), mz_set_ne (hne 65 rfl), mz_set_ne (hne 74 rfl), mz_set_ne h1, mz_up_ne (hne 64 rfl), mz_up_ne (hne 68 rfl)]) (show (mz_up (mz_set (mz_set (mz_up (mz_set (mz_set w 57 re1) 59 ge1) 64 6 ((w 64 6) + 1)) 65 re2) 74 ge2) 68 6 ((w 68 6) + 1)) 65 2 = w 65 2 from Ke2 2 (by decide) (by decide)) ⟨(by rw [show (mz_up (mz_set (mz_set (mz_up (mz_set (mz_set w 57 re1) 59 ge1) 64 6 ((w 64 6) + 1)) 65 re2) 74 ge2) 68 6 ((w 68 6) + 1)) 57 1 = w 57 1 from Ke1 1 (by decide) (by decide)]; exact hcb1), (by rw [show (mz_up (mz_set (mz_set (mz_up (mz_set (mz_set w 57 re1) 59 ge1) 64 6 ((w 64 6) + 1)) 65 re2) 74 ge2) 68 6 ((w 68 6) + 1)) 65 19 = nI Be2 from be2]; exact sm_Nto (n := 30) (by decide) hBe2)⟩
        · obtain ⟨cc, hcc, ekk⟩ := sm_Nof (by decide) (hpb jxa (by omega)).1
          have hve1 : mz_up (mz_up (mz_up (mz_up (mz_up w 57 2 0) 57 4 0) 57 5 (w 3 jxa)) 57 6 (nI jxa)) 57 7 (w 6 jxa) = mz_set (mz_set (w) 57 ((mz_up (mz_up (mz_up (mz_up (mz_up w 57 2 0) 57 4 0) 57 5 (w 3 jxa)) 57 6 (nI jxa)) 57 7 (w 6 jxa)) 57)) 59 ((w) 59) := sm_of2 (fun i h1 h2 => by simp only [mz_up_ne h1])
          obtain ⟨ve1, re1, ge1, Ee1, We1⟩ := vs0_2_any (m := w) (r := ((mz_up (mz_up (mz_up (mz_up (mz_up w 57 2 0) 57 4 0) 57 5 (w 3 jxa)) 57 6 (nI jxa)) 57 7 (w 6 jxa)) 57)) (g := (w) 59) ⟨⟨0, by decide, rfl⟩, Or.inl rfl⟩ hcc ekk (f := cc) hcc xc (dd := 0) (d := 0) rfl (by decide)
          rw [← hve1, ← ekk] at Ee1
          obtain ⟨⟨⟨Be1, hBe1, be1⟩, pe1⟩, Ke1⟩ := We1
          by_cases q13 : (re1 2) = 0
          · have hve2 : mz_up (mz_up (mz_up (mz_up (mz_cp (mz_set (mz_set w 57 re1) 59 ge1) 58 59 0 0 30) 57 1 (nI Be1)) 65 19 0) 65 20 (nI jxa)) 65 21 0 = mz_set (mz_set (mz_up (mz_cp (mz_set (mz_set w 57 re1) 59 ge1) 58 59 0 0 30) 57 1 (nI Be1)) 65 ((mz_up (mz_up (mz_up (mz_up (mz_cp (mz_set (mz_set w 57 re1) 59 ge1) 58 59 0 0 30) 57 1 (nI Be1)) 65 19 0) 65 20 (nI jxa)) 65 21 0) 65)) 74 ((mz_up (mz_cp (mz_set (mz_set w 57 re1) 59 ge1) 58 59 0 0 30) 57 1 (nI Be1)) 74) := sm_of2 (fun i h1 h2 => by simp only [mz_up_ne h1])
            obtain ⟨ve2, re2, ge2, Ee2, We2⟩ := vs1_2_any (m := mz_up (mz_cp (mz_set (mz_set w 57 re1) 59 ge1) 58 59 0 0 30) 57 1 (nI Be1)) (w := w) hr2 (r := ((mz_up (mz_up (mz_up (mz_up (mz_cp (mz_set (mz_set w 57 re1) 59 ge1) 58 59 0 0 30) 57 1 (nI Be1)) 65 19 0) 65 20 (nI jxa)) 65 21 0) 65)) (g := (mz_up (mz_cp (mz_set (mz_set w 57 re1) 59 ge1) 58 59 0 0 30) 57 1 (nI Be1)) 74) ⟨⟨0, by decide, rfl⟩, Or.inl rfl⟩ (j := jxa) (by omega) ekk hcc rfl (f := cc) hcc xc
            rw [← hve2, ← ekk] at Ee2
            obtain ⟨⟨⟨Be2, hBe2, be2⟩, pe2⟩, Ke2⟩ := We2
            by_cases q14 : (re2 21) = 0
            · refine ⟨ve1, ve2, mz_up (mz_cp (mz_set (mz_set w 57 re1) 59 ge1) 58 59 0 0 30) 57 1 (nI Be1), mz_set (mz_set (mz_up (mz_cp (mz_set (mz_set w 57 re1) 59 ge1) 58 59 0 0 30) 57 1 (nI Be1)) 65 re2) 74 ge2, ⟨?_, rfl⟩, ⟨?_, rfl⟩, ?_⟩
              · refine mz_go 4 (c' := (8, [some (.ref 0), some (.int (nI jxa)), some (.int 2), some (.int xc), none], [.int (nI jxa), .ref 2], w)) rfl ?_
                refine mz_doQ (R := mz_r21) (as := [.ref 2, .int (nI jxa)]) (rest := []) (r1 := some (.int 1)) (m1 := w) mz_t21 mz_v21_2 rfl rfl rfl rfl rfl ((cs_has hN (m := w) h4 (show jxa < N by omega)).deep (by decide)) ?_
                refine mz_go 4 (c' := (17, [some (.ref 0), some (.int (nI jxa)), some (.int 2), some (.int xc), none], [.int 3, .int 0, .int 2], w)) rfl ?_
                refine mz_doQ (R := mz_r121) (as := [.int 2, .int 0, .int 3]) (rest := []) (r1 := some (.int 1)) (m1 := w) mz_t121 mz_v121 rfl rfl rfl rfl rfl ⟨?_, rfl⟩ ?_
                · refine mz_go 8 (c' := (15, [some (.int 2), some (.int 0), some (.int 3)], [.int 1], w)) rfl ?_
                  exact mz_ret rfl
                refine mz_go 9 (c' := (43, [some (.ref 0), some (.int (nI jxa)), some (.int 2), some (.int xc), none], [.int xc, .int 2, .int (nI jxa), .ref 2, .ref 57], w)) rfl ?_
                refine mz_doQ (R := mz_r60) (as := [.ref 57, .ref 2, .int (nI jxa), .int 2, .int xc]) (rest := []) (r1 := some (.int ve1)) (m1 := mz_set (mz_set w 57 re1) 59 ge1) mz_t60 mz_v60_57 rfl rfl rfl rfl rfl ⟨?_, rfl⟩ ?_
                · refine mz_go 8 (c' := (12, [some (.ref 57), some (.ref 2), some (.int (nI jxa)), some (.int 2), some (.int xc)], [.int (nI jxa), .ref 2], mz_up (mz_up w 57 2 0) 57 4 0)) rfl ?_
                  refine mz_doQ (R := mz_r21) (as := [.ref 2, .int (nI jxa)]) (rest := []) (r1 := some (.int 1)) (m1 := mz_up (mz_up w 57 2 0) 57 4 0) mz_t21 mz_v21_2 rfl rfl rfl rfl rfl ((cs_has hN (m := mz_up (mz_up w 57 2 0) 57 4 0) h4 (show jxa < N by omega)).deep (by decide)) ?_
                  refine mz_go 5 (c' := (26, [some (.ref 57), some (.ref 2), some (.int (nI jxa)), some (.int 2), some (.int xc)], [.int (nI jxa), .ref 3, .ref 57], mz_up (mz_up w 57 2 0) 57 4 0)) rfl ?_
                  refine mz_arr (c' := (27, [some (.ref 57), some (.ref 2), some (.int (nI jxa)), some (.int 2), some (.int xc)], [.int (w 3 ((nI jxa).toNatClampNeg)), .ref 57], mz_up (mz_up w 57 2 0) 57 4 0)) rfl (show mz_in (nI jxa) 6 = true from sm_inN rfl (show jxa < 6 by omega) (by decide)) ?_
                  rw [show (nI jxa : Int32).toNatClampNeg = jxa from sm_clN rfl (show jxa < 2 ^ 31 by omega)]
                  refine mz_go 8 (c' := (41, [some (.ref 57), some (.ref 2), some (.int (nI jxa)), some (.int 2), some (.int xc)], [.int (nI jxa), .ref 6, .ref 57], mz_up (mz_up (mz_up (mz_up w 57 2 0) 57 4 0) 57 5 (w 3 jxa)) 57 6 (nI jxa))) rfl ?_
                  refine mz_arr (c' := (42, [some (.ref 57), some (.ref 2), some (.int (nI jxa)), some (.int 2), some (.int xc)], [.int (w 6 ((nI jxa).toNatClampNeg)), .ref 57], mz_up (mz_up (mz_up (mz_up w 57 2 0) 57 4 0) 57 5 (w 3 jxa)) 57 6 (nI jxa))) rfl (show mz_in (nI jxa) 6 = true from sm_inN rfl (show jxa < 6 by omega) (by decide)) ?_
                  rw [show (nI jxa : Int32).toNatClampNeg = jxa from sm_clN rfl (show jxa < 2 ^ 31 by omega)]
                  refine mz_go 7 (c' := (54, [some (.ref 57), some (.ref 2), some (.int (nI jxa)), some (.int 2), some (.int xc)], [.int 0, .int xc, .int (w 3 jxa), .int 2, .ref 57], mz_up (mz_up (mz_up (mz_up (mz_up w 57 2 0) 57 4 0) 57 5 (w 3 jxa)) 57 6 (nI jxa)) 57 7 (w 6 jxa))) rfl ?_
                  refine mz_doQ (R := mz_r62) (as := [.ref 57, .int 2, .int (w 3 jxa), .int xc, .int 0]) (rest := []) (r1 := some (.int ve1)) (m1 := mz_set (mz_set w 57 re1) 59 ge1) mz_t62 mz_v62_57 rfl rfl rfl rfl rfl (Ee1.deep (by decide)) ?_
                  exact mz_ret rfl
                refine mz_go 5 (c' := (if (re1 2) = 0 then 65 else 58, [some (.ref 0), some (.int (nI jxa)), some (.int 2), some (.int xc), some (.int ve1)], [], mz_set (mz_set w 57 re1) 59 ge1)) rfl ?_
                refine mz_ifT q13 ?_
                refine mz_go 2 (c' := (69, [some (.ref 0), some (.int (nI jxa)), some (.int 2), some (.int xc), some (.int ve1)], [.ref 57], mz_set (mz_set w 57 re1) 59 ge1)) rfl ?_
                refine mz_doQ (R := mz_r61) (as := [.ref 57]) (rest := []) (r1 := none) (m1 := mz_up (mz_cp (mz_set (mz_set w 57 re1) 59 ge1) 58 59 0 0 30) 57 1 (nI Be1)) mz_t61 mz_v61_57 rfl rfl rfl rfl rfl ⟨?_, rfl⟩ ?_
                · refine mz_go 4 (c' := (8, [some (.ref 57)], [.ref 58, .ref 59], mz_set (mz_set w 57 re1) 59 ge1)) rfl ?_
                  refine mz_doQ (R := mz_r126) (as := [.ref 59, .ref 58]) (rest := []) (r1 := none) (m1 := mz_cp (mz_set (mz_set w 57 re1) 59 ge1) 58 59 0 0 30) mz_t126 mz_v126_59 rfl rfl rfl rfl rfl ⟨?_, rfl⟩ ?_
                  · refine mz_go 10 (c' := (14, [some (.ref 59), some (.ref 58)], [], mz_cp (mz_set (mz_set w 57 re1) 59 ge1) 58 59 0 0 30)) rfl ?_
                    exact mz_ret rfl
                  refine mz_go 3 (c' := (16, [some (.ref 57)], [.int (re1 4), .ref 57], mz_cp (mz_set (mz_set w 57 re1) 59 ge1) 58 59 0 0 30)) rfl ?_
                  rw [be1]
                  refine mz_go 1 (c' := (19, [some (.ref 57)], [], mz_up (mz_cp (mz_set (mz_set w 57 re1) 59 ge1) 58 59 0 0 30) 57 1 (nI Be1))) rfl ?_
                  exact mz_ret rfl
                refine mz_go 1 (c' := (74, [some (.ref 0), some (.int (nI jxa)), some (.int 2), some (.int xc), some (.int ve1)], [.int ve1], mz_up (mz_cp (mz_set (mz_set w 57 re1) 59 ge1) 58 59 0 0 30) 57 1 (nI Be1))) rfl ?_
                exact mz_ret rfl
              · refine mz_go 2 (c' := (2, [some (.ref 65), some (.int (nI jxa)), some (.int 2), some (.int xc), none, none], [.int (nI jxa), .ref 65], mz_up (mz_cp (mz_set (mz_set w 57 re1) 59 ge1) 58 59 0 0 30) 57 1 (nI Be1))) rfl ?_
                refine mz_doQ (R := mz_r132) (as := [.ref 65, .int (nI jxa)]) (rest := []) (r1 := some (.int 1)) (m1 := mz_up (mz_cp (mz_set (mz_set w 57 re1) 59 ge1) 58 59 0 0 30) 57 1 (nI Be1)) mz_t132 mz_v132_65 rfl rfl rfl rfl rfl ⟨?_, rfl⟩ ?_
                · refine mz_go 6 (c' := (8, [some (.ref 65), some (.int (nI jxa))], [.int (w 66 0), .int 0, .int (nI jxa)], mz_up (mz_cp (mz_set (mz_set w 57 re1) 59 ge1) 58 59 0 0 30) 57 1 (nI Be1))) rfl ?_
                  rw [h660]
                  refine mz_go 2 (c' := (10, [some (.ref 65), some (.int (nI jxa))], [.int ((nI N) - 1), .int 0, .int (nI jxa)], mz_up (mz_cp (mz_set (mz_set w 57 re1) 59 ge1) 58 59 0 0 30) 57 1 (nI Be1))) rfl ?_
                  refine mz_doQ (R := mz_r128) (as := [.int (nI jxa), .int 0, .int ((nI N) - 1)]) (rest := []) (r1 := some (.int 1)) (m1 := mz_up (mz_cp (mz_set (mz_set w 57 re1) 59 ge1) 58 59 0 0 30) 57 1 (nI Be1)) mz_t128 mz_v128 rfl rfl rfl rfl rfl ⟨?_, rfl⟩ ?_
                  · refine mz_go 3 (c' := (if (nI jxa) < 0 then 14 else 5, [some (.int (nI jxa)), some (.int 0), some (.int ((nI N) - 1))], [], mz_up (mz_cp (mz_set (mz_set w 57 re1) 59 ge1) 58 59 0 0 30) 57 1 (nI Be1))) rfl ?_
                    refine mz_ifF q1 ?_
                    refine mz_go 3 (c' := (if ((nI N) - 1) < (nI jxa) then 14 else 10, [some (.int (nI jxa)), some (.int 0), some (.int ((nI N) - 1))], [], mz_up (mz_cp (mz_set (mz_set w 57 re1) 59 ge1) 58 59 0 0 30) 57 1 (nI Be1))) rfl ?_
                    refine mz_ifF (show ¬ (((nI N) - 1) < (nI jxa)) from (sm_nltN (sm_subN (a := N) (b := 1) rfl rfl (by omega)) rfl (show jxa ≤ (N - 1) by omega) (show (N - 1) < 2 ^ 31 by omega))) ?_
                    refine mz_go 2 (c' := (15, [some (.int (nI jxa)), some (.int 0), some (.int ((nI N) - 1))], [.int 1], mz_up (mz_cp (mz_set (mz_set w 57 re1) 59 ge1) 58 59 0 0 30) 57 1 (nI Be1))) rfl ?_
                    exact mz_ret rfl
                  exact mz_ret rfl
                refine mz_go 4 (c' := (11, [some (.ref 65), some (.int (nI jxa)), some (.int 2), some (.int xc), none, none], [.int 3, .int 0, .int 2], mz_up (mz_cp (mz_set (mz_set w 57 re1) 59 ge1) 58 59 0 0 30) 57 1 (nI Be1))) rfl ?_
                refine mz_doQ (R := mz_r128) (as := [.int 2, .int 0, .int 3]) (rest := []) (r1 := some (.int 1)) (m1 := mz_up (mz_cp (mz_set (mz_set w 57 re1) 59 ge1) 58 59 0 0 30) 57 1 (nI Be1)) mz_t128 mz_v128 rfl rfl rfl rfl rfl ⟨?_, rfl⟩ ?_
                · refine mz_go 8 (c' := (15, [some (.int 2), some (.int 0), some (.int 3)], [.int 1], mz_up (mz_cp (mz_set (mz_set w 57 re1) 59 ge1) 58 59 0 0 30) 57 1 (nI Be1))) rfl ?_
                  exact mz_ret rfl
                refine mz_go 11 (c' := (39, [some (.ref 65), some (.int (nI jxa)), some (.int 2), some (.int xc), none, none], [.ref 65], mz_up (mz_up (mz_up (mz_up (mz_cp (mz_set (mz_set w 57 re1) 59 ge1) 58 59 0 0 30) 57 1 (nI Be1)) 65 19 0) 65 20 (nI jxa)) 65 21 0)) rfl ?_
                refine mz_doQ (R := mz_r211) (as := [.ref 65]) (rest := []) (r1 := some (.int (w 3 jxa))) (m1 := mz_up (mz_up (mz_up (mz_up (mz_cp (mz_set (mz_set w 57 re1) 59 ge1) 58 59 0 0 30) 57 1 (nI Be1)) 65 19 0) 65 20 (nI jxa)) 65 21 0) mz_t211 mz_v211_65 rfl rfl rfl rfl rfl ⟨?_, rfl⟩ ?_
                · refine mz_go 4 (c' := (6, [some (.ref 65)], [.int 0, .int (nI jxa), .ref 65], mz_up (mz_up (mz_up (mz_up (mz_cp (mz_set (mz_set w 57 re1) 59 ge1) 58 59 0 0 30) 57 1 (nI Be1)) 65 19 0) 65 20 (nI jxa)) 65 21 0)) rfl ?_
                  refine mz_doQ (R := mz_r133) (as := [.ref 65, .int (nI jxa), .int 0]) (rest := []) (r1 := some (.int (w 3 jxa))) (m1 := mz_up (mz_up (mz_up (mz_up (mz_cp (mz_set (mz_set w 57 re1) 59 ge1) 58 59 0 0 30) 57 1 (nI Be1)) 65 19 0) 65 20 (nI jxa)) 65 21 0) mz_t133 mz_v133_65 rfl rfl rfl rfl rfl ⟨?_, rfl⟩ ?_
                  · refine mz_go 9 (c' := (12, [some (.ref 65), some (.int (nI jxa)), some (.int 0)], [.int ((30 + (4 * (nI jxa))) + 0), .ref 66], mz_up (mz_up (mz_up (mz_up (mz_cp (mz_set (mz_set w 57 re1) 59 ge1) 58 59 0 0 30) 57 1 (nI Be1)) 65 19 0) 65 20 (nI jxa)) 65 21 0)) rfl ?_
                    refine mz_arr (c' := (13, [some (.ref 65), some (.int (nI jxa)), some (.int 0)], [.int (w 66 (((30 + (4 * (nI jxa))) + 0).toNatClampNeg))], mz_up (mz_up (mz_up (mz_up (mz_cp (mz_set (mz_set w 57 re1) 59 ge1) 58 59 0 0 30) 57 1 (nI Be1)) 65 19 0) 65 20 (nI jxa)) 65 21 0)) rfl (show mz_in ((30 + (4 * (nI jxa))) + 0) 650 = true from sm_inN (sm_addN (sm_addN rfl (sm_mulN rfl rfl)) rfl) (show ((30 + (4 * jxa)) + 0) < 650 by omega) (by decide)) ?_
                    rw [show ((30 + (4 * (nI jxa))) + 0 : Int32).toNatClampNeg = ((30 + (4 * jxa)) + 0) from sm_clN (sm_addN (sm_addN rfl (sm_mulN rfl rfl)) rfl) (show ((30 + (4 * jxa)) + 0) < 2 ^ 31 by omega)]
                    rw [show w 66 ((30 + (4 * jxa)) + 0) = w 3 jxa from (hr2.2.1 jxa (by omega)).1]
                    exact mz_ret rfl
                  exact mz_ret rfl
                refine mz_go 12 (c' := (82, [some (.ref 65), some (.int (nI jxa)), some (.int 2), some (.int xc), some (.int (w 3 jxa)), none], [.int xc, .int (w 3 jxa), .ref 65], mz_up (mz_up (mz_up (mz_up (mz_cp (mz_set (mz_set w 57 re1) 59 ge1) 58 59 0 0 30) 57 1 (nI Be1)) 65 19 0) 65 20 (nI jxa)) 65 21 0)) rfl ?_
                refine mz_doQ (R := mz_r215) (as := [.ref 65, .int (w 3 jxa), .int xc]) (rest := []) (r1 := some (.int ve2)) (m1 := mz_set (mz_set (mz_up (mz_cp (mz_set (mz_set w 57 re1) 59 ge1) 58 59 0 0 30) 57 1 (nI Be1)) 65 re2) 74 ge2) mz_t215 mz_v215_65 rfl rfl rfl rfl rfl (Ee2.deep (by decide)) ?_
                refine mz_go 5 (c' := (if (re2 21) = 0 then 113 else 104, [some (.ref 65), some (.int (nI jxa)), some (.int 2), some (.int xc), some (.int (w 3 jxa)), some (.int ve2)], [], mz_set (mz_set (mz_up (mz_cp (mz_set (mz_set w 57 re1) 59 ge1) 58 59 0 0 30) 57 1 (nI Be1)) 65 re2) 74 ge2)) rfl ?_
                refine mz_ifT q14 ?_
                refine mz_go 1 (c' := (115, [some (.ref 65), some (.int (nI jxa)), some (.int 2), some (.int xc), some (.int (w 3 jxa)), some (.int ve2)], [.int ve2], mz_set (mz_set (mz_up (mz_cp (mz_set (mz_set w 57 re1) 59 ge1) 58 59 0 0 30) 57 1 (nI Be1)) 65 re2) 74 ge2)) rfl ?_
                exact mz_ret rfl
              · exact sm_I_tr hn hI2 (fun i hi h1 => by
                  have hne : ∀ r, sm_scr r = true → i ≠ r := fun r hr e => by
                    rw [e, hr] at hi
                    cases hi
                  simp only [mz_cp_ne (hne 58 rfl), mz_set_ne (hne 59 rfl), mz_set_ne (hne 65 rfl), mz_set_ne (hne 74 rfl), mz_set_ne h1, mz_up_ne h1]) (show (mz_set (mz_set (mz_up (mz_cp (mz_set (mz_set w 57 re1) 59 ge1) 58 59 0 0 30) 57 1 (nI Be1)) 65 re2) 74 ge2) 65 2 = w 65 2 from Ke2 2 (by decide) (by decide)) ⟨(sm_Nto (n := 30) (k := Be1) (by decide) (by omega)), (by rw [show (mz_set (mz_set (mz_up (mz_cp (mz_set (mz_set w 57 re1) 59 ge1) 58 59 0 0 30) 57 1 (nI Be1)) 65 re2) 74 ge2) 65 19 = nI Be2 from be2]; exact sm_Nto (n := 30) (by decide) hBe2)⟩
            · refine ⟨ve1, (-1000006), mz_up (mz_cp (mz_set (mz_set w 57 re1) 59 ge1) 58 59 0 0 30) 57 1 (nI Be1), mz_up (mz_set (mz_set (mz_up (mz_cp (mz_set (mz_set w 57 re1) 59 ge1) 58 59 0 0 30) 57 1 (nI Be1)) 65 re2) 74 ge2) 68 6 ((w 68 6) + 1), ⟨?_, rfl⟩, ⟨?_, rfl⟩, ?_⟩
              · refine mz_go 4 (c' := (8, [some (.ref 0), some (.int (nI jxa)), some (.int 2), some (.int xc), none], [.int (nI jxa), .ref 2], w)) rfl ?_
                refine mz_doQ (R := mz_r21) (as := [.ref 2, .int (nI jxa)]) (rest := []) (r1 := some (.int 1)) (m1 := w) mz_t21 mz_v21_2 rfl rfl rfl rfl rfl ((cs_has hN (m := w) h4 (show jxa < N by omega)).deep (by decide)) ?_
                refine mz_go 4 (c' := (17, [some (.ref 0), some (.int (nI jxa)), some (.int 2), some (.int xc), none], [.int 3, .int 0, .int 2], w)) rfl ?_
                refine mz_doQ (R := mz_r121) (as := [.int 2, .int 0, .int 3]) (rest := []) (r1 := some (.int 1)) (m1 := w) mz_t121 mz_v121 rfl rfl rfl rfl rfl ⟨?_, rfl⟩ ?_
                · refine mz_go 8 (c' := (15, [some (.int 2), some (.int 0), some (.int 3)], [.int 1], w)) rfl ?_
                  exact mz_ret rfl
                refine mz_go 9 (c' := (43, [some (.ref 0), some (.int (nI jxa)), some (.int 2), some (.int xc), none], [.int xc, .int 2, .int (nI jxa), .ref 2, .ref 57], w)) rfl ?_
                refine mz_doQ (R := mz_r60) (as := [.ref 57, .ref 2, .int (nI jxa), .int 2, .int xc]) (rest := []) (r1 := some (.int ve1)) (m1 := mz_set (mz_set w 57 re1) 59 ge1) mz_t60 mz_v60_57 rfl rfl rfl rfl rfl ⟨?_, rfl⟩ ?_
                · refine mz_go 8 (c' := (12, [some (.ref 57), some (.ref 2), some (.int (nI jxa)), some (.int 2), some (.int xc)], [.int (nI jxa), .ref 2], mz_up (mz_up w 57 2 0) 57 4 0)) rfl ?_
                  refine mz_doQ (R := mz_r21) (as := [.ref 2, .int (nI jxa)]) (rest := []) (r1 := some (.int 1)) (m1 := mz_up (mz_up w 57 2 0) 57 4 0) mz_t21 mz_v21_2 rfl rfl rfl rfl rfl ((cs_has hN (m := mz_up (mz_up w 57 2 0) 57 4 0) h4 (show jxa < N by omega)).deep (by decide)) ?_
                  refine mz_go 5 (c' := (26, [some (.ref 57), some (.ref 2), some (.int (nI jxa)), some (.int 2), some (.int xc)], [.int (nI jxa), .ref 3, .ref 57], mz_up (mz_up w 57 2 0) 57 4 0)) rfl ?_
                  refine mz_arr (c' := (27, [some (.ref 57), some (.ref 2), some (.int (nI jxa)), some (.int 2), some (.int xc)], [.int (w 3 ((nI jxa).toNatClampNeg)), .ref 57], mz_up (mz_up w 57 2 0) 57 4 0)) rfl (show mz_in (nI jxa) 6 = true from sm_inN rfl (show jxa < 6 by omega) (by decide)) ?_
                  rw [show (nI jxa : Int32).toNatClampNeg = jxa from sm_clN rfl (show jxa < 2 ^ 31 by omega)]
                  refine mz_go 8 (c' := (41, [some (.ref 57), some (.ref 2), some (.int (nI jxa)), some (.int 2), some (.int xc)], [.int (nI jxa), .ref 6, .ref 57], mz_up (mz_up (mz_up (mz_up w 57 2 0) 57 4 0) 57 5 (w 3 jxa)) 57 6 (nI jxa))) rfl ?_
                  refine mz_arr (c' := (42, [some (.ref 57), some (.ref 2), some (.int (nI jxa)), some (.int 2), some (.int xc)], [.int (w 6 ((nI jxa).toNatClampNeg)), .ref 57], mz_up (mz_up (mz_up (mz_up w 57 2 0) 57 4 0) 57 5 (w 3 jxa)) 57 6 (nI jxa))) rfl (show mz_in (nI jxa) 6 = true from sm_inN rfl (show jxa < 6 by omega) (by decide)) ?_
                  rw [show (nI jxa : Int32).toNatClampNeg = jxa from sm_clN rfl (show jxa < 2 ^ 31 by omega)]
                  refine mz_go 7 (c' := (54, [some (.ref 57), some (.ref 2), some (.int (nI jxa)), some (.int 2), some (.int xc)], [.int 0, .int xc, .int (w 3 jxa), .int 2, .ref 57], mz_up (mz_up (mz_up (mz_up (mz_up w 57 2 0) 57 4 0) 57 5 (w 3 jxa)) 57 6 (nI jxa)) 57 7 (w 6 jxa))) rfl ?_
                  refine mz_doQ (R := mz_r62) (as := [.ref 57, .int 2, .int (w 3 jxa), .int xc, .int 0]) (rest := []) (r1 := some (.int ve1)) (m1 := mz_set (mz_set w 57 re1) 59 ge1) mz_t62 mz_v62_57 rfl rfl rfl rfl rfl (Ee1.deep (by decide)) ?_
                  exact mz_ret rfl
                refine mz_go 5 (c' := (if (re1 2) = 0 then 65 else 58, [some (.ref 0), some (.int (nI jxa)), some (.int 2), some (.int xc), some (.int ve1)], [], mz_set (mz_set w 57 re1) 59 ge1)) rfl ?_
                refine mz_ifT q13 ?_
                refine mz_go 2 (c' := (69, [some (.ref 0), some (.int (nI jxa)), some (.int 2), some (.int xc), some (.int ve1)], [.ref 57], mz_set (mz_set w 57 re1) 59 ge1)) rfl ?_
                refine mz_doQ (R := mz_r61) (as := [.ref 57]) (rest := []) (r1 := none) (m1 := mz_up (mz_cp (mz_set (mz_set w 57 re1) 59 ge1) 58 59 0 0 30) 57 1 (nI Be1)) mz_t61 mz_v61_57 rfl rfl rfl rfl rfl ⟨?_, rfl⟩ ?_
                · refine mz_go 4 (c' := (8, [some (.ref 57)], [.ref 58, .ref 59], mz_set (mz_set w 57 re1) 59 ge1)) rfl ?_
                  refine mz_doQ (R := mz_r126) (as := [.ref 59, .ref 58]) (rest := []) (r1 := none) (m1 := mz_cp (mz_set (mz_set w 57 re1) 59 ge1) 58 59 0 0 30) mz_t126 mz_v126_59 rfl rfl rfl rfl rfl ⟨?_, rfl⟩ ?_
                  · refine mz_go 10 (c' := (14, [some (.ref 59), some (.ref 58)], [], mz_cp (mz_set (mz_set w 57 re1) 59 ge1) 58 59 0 0 30)) rfl ?_
                    exact mz_ret rfl
                  refine mz_go 3 (c' := (16, [some (.ref 57)], [.int (re1 4), .ref 57], mz_cp (mz_set (mz_set w 57 re1) 59 ge1) 58 59 0 0 30)) rfl ?_
                  rw [be1]
                  refine mz_go 1 (c' := (19, [some (.ref 57)], [], mz_up (mz_cp (mz_set (mz_set w 57 re1) 59 ge1) 58 59 0 0 30) 57 1 (nI Be1))) rfl ?_
                  exact mz_ret rfl
                refine mz_go 1 (c' := (74, [some (.ref 0), some (.int (nI jxa)), some (.int 2), some (.int xc), some (.int ve1)], [.int ve1], mz_up (mz_cp (mz_set (mz_set w 57 re1) 59 ge1) 58 59 0 0 30) 57 1 (nI Be1))) rfl ?_
                exact mz_ret rfl
              · refine mz_go 2 (c' := (2, [some (.ref 65), some (.int (nI jxa)), some (.int 2), some (.int xc), none, none], [.int (nI jxa), .ref 65], mz_up (mz_cp (mz_set (mz_set w 57 re1) 59 ge1) 58 59 0 0 30) 57 1 (nI Be1))) rfl ?_
                refine mz_doQ (R := mz_r132) (as := [.ref 65, .int (nI jxa)]) (rest := []) (r1 := some (.int 1)) (m1 := mz_up (mz_cp (mz_set (mz_set w 57 re1) 59 ge1) 58 59 0 0 30) 57 1 (nI Be1)) mz_t132 mz_v132_65 rfl rfl rfl rfl rfl ⟨?_, rfl⟩ ?_
                · refine mz_go 6 (c' := (8, [some (.ref 65), some (.int (nI jxa))], [.int (w 66 0), .int 0, .int (nI jxa)], mz_up (mz_cp (mz_set (mz_set w 57 re1) 59 ge1) 58 59 0 0 30) 57 1 (nI Be1))) rfl ?_
                  rw [h660]
                  refine mz_go 2 (c' := (10, [some (.ref 65), some (.int (nI jxa))], [.int ((nI N) - 1), .int 0, .int (nI jxa)], mz_up (mz_cp (mz_set (mz_set w 57 re1) 59 ge1) 58 59 0 0 30) 57 1 (nI Be1))) rfl ?_
                  refine mz_doQ (R := mz_r128) (as := [.int (nI jxa), .int 0, .int ((nI N) - 1)]) (rest := []) (r1 := some (.int 1)) (m1 := mz_up (mz_cp (mz_set (mz_set w 57 re1) 59 ge1) 58 59 0 0 30) 57 1 (nI Be1)) mz_t128 mz_v128 rfl rfl rfl rfl rfl ⟨?_, rfl⟩ ?_
                  · refine mz_go 3 (c' := (if (nI jxa) < 0 then 14 else 5, [some (.int (nI jxa)), some (.int 0), some (.int ((nI N) - 1))], [], mz_up (mz_cp (mz_set (mz_set w 57 re1) 59 ge1) 58 59 0 0 30) 57 1 (nI Be1))) rfl ?_
                    refine mz_ifF q1 ?_
                    refine mz_go 3 (c' := (if ((nI N) - 1) < (nI jxa) then 14 else 10, [some (.int (nI jxa)), some (.int 0), some (.int ((nI N) - 1))], [], mz_up (mz_cp (mz_set (mz_set w 57 re1) 59 ge1) 58 59 0 0 30) 57 1 (nI Be1))) rfl ?_
                    refine mz_ifF (show ¬ (((nI N) - 1) < (nI jxa)) from (sm_nltN (sm_subN (a := N) (b := 1) rfl rfl (by omega)) rfl (show jxa ≤ (N - 1) by omega) (show (N - 1) < 2 ^ 31 by omega))) ?_
                    refine mz_go 2 (c' := (15, [some (.int (nI jxa)), some (.int 0), some (.int ((nI N) - 1))], [.int 1], mz_up (mz_cp (mz_set (mz_set w 57 re1) 59 ge1) 58 59 0 0 30) 57 1 (nI Be1))) rfl ?_
                    exact mz_ret rfl
                  exact mz_ret rfl
                refine mz_go 4 (c' := (11, [some (.ref 65), some (.int (nI jxa)), some (.int 2), some (.int xc), none, none], [.int 3, .int 0, .int 2], mz_up (mz_cp (mz_set (mz_set w 57 re1) 59 ge1) 58 59 0 0 30) 57 1 (nI Be1))) rfl ?_
                refine mz_doQ (R := mz_r128) (as := [.int 2, .int 0, .int 3]) (rest := []) (r1 := some (.int 1)) (m1 := mz_up (mz_cp (mz_set (mz_set w 57 re1) 59 ge1) 58 59 0 0 30) 57 1 (nI Be1)) mz_t128 mz_v128 rfl rfl rfl rfl rfl ⟨?_, rfl⟩ ?_
                · refine mz_go 8 (c' := (15, [some (.int 2), some (.int 0), some (.int 3)], [.int 1], mz_up (mz_cp (mz_set (mz_set w 57 re1) 59 ge1) 58 59 0 0 30) 57 1 (nI Be1))) rfl ?_
                  exact mz_ret rfl
                refine mz_go 11 (c' := (39, [some (.ref 65), some (.int (nI jxa)), some (.int 2), some (.int xc), none, none], [.ref 65], mz_up (mz_up (mz_up (mz_up (mz_cp (mz_set (mz_set w 57 re1) 59 ge1) 58 59 0 0 30) 57 1 (nI Be1)) 65 19 0) 65 20 (nI jxa)) 65 21 0)) rfl ?_
                refine mz_doQ (R := mz_r211) (as := [.ref 65]) (rest := []) (r1 := some (.int (w 3 jxa))) (m1 := mz_up (mz_up (mz_up (mz_up (mz_cp (mz_set (mz_set w 57 re1) 59 ge1) 58 59 0 0 30) 57 1 (nI Be1)) 65 19 0) 65 20 (nI jxa)) 65 21 0) mz_t211 mz_v211_65 rfl rfl rfl rfl rfl ⟨?_, rfl⟩ ?_
                · refine mz_go 4 (c' := (6, [some (.ref 65)], [.int 0, .int (nI jxa), .ref 65], mz_up (mz_up (mz_up (mz_up (mz_cp (mz_set (mz_set w 57 re1) 59 ge1) 58 59 0 0 30) 57 1 (nI Be1)) 65 19 0) 65 20 (nI jxa)) 65 21 0)) rfl ?_
                  refine mz_doQ (R := mz_r133) (as := [.ref 65, .int (nI jxa), .int 0]) (rest := []) (r1 := some (.int (w 3 jxa))) (m1 := mz_up (mz_up (mz_up (mz_up (mz_cp (mz_set (mz_set w 57 re1) 59 ge1) 58 59 0 0 30) 57 1 (nI Be1)) 65 19 0) 65 20 (nI jxa)) 65 21 0) mz_t133 mz_v133_65 rfl rfl rfl rfl rfl ⟨?_, rfl⟩ ?_
                  · refine mz_go 9 (c' := (12, [some (.ref 65), some (.int (nI jxa)), some (.int 0)], [.int ((30 + (4 * (nI jxa))) + 0), .ref 66], mz_up (mz_up (mz_up (mz_up (mz_cp (mz_set (mz_set w 57 re1) 59 ge1) 58 59 0 0 30) 57 1 (nI Be1)) 65 19 0) 65 20 (nI jxa)) 65 21 0)) rfl ?_
                    refine mz_arr (c' := (13, [some (.ref 65), some (.int (nI jxa)), some (.int 0)], [.int (w 66 (((30 + (4 * (nI jxa))) + 0).toNatClampNeg))], mz_up (mz_up (mz_up (mz_up (mz_cp (mz_set (mz_set w 57 re1) 59 ge1) 58 59 0 0 30) 57 1 (nI Be1)) 65 19 0) 65 20 (nI jxa)) 65 21 0)) rfl (show mz_in ((30 + (4 * (nI jxa))) + 0) 650 = true from sm_inN (sm_addN (sm_addN rfl (sm_mulN rfl rfl)) rfl) (show ((30 + (4 * jxa)) + 0) < 650 by omega) (by decide)) ?_
                    rw [show ((30 + (4 * (nI jxa))) + 0 : Int32).toNatClampNeg = ((30 + (4 * jxa)) + 0) from sm_clN (sm_addN (sm_addN rfl (sm_mulN rfl rfl)) rfl) (show ((30 + (4 * jxa)) + 0) < 2 ^ 31 by omega)]
                    rw [show w 66 ((30 + (4 * jxa)) + 0) = w 3 jxa from (hr2.2.1 jxa (by omega)).1]
                    exact mz_ret rfl
                  exact mz_ret rfl
                refine mz_go 12 (c' := (82, [some (.ref 65), some (.int (nI jxa)), some (.int 2), some (.int xc), some (.int (w 3 jxa)), none], [.int xc, .int (w 3 jxa), .ref 65], mz_up (mz_up (mz_up (mz_up (mz_cp (mz_set (mz_set w 57 re1) 59 ge1) 58 59 0 0 30) 57 1 (nI Be1)) 65 19 0) 65 20 (nI jxa)) 65 21 0)) rfl ?_
                refine mz_doQ (R := mz_r215) (as := [.ref 65, .int (w 3 jxa), .int xc]) (rest := []) (r1 := some (.int ve2)) (m1 := mz_set (mz_set (mz_up (mz_cp (mz_set (mz_set w 57 re1) 59 ge1) 58 59 0 0 30) 57 1 (nI Be1)) 65 re2) 74 ge2) mz_t215 mz_v215_65 rfl rfl rfl rfl rfl (Ee2.deep (by decide)) ?_
                refine mz_go 5 (c' := (if (re2 21) = 0 then 113 else 104, [some (.ref 65), some (.int (nI jxa)), some (.int 2), some (.int xc), some (.int (w 3 jxa)), some (.int ve2)], [], mz_set (mz_set (mz_up (mz_cp (mz_set (mz_set w 57 re1) 59 ge1) 58 59 0 0 30) 57 1 (nI Be1)) 65 re2) 74 ge2)) rfl ?_
                refine mz_ifF q14 ?_
                refine mz_go 2 (c' := (107, [some (.ref 65), some (.int (nI jxa)), some (.int 2), some (.int xc), some (.int (w 3 jxa)), some (.int ve2)], [.int 6, .ref 65], mz_set (mz_set (mz_up (mz_cp (mz_set (mz_set w 57 re1) 59 ge1) 58 59 0 0 30) 57 1 (nI Be1)) 65 re2) 74 ge2)) rfl ?_
                refine mz_doQ (R := mz_r127) (as := [.ref 65, .int 6]) (rest := []) (r1 := some (.int (-1000006))) (m1 := mz_up (mz_set (mz_set (mz_up (mz_cp (mz_set (mz_set w 57 re1) 59 ge1) 58 59 0 0 30) 57 1 (nI Be1)) 65 re2) 74 ge2) 68 6 ((w 68 6) + 1)) mz_t127 mz_v127_65 rfl rfl rfl rfl rfl ⟨?_, rfl⟩ ?_
                · refine mz_go 11 (c' := (14, [some (.ref 65), some (.int 6)], [.int (-1000006)], mz_up (mz_set (mz_set (mz_up (mz_cp (mz_set (mz_set w 57 re1) 59 ge1) 58 59 0 0 30) 57 1 (nI Be1)) 65 re2) 74 ge2) 68 6 ((w 68 6) + 1))) rfl ?_
                  exact mz_ret rfl
                refine mz_go 1 (c' := (115, [some (.ref 65), some (.int (nI jxa)), some (.int 2), some (.int xc), some (.int (w 3 jxa)), some (.int ve2)], [.int (-1000006)], mz_up (mz_set (mz_set (mz_up (mz_cp (mz_set (mz_set w 57 re1) 59 ge1) 58 59 0 0 30) 57 1 (nI Be1)) 65 re2) 74 ge2) 68 6 ((w 68 6) + 1))) rfl ?_
                exact mz_ret rfl
              · exact sm_I_tr hn hI2 (fun i hi h1 => by
                  have hne : ∀ r, sm_scr r = true → i ≠ r := fun r hr e => by
                    rw [e, hr] at hi
                    cases hi
                  simp only [mz_cp_ne (hne 58 rfl), mz_set_ne (hne 59 rfl), mz_set_ne (hne 65 rfl), mz_set_ne (hne 74 rfl), mz_set_ne h1, mz_up_ne (hne 68 rfl), mz_up_ne h1]) (show (mz_up (mz_set (mz_set (mz_up (mz_cp (mz_set (mz_set w 57 re1) 59 ge1) 58 59 0 0 30) 57 1 (nI Be1)) 65 re2) 74 ge2) 68 6 ((w 68 6) + 1)) 65 2 = w 65 2 from Ke2 2 (by decide) (by decide)) ⟨(sm_Nto (n := 30) (k := Be1) (by decide) (by omega)), (by rw [show (mz_up (mz_set (mz_set (mz_up (mz_cp (mz_set (mz_set w 57 re1) 59 ge1) 58 59 0 0 30) 57 1 (nI Be1)) 65 re2) 74 ge2) 68 6 ((w 68 6) + 1)) 65 19 = nI Be2 from be2]; exact sm_Nto (n := 30) (by decide) hBe2)⟩
          · have hve2 : mz_up (mz_up (mz_up (mz_up (mz_set (mz_set w 57 re1) 59 ge1) 64 6 ((w 64 6) + 1)) 65 19 0) 65 20 (nI jxa)) 65 21 0 = mz_set (mz_set (mz_up (mz_set (mz_set w 57 re1) 59 ge1) 64 6 ((w 64 6) + 1)) 65 ((mz_up (mz_up (mz_up (mz_up (mz_set (mz_set w 57 re1) 59 ge1) 64 6 ((w 64 6) + 1)) 65 19 0) 65 20 (nI jxa)) 65 21 0) 65)) 74 ((mz_up (mz_set (mz_set w 57 re1) 59 ge1) 64 6 ((w 64 6) + 1)) 74) := sm_of2 (fun i h1 h2 => by simp only [mz_up_ne h1])
            obtain ⟨ve2, re2, ge2, Ee2, We2⟩ := vs1_2_any (m := mz_up (mz_set (mz_set w 57 re1) 59 ge1) 64 6 ((w 64 6) + 1)) (w := w) hr2 (r := ((mz_up (mz_up (mz_up (mz_up (mz_set (mz_set w 57 re1) 59 ge1) 64 6 ((w 64 6) + 1)) 65 19 0) 65 20 (nI jxa)) 65 21 0) 65)) (g := (mz_up (mz_set (mz_set w 57 re1) 59 ge1) 64 6 ((w 64 6) + 1)) 74) ⟨⟨0, by decide, rfl⟩, Or.inl rfl⟩ (j := jxa) (by omega) ekk hcc rfl (f := cc) hcc xc
            rw [← hve2, ← ekk] at Ee2
            obtain ⟨⟨⟨Be2, hBe2, be2⟩, pe2⟩, Ke2⟩ := We2
            by_cases q15 : (re2 21) = 0
            · refine ⟨(-1000006), ve2, mz_up (mz_set (mz_set w 57 re1) 59 ge1) 64 6 ((w 64 6) + 1), mz_set (mz_set (mz_up (mz_set (mz_set w 57 re1) 59 ge1) 64 6 ((w 64 6) + 1)) 65 re2) 74 ge2, ⟨?_, rfl⟩, ⟨?_, rfl⟩, ?_⟩
              · refine mz_go 4 (c' := (8, [some (.ref 0), some (.int (nI jxa)), some (.int 2), some (.int xc), none], [.int (nI jxa), .ref 2], w)) rfl ?_
                refine mz_doQ (R := mz_r21) (as := [.ref 2, .int (nI jxa)]) (rest := []) (r1 := some (.int 1)) (m1 := w) mz_t21 mz_v21_2 rfl rfl rfl rfl rfl ((cs_has hN (m := w) h4 (show jxa < N by omega)).deep (by decide)) ?_
                refine mz_go 4 (c' := (17, [some (.ref 0), some (.int (nI jxa)), some (.int 2), some (.int xc), none], [.int 3, .int 0, .int 2], w)) rfl ?_
                refine mz_doQ (R := mz_r121) (as := [.int 2, .int 0, .int 3]) (rest := []) (r1 := some (.int 1)) (m1 := w) mz_t121 mz_v121 rfl rfl rfl rfl rfl ⟨?_, rfl⟩ ?_
                · refine mz_go 8 (c' := (15, [some (.int 2), some (.int 0), some (.int 3)], [.int 1], w)) rfl ?_
                  exact mz_ret rfl
                refine mz_go 9 (c' := (43, [some (.ref 0), some (.int (nI jxa)), some (.int 2), some (.int xc), none], [.int xc, .int 2, .int (nI jxa), .ref 2, .ref 57], w)) rfl ?_
                refine mz_doQ (R := mz_r60) (as := [.ref 57, .ref 2, .int (nI jxa), .int 2, .int xc]) (rest := []) (r1 := some (.int ve1)) (m1 := mz_set (mz_set w 57 re1) 59 ge1) mz_t60 mz_v60_57 rfl rfl rfl rfl rfl ⟨?_, rfl⟩ ?_
                · refine mz_go 8 (c' := (12, [some (.ref 57), some (.ref 2), some (.int (nI jxa)), some (.int 2), some (.int xc)], [.int (nI jxa), .ref 2], mz_up (mz_up w 57 2 0) 57 4 0)) rfl ?_
                  refine mz_doQ (R := mz_r21) (as := [.ref 2, .int (nI jxa)]) (rest := []) (r1 := some (.int 1)) (m1 := mz_up (mz_up w 57 2 0) 57 4 0) mz_t21 mz_v21_2 rfl rfl rfl rfl rfl ((cs_has hN (m := mz_up (mz_up w 57 2 0) 57 4 0) h4 (show jxa < N by omega)).deep (by decide)) ?_
                  refine mz_go 5 (c' := (26, [some (.ref 57), some (.ref 2), some (.int (nI jxa)), some (.int 2), some (.int xc)], [.int (nI jxa), .ref 3, .ref 57], mz_up (mz_up w 57 2 0) 57 4 0)) rfl ?_
                  refine mz_arr (c' := (27, [some (.ref 57), some (.ref 2), some (.int (nI jxa)), some (.int 2), some (.int xc)], [.int (w 3 ((nI jxa).toNatClampNeg)), .ref 57], mz_up (mz_up w 57 2 0) 57 4 0)) rfl (show mz_in (nI jxa) 6 = true from sm_inN rfl (show jxa < 6 by omega) (by decide)) ?_
                  rw [show (nI jxa : Int32).toNatClampNeg = jxa from sm_clN rfl (show jxa < 2 ^ 31 by omega)]
                  refine mz_go 8 (c' := (41, [some (.ref 57), some (.ref 2), some (.int (nI jxa)), some (.int 2), some (.int xc)], [.int (nI jxa), .ref 6, .ref 57], mz_up (mz_up (mz_up (mz_up w 57 2 0) 57 4 0) 57 5 (w 3 jxa)) 57 6 (nI jxa))) rfl ?_
                  refine mz_arr (c' := (42, [some (.ref 57), some (.ref 2), some (.int (nI jxa)), some (.int 2), some (.int xc)], [.int (w 6 ((nI jxa).toNatClampNeg)), .ref 57], mz_up (mz_up (mz_up (mz_up w 57 2 0) 57 4 0) 57 5 (w 3 jxa)) 57 6 (nI jxa))) rfl (show mz_in (nI jxa) 6 = true from sm_inN rfl (show jxa < 6 by omega) (by decide)) ?_
                  rw [show (nI jxa : Int32).toNatClampNeg = jxa from sm_clN rfl (show jxa < 2 ^ 31 by omega)]
                  refine mz_go 7 (c' := (54, [some (.ref 57), some (.ref 2), some (.int (nI jxa)), some (.int 2), some (.int xc)], [.int 0, .int xc, .int (w 3 jxa), .int 2, .ref 57], mz_up (mz_up (mz_up (mz_up (mz_up w 57 2 0) 57 4 0) 57 5 (w 3 jxa)) 57 6 (nI jxa)) 57 7 (w 6 jxa))) rfl ?_
                  refine mz_doQ (R := mz_r62) (as := [.ref 57, .int 2, .int (w 3 jxa), .int xc, .int 0]) (rest := []) (r1 := some (.int ve1)) (m1 := mz_set (mz_set w 57 re1) 59 ge1) mz_t62 mz_v62_57 rfl rfl rfl rfl rfl (Ee1.deep (by decide)) ?_
                  exact mz_ret rfl
                refine mz_go 5 (c' := (if (re1 2) = 0 then 65 else 58, [some (.ref 0), some (.int (nI jxa)), some (.int 2), some (.int xc), some (.int ve1)], [], mz_set (mz_set w 57 re1) 59 ge1)) rfl ?_
                refine mz_ifF q13 ?_
                refine mz_go 2 (c' := (61, [some (.ref 0), some (.int (nI jxa)), some (.int 2), some (.int xc), some (.int ve1)], [.int 6, .ref 0], mz_set (mz_set w 57 re1) 59 ge1)) rfl ?_
                refine mz_doQ (R := mz_r109) (as := [.ref 0, .int 6]) (rest := []) (r1 := some (.int (-1000006))) (m1 := mz_up (mz_set (mz_set w 57 re1) 59 ge1) 64 6 ((w 64 6) + 1)) mz_t109 mz_v109_0 rfl rfl rfl rfl rfl ⟨?_, rfl⟩ ?_
                · refine mz_go 3 (c' := (4, [some (.ref 0), some (.int 6)], [.int 6, .int 1, .int 6], mz_set (mz_set w 57 re1) 59 ge1)) rfl ?_
                  refine mz_doQ (R := mz_r121) (as := [.int 6, .int 1, .int 6]) (rest := []) (r1 := some (.int 1)) (m1 := mz_set (mz_set w 57 re1) 59 ge1) mz_t121 mz_v121 rfl rfl rfl rfl rfl ⟨?_, rfl⟩ ?_
                  · refine mz_go 8 (c' := (15, [some (.int 6), some (.int 1), some (.int 6)], [.int 1], mz_set (mz_set w 57 re1) 59 ge1)) rfl ?_
                    exact mz_ret rfl
                  refine mz_go 12 (c' := (25, [some (.ref 0), some (.int 6)], [.int (-1000006)], mz_up (mz_set (mz_set w 57 re1) 59 ge1) 64 6 ((w 64 6) + 1))) rfl ?_
                  exact mz_ret rfl
                exact mz_ret rfl
              · refine mz_go 2 (c' := (2, [some (.ref 65), some (.int (nI jxa)), some (.int 2), some (.int xc), none, none], [.int (nI jxa), .ref 65], mz_up (mz_set (mz_set w 57 re1) 59 ge1) 64 6 ((w 64 6) + 1))) rfl ?_
                refine mz_doQ (R := mz_r132) (as := [.ref 65, .int (nI jxa)]) (rest := []) (r1 := some (.int 1)) (m1 := mz_up (mz_set (mz_set w 57 re1) 59 ge1) 64 6 ((w 64 6) + 1)) mz_t132 mz_v132_65 rfl rfl rfl rfl rfl ⟨?_, rfl⟩ ?_
                · refine mz_go 6 (c' := (8, [some (.ref 65), some (.int (nI jxa))], [.int (w 66 0), .int 0, .int (nI jxa)], mz_up (mz_set (mz_set w 57 re1) 59 ge1) 64 6 ((w 64 6) + 1))) rfl ?_
                  rw [h660]
                  refine mz_go 2 (c' := (10, [some (.ref 65), some (.int (nI jxa))], [.int ((nI N) - 1), .int 0, .int (nI jxa)], mz_up (mz_set (mz_set w 57 re1) 59 ge1) 64 6 ((w 64 6) + 1))) rfl ?_
                  refine mz_doQ (R := mz_r128) (as := [.int (nI jxa), .int 0, .int ((nI N) - 1)]) (rest := []) (r1 := some (.int 1)) (m1 := mz_up (mz_set (mz_set w 57 re1) 59 ge1) 64 6 ((w 64 6) + 1)) mz_t128 mz_v128 rfl rfl rfl rfl rfl ⟨?_, rfl⟩ ?_
                  · refine mz_go 3 (c' := (if (nI jxa) < 0 then 14 else 5, [some (.int (nI jxa)), some (.int 0), some (.int ((nI N) - 1))], [], mz_up (mz_set (mz_set w 57 re1) 59 ge1) 64 6 ((w 64 6) + 1))) rfl ?_
                    refine mz_ifF q1 ?_
                    refine mz_go 3 (c' := (if ((nI N) - 1) < (nI jxa) then 14 else 10, [some (.int (nI jxa)), some (.int 0), some (.int ((nI N) - 1))], [], mz_up (mz_set (mz_set w 57 re1) 59 ge1) 64 6 ((w 64 6) + 1))) rfl ?_
                    refine mz_ifF (show ¬ (((nI N) - 1) < (nI jxa)) from (sm_nltN (sm_subN (a := N) (b := 1) rfl rfl (by omega)) rfl (show jxa ≤ (N - 1) by omega) (show (N - 1) < 2 ^ 31 by omega))) ?_
                    refine mz_go 2 (c' := (15, [some (.int (nI jxa)), some (.int 0), some (.int ((nI N) - 1))], [.int 1], mz_up (mz_set (mz_set w 57 re1) 59 ge1) 64 6 ((w 64 6) + 1))) rfl ?_
                    exact mz_ret rfl
                  exact mz_ret rfl
                refine mz_go 4 (c' := (11, [some (.ref 65), some (.int (nI jxa)), some (.int 2), some (.int xc), none, none], [.int 3, .int 0, .int 2], mz_up (mz_set (mz_set w 57 re1) 59 ge1) 64 6 ((w 64 6) + 1))) rfl ?_
                refine mz_doQ (R := mz_r128) (as := [.int 2, .int 0, .int 3]) (rest := []) (r1 := some (.int 1)) (m1 := mz_up (mz_set (mz_set w 57 re1) 59 ge1) 64 6 ((w 64 6) + 1)) mz_t128 mz_v128 rfl rfl rfl rfl rfl ⟨?_, rfl⟩ ?_
                · refine mz_go 8 (c' := (15, [some (.int 2), some (.int 0), some (.int 3)], [.int 1], mz_up (mz_set (mz_set w 57 re1) 59 ge1) 64 6 ((w 64 6) + 1))) rfl ?_
                  exact mz_ret rfl
                refine mz_go 11 (c' := (39, [some (.ref 65), some (.int (nI jxa)), some (.int 2), some (.int xc), none, none], [.ref 65], mz_up (mz_up (mz_up (mz_up (mz_set (mz_set w 57 re1) 59 ge1) 64 6 ((w 64 6) + 1)) 65 19 0) 65 20 (nI jxa)) 65 21 0)) rfl ?_
                refine mz_doQ (R := mz_r211) (as := [.ref 65]) (rest := []) (r1 := some (.int (w 3 jxa))) (m1 := mz_up (mz_up (mz_up (mz_up (mz_set (mz_set w 57 re1) 59 ge1) 64 6 ((w 64 6) + 1)) 65 19 0) 65 20 (nI jxa)) 65 21 0) mz_t211 mz_v211_65 rfl rfl rfl rfl rfl ⟨?_, rfl⟩ ?_
                · refine mz_go 4 (c' := (6, [some (.ref 65)], [.int 0, .int (nI jxa), .ref 65], mz_up (mz_up (mz_up (mz_up (mz_set (mz_set w 57 re1) 59 ge1) 64 6 ((w 64 6) + 1)) 65 19 0) 65 20 (nI jxa)) 65 21 0)) rfl ?_
                  refine mz_doQ (R := mz_r133) (as := [.ref 65, .int (nI jxa), .int 0]) (rest := []) (r1 := some (.int (w 3 jxa))) (m1 := mz_up (mz_up (mz_up (mz_up (mz_set (mz_set w 57 re1) 59 ge1) 64 6 ((w 64 6) + 1)) 65 19 0) 65 20 (nI jxa)) 65 21 0) mz_t133 mz_v133_65 rfl rfl rfl rfl rfl ⟨?_, rfl⟩ ?_
                  · refine mz_go 9 (c' := (12, [some (.ref 65), some (.int (nI jxa)), some (.int 0)], [.int ((30 + (4 * (nI jxa))) + 0), .ref 66], mz_up (mz_up (mz_up (mz_up (mz_set (mz_set w 57 re1) 59 ge1) 64 6 ((w 64 6) + 1)) 65 19 0) 65 20 (nI jxa)) 65 21 0)) rfl ?_
                    refine mz_arr (c' := (13, [some (.ref 65), some (.int (nI jxa)), some (.int 0)], [.int (w 66 (((30 + (4 * (nI jxa))) + 0).toNatClampNeg))], mz_up (mz_up (mz_up (mz_up (mz_set (mz_set w 57 re1) 59 ge1) 64 6 ((w 64 6) + 1)) 65 19 0) 65 20 (nI jxa)) 65 21 0)) rfl (show mz_in ((30 + (4 * (nI jxa))) + 0) 650 = true from sm_inN (sm_addN (sm_addN rfl (sm_mulN rfl rfl)) rfl) (show ((30 + (4 * jxa)) + 0) < 650 by omega) (by decide)) ?_
                    rw [show ((30 + (4 * (nI jxa))) + 0 : Int32).toNatClampNeg = ((30 + (4 * jxa)) + 0) from sm_clN (sm_addN (sm_addN rfl (sm_mulN rfl rfl)) rfl) (show ((30 + (4 * jxa)) + 0) < 2 ^ 31 by omega)]
                    rw [show w 66 ((30 + (4 * jxa)) + 0) = w 3 jxa from (hr2.2.1 jxa (by omega)).1]
                    exact mz_ret rfl
                  exact mz_ret rfl
                refine mz_go 12 (c' := (82, [some (.ref 65), some (.int (nI jxa)), some (.int 2), some (.int xc), some (.int (w 3 jxa)), none], [.int xc, .int (w 3 jxa), .ref 65], mz_up (mz_up (mz_up (mz_up (mz_set (mz_set w 57 re1) 59 ge1) 64 6 ((w 64 6) + 1)) 65 19 0) 65 20 (nI jxa)) 65 21 0)) rfl ?_
                refine mz_doQ (R := mz_r215) (as := [.ref 65, .int (w 3 jxa), .int xc]) (rest := []) (r1 := some (.int ve2)) (m1 := mz_set (mz_set (mz_up (mz_set (mz_set w 57 re1) 59 ge1) 64 6 ((w 64 6) + 1)) 65 re2) 74 ge2) mz_t215 mz_v215_65 rfl rfl rfl rfl rfl (Ee2.deep (by decide)) ?_
                refine mz_go 5 (c' := (if (re2 21) = 0 then 113 else 104, [some (.ref 65), some (.int (nI jxa)), some (.int 2), some (.int xc), some (.int (w 3 jxa)), some (.int ve2)], [], mz_set (mz_set (mz_up (mz_set (mz_set w 57 re1) 59 ge1) 64 6 ((w 64 6) + 1)) 65 re2) 74 ge2)) rfl ?_
                refine mz_ifT q15 ?_
                refine mz_go 1 (c' := (115, [some (.ref 65), some (.int (nI jxa)), some (.int 2), some (.int xc), some (.int (w 3 jxa)), some (.int ve2)], [.int ve2], mz_set (mz_set (mz_up (mz_set (mz_set w 57 re1) 59 ge1) 64 6 ((w 64 6) + 1)) 65 re2) 74 ge2)) rfl ?_
                exact mz_ret rfl
              · exact sm_I_tr hn hI2 (fun i hi h1 => by
                  have hne : ∀ r, sm_scr r = true → i ≠ r := fun r hr e => by
                    rw [e, hr] at hi
                    cases hi
                  simp only [mz_set_ne (hne 59 rfl), mz_set_ne (hne 65 rfl), mz_set_ne (hne 74 rfl), mz_set_ne h1, mz_up_ne (hne 64 rfl)]) (show (mz_set (mz_set (mz_up (mz_set (mz_set w 57 re1) 59 ge1) 64 6 ((w 64 6) + 1)) 65 re2) 74 ge2) 65 2 = w 65 2 from Ke2 2 (by decide) (by decide)) ⟨(by rw [show (mz_set (mz_set (mz_up (mz_set (mz_set w 57 re1) 59 ge1) 64 6 ((w 64 6) + 1)) 65 re2) 74 ge2) 57 1 = w 57 1 from Ke1 1 (by decide) (by decide)]; exact hcb1), (by rw [show (mz_set (mz_set (mz_up (mz_set (mz_set w 57 re1) 59 ge1) 64 6 ((w 64 6) + 1)) 65 re2) 74 ge2) 65 19 = nI Be2 from be2]; exact sm_Nto (n := 30) (by decide) hBe2)⟩
            · refine ⟨(-1000006), (-1000006), mz_up (mz_set (mz_set w 57 re1) 59 ge1) 64 6 ((w 64 6) + 1), mz_up (mz_set (mz_set (mz_up (mz_set (mz_set w 57 re1) 59 ge1) 64 6 ((w 64 6) + 1)) 65 re2) 74 ge2) 68 6 ((w 68 6) + 1), ⟨?_, rfl⟩, ⟨?_, rfl⟩, ?_⟩
              · refine mz_go 4 (c' := (8, [some (.ref 0), some (.int (nI jxa)), some (.int 2), some (.int xc), none], [.int (nI jxa), .ref 2], w)) rfl ?_
                refine mz_doQ (R := mz_r21) (as := [.ref 2, .int (nI jxa)]) (rest := []) (r1 := some (.int 1)) (m1 := w) mz_t21 mz_v21_2 rfl rfl rfl rfl rfl ((cs_has hN (m := w) h4 (show jxa < N by omega)).deep (by decide)) ?_
                refine mz_go 4 (c' := (17, [some (.ref 0), some (.int (nI jxa)), some (.int 2), some (.int xc), none], [.int 3, .int 0, .int 2], w)) rfl ?_
                refine mz_doQ (R := mz_r121) (as := [.int 2, .int 0, .int 3]) (rest := []) (r1 := some (.int 1)) (m1 := w) mz_t121 mz_v121 rfl rfl rfl rfl rfl ⟨?_, rfl⟩ ?_
                · refine mz_go 8 (c' := (15, [some (.int 2), some (.int 0), some (.int 3)], [.int 1], w)) rfl ?_
                  exact mz_ret rfl
                refine mz_go 9 (c' := (43, [some (.ref 0), some (.int (nI jxa)), some (.int 2), some (.int xc), none], [.int xc, .int 2, .int (nI jxa), .ref 2, .ref 57], w)) rfl ?_
                refine mz_doQ (R := mz_r60) (as := [.ref 57, .ref 2, .int (nI jxa), .int 2, .int xc]) (rest := []) (r1 := some (.int ve1)) (m1 := mz_set (mz_set w 57 re1) 59 ge1) mz_t60 mz_v60_57 rfl rfl rfl rfl rfl ⟨?_, rfl⟩ ?_
                · refine mz_go 8 (c' := (12, [some (.ref 57), some (.ref 2), some (.int (nI jxa)), some (.int 2), some (.int xc)], [.int (nI jxa), .ref 2], mz_up (mz_up w 57 2 0) 57 4 0)) rfl ?_
                  refine mz_doQ (R := mz_r21) (as := [.ref 2, .int (nI jxa)]) (rest := []) (r1 := some (.int 1)) (m1 := mz_up (mz_up w 57 2 0) 57 4 0) mz_t21 mz_v21_2 rfl rfl rfl rfl rfl ((cs_has hN (m := mz_up (mz_up w 57 2 0) 57 4 0) h4 (show jxa < N by omega)).deep (by decide)) ?_
                  refine mz_go 5 (c' := (26, [some (.ref 57), some (.ref 2), some (.int (nI jxa)), some (.int 2), some (.int xc)], [.int (nI jxa), .ref 3, .ref 57], mz_up (mz_up w 57 2 0) 57 4 0)) rfl ?_
                  refine mz_arr (c' := (27, [some (.ref 57), some (.ref 2), some (.int (nI jxa)), some (.int 2), some (.int xc)], [.int (w 3 ((nI jxa).toNatClampNeg)), .ref 57], mz_up (mz_up w 57 2 0) 57 4 0)) rfl (show mz_in (nI jxa) 6 = true from sm_inN rfl (show jxa < 6 by omega) (by decide)) ?_
                  rw [show (nI jxa : Int32).toNatClampNeg = jxa from sm_clN rfl (show jxa < 2 ^ 31 by omega)]
                  refine mz_go 8 (c' := (41, [some (.ref 57), some (.ref 2), some (.int (nI jxa)), some (.int 2), some (.int xc)], [.int (nI jxa), .ref 6, .ref 57], mz_up (mz_up (mz_up (mz_up w 57 2 0) 57 4 0) 57 5 (w 3 jxa)) 57 6 (nI jxa))) rfl ?_
                  refine mz_arr (c' := (42, [some (.ref 57), some (.ref 2), some (.int (nI jxa)), some (.int 2), some (.int xc)], [.int (w 6 ((nI jxa).toNatClampNeg)), .ref 57], mz_up (mz_up (mz_up (mz_up w 57 2 0) 57 4 0) 57 5 (w 3 jxa)) 57 6 (nI jxa))) rfl (show mz_in (nI jxa) 6 = true from sm_inN rfl (show jxa < 6 by omega) (by decide)) ?_
                  rw [show (nI jxa : Int32).toNatClampNeg = jxa from sm_clN rfl (show jxa < 2 ^ 31 by omega)]
                  refine mz_go 7 (c' := (54, [some (.ref 57), some (.ref 2), some (.int (nI jxa)), some (.int 2), some (.int xc)], [.int 0, .int xc, .int (w 3 jxa), .int 2, .ref 57], mz_up (mz_up (mz_up (mz_up (mz_up w 57 2 0) 57 4 0) 57 5 (w 3 jxa)) 57 6 (nI jxa)) 57 7 (w 6 jxa))) rfl ?_
                  refine mz_doQ (R := mz_r62) (as := [.ref 57, .int 2, .int (w 3 jxa), .int xc, .int 0]) (rest := []) (r1 := some (.int ve1)) (m1 := mz_set (mz_set w 57 re1) 59 ge1) mz_t62 mz_v62_57 rfl rfl rfl rfl rfl (Ee1.deep (by decide)) ?_
                  exact mz_ret rfl
                refine mz_go 5 (c' := (if (re1 2) = 0 then 65 else 58, [some (.ref 0), some (.int (nI jxa)), some (.int 2), some (.int xc), some (.int ve1)], [], mz_set (mz_set w 57 re1) 59 ge1)) rfl ?_
                refine mz_ifF q13 ?_
                refine mz_go 2 (c' := (61, [some (.ref 0), some (.int (nI jxa)), some (.int 2), some (.int xc), some (.int ve1)], [.int 6, .ref 0], mz_set (mz_set w 57 re1) 59 ge1)) rfl ?_
                refine mz_doQ (R := mz_r109) (as := [.ref 0, .int 6]) (rest := []) (r1 := some (.int (-1000006))) (m1 := mz_up (mz_set (mz_set w 57 re1) 59 ge1) 64 6 ((w 64 6) + 1)) mz_t109 mz_v109_0 rfl rfl rfl rfl rfl ⟨?_, rfl⟩ ?_
                · refine mz_go 3 (c' := (4, [some (.ref 0), some (.int 6)], [.int 6, .int 1, .int 6], mz_set (mz_set w 57 re1) 59 ge1)) rfl ?_
                  refine mz_doQ (R := mz_r121) (as := [.int 6, .int 1, .int 6]) (rest := []) (r1 := some (.int 1)) (m1 := mz_set (mz_set w 57 re1) 59 ge1) mz_t121 mz_v121 rfl rfl rfl rfl rfl ⟨?_, rfl⟩ ?_
                  · refine mz_go 8 (c' := (15, [some (.int 6), some (.int 1), some (.int 6)], [.int 1], mz_set (mz_set w 57 re1) 59 ge1)) rfl ?_
                    exact mz_ret rfl
                  refine mz_go 12 (c' := (25, [some (.ref 0), some (.int 6)], [.int (-1000006)], mz_up (mz_set (mz_set w 57 re1) 59 ge1) 64 6 ((w 64 6) + 1))) rfl ?_
                  exact mz_ret rfl
                exact mz_ret rfl
              · refine mz_go 2 (c' := (2, [some (.ref 65), some (.int (nI jxa)), some (.int 2), some (.int xc), none, none], [.int (nI jxa), .ref 65], mz_up (mz_set (mz_set w 57 re1) 59 ge1) 64 6 ((w 64 6) + 1))) rfl ?_
                refine mz_doQ (R := mz_r132) (as := [.ref 65, .int (nI jxa)]) (rest := []) (r1 := some (.int 1)) (m1 := mz_up (mz_set (mz_set w 57 re1) 59 ge1) 64 6 ((w 64 6) + 1)) mz_t132 mz_v132_65 rfl rfl rfl rfl rfl ⟨?_, rfl⟩ ?_
                · refine mz_go 6 (c' := (8, [some (.ref 65), some (.int (nI jxa))], [.int (w 66 0), .int 0, .int (nI jxa)], mz_up (mz_set (mz_set w 57 re1) 59 ge1) 64 6 ((w 64 6) + 1))) rfl ?_
                  rw [h660]
                  refine mz_go 2 (c' := (10, [some (.ref 65), some (.int (nI jxa))], [.int ((nI N) - 1), .int 0, .int (nI jxa)], mz_up (mz_set (mz_set w 57 re1) 59 ge1) 64 6 ((w 64 6) + 1))) rfl ?_
                  refine mz_doQ (R := mz_r128) (as := [.int (nI jxa), .int 0, .int ((nI N) - 1)]) (rest := []) (r1 := some (.int 1)) (m1 := mz_up (mz_set (mz_set w 57 re1) 59 ge1) 64 6 ((w 64 6) + 1)) mz_t128 mz_v128 rfl rfl rfl rfl rfl ⟨?_, rfl⟩ ?_
                  · refine mz_go 3 (c' := (if (nI jxa) < 0 then 14 else 5, [some (.int (nI jxa)), some (.int 0), some (.int ((nI N) - 1))], [], mz_up (mz_set (mz_set w 57 re1) 59 ge1) 64 6 ((w 64 6) + 1))) rfl ?_
                    refine mz_ifF q1 ?_
                    refine mz_go 3 (c' := (if ((nI N) - 1) < (nI jxa) then 14 else 10, [some (.int (nI jxa)), some (.int 0), some (.int ((nI N) - 1))], [], mz_up (mz_set (mz_set w 57 re1) 59 ge1) 64 6 ((w 64 6) + 1))) rfl ?_
                    refine mz_ifF (show ¬ (((nI N) - 1) < (nI jxa)) from (sm_nltN (sm_subN (a := N) (b := 1) rfl rfl (by omega)) rfl (show jxa ≤ (N - 1) by omega) (show (N - 1) < 2 ^ 31 by omega))) ?_
                    refine mz_go 2 (c' := (15, [some (.int (nI jxa)), some (.int 0), some (.int ((nI N) - 1))], [.int 1], mz_up (mz_set (mz_set w 57 re1) 59 ge1) 64 6 ((w 64 6) + 1))) rfl ?_
                    exact mz_ret rfl
                  exact mz_ret rfl
                refine mz_go 4 (c' := (11, [some (.ref 65), some (.int (nI jxa)), some (.int 2), some (.int xc), none, none], [.int 3, .int 0, .int 2], mz_up (mz_set (mz_set w 57 re1) 59 ge1) 64 6 ((w 64 6) + 1))) rfl ?_
                refine mz_doQ (R := mz_r128) (as := [.int 2, .int 0, .int 3]) (rest := []) (r1 := some (.int 1)) (m1 := mz_up (mz_set (mz_set w 57 re1) 59 ge1) 64 6 ((w 64 6) + 1)) mz_t128 mz_v128 rfl rfl rfl rfl rfl ⟨?_, rfl⟩ ?_
                · refine mz_go 8 (c' := (15, [some (.int 2), some (.int 0), some (.int 3)], [.int 1], mz_up (mz_set (mz_set w 57 re1) 59 ge1) 64 6 ((w 64 6) + 1))) rfl ?_
                  exact mz_ret rfl
                refine mz_go 11 (c' := (39, [some (.ref 65), some (.int (nI jxa)), some (.int 2), some (.int xc), none, none], [.ref 65], mz_up (mz_up (mz_up (mz_up (mz_set (mz_set w 57 re1) 59 ge1) 64 6 ((w 64 6) + 1)) 65 19 0) 65 20 (nI jxa)) 65 21 0)) rfl ?_
                refine mz_doQ (R := mz_r211) (as := [.ref 65]) (rest := []) (r1 := some (.int (w 3 jxa))) (m1 := mz_up (mz_up (mz_up (mz_up (mz_set (mz_set w 57 re1) 59 ge1) 64 6 ((w 64 6) + 1)) 65 19 0) 65 20 (nI jxa)) 65 21 0) mz_t211 mz_v211_65 rfl rfl rfl rfl rfl ⟨?_, rfl⟩ ?_
                · refine mz_go 4 (c' := (6, [some (.ref 65)], [.int 0, .int (nI jxa), .ref 65], mz_up (mz_up (mz_up (mz_up (mz_set (mz_set w 57 re1) 59 ge1) 64 6 ((w 64 6) + 1)) 65 19 0) 65 20 (nI jxa)) 65 21 0)) rfl ?_
                  refine mz_doQ (R := mz_r133) (as := [.ref 65, .int (nI jxa), .int 0]) (rest := []) (r1 := some (.int (w 3 jxa))) (m1 := mz_up (mz_up (mz_up (mz_up (mz_set (mz_set w 57 re1) 59 ge1) 64 6 ((w 64 6) + 1)) 65 19 0) 65 20 (nI jxa)) 65 21 0) mz_t133 mz_v133_65 rfl rfl rfl rfl rfl ⟨?_, rfl⟩ ?_
                  · refine mz_go 9 (c' := (12, [some (.ref 65), some (.int (nI jxa)), some (.int 0)], [.int ((30 + (4 * (nI jxa))) + 0), .ref 66], mz_up (mz_up (mz_up (mz_up (mz_set (mz_set w 57 re1) 59 ge1) 64 6 ((w 64 6) + 1)) 65 19 0) 65 20 (nI jxa)) 65 21 0)) rfl ?_
                    refine mz_arr (c' := (13, [some (.ref 65), some (.int (nI jxa)), some (.int 0)], [.int (w 66 (((30 + (4 * (nI jxa))) + 0).toNatClampNeg))], mz_up (mz_up (mz_up (mz_up (mz_set (mz_set w 57 re1) 59 ge1) 64 6 ((w 64 6) + 1)) 65 19 0) 65 20 (nI jxa)) 65 21 0)) rfl (show mz_in ((30 + (4 * (nI jxa))) + 0) 650 = true from sm_inN (sm_addN (sm_addN rfl (sm_mulN rfl rfl)) rfl) (show ((30 + (4 * jxa)) + 0) < 650 by omega) (by decide)) ?_
                    rw [show ((30 + (4 * (nI jxa))) + 0 : Int32).toNatClampNeg = ((30 + (4 * jxa)) + 0) from sm_clN (sm_addN (sm_addN rfl (sm_mulN rfl rfl)) rfl) (show ((30 + (4 * jxa)) + 0) < 2 ^ 31 by omega)]
                    rw [show w 66 ((30 + (4 * jxa)) + 0) = w 3 jxa from (hr2.2.1 jxa (by omega)).1]
                    exact mz_ret rfl
                  exact mz_ret rfl
                refine mz_go 12 (c' := (82, [some (.ref 65), some (.int (nI jxa)), some (.int 2), some (.int xc), some (.int (w 3 jxa)), none], [.int xc, .int (w 3 jxa), .ref 65], mz_up (mz_up (mz_up (mz_up (mz_set (mz_set w 57 re1) 59 ge1) 64 6 ((w 64 6) + 1)) 65 19 0) 65 20 (nI jxa)) 65 21 0)) rfl ?_
                refine mz_doQ (R := mz_r215) (as := [.ref 65, .int (w 3 jxa), .int xc]) (rest := []) (r1 := some (.int ve2)) (m1 := mz_set (mz_set (mz_up (mz_set (mz_set w 57 re1) 59 ge1) 64 6 ((w 64 6) + 1)) 65 re2) 74 ge2) mz_t215 mz_v215_65 rfl rfl rfl rfl rfl (Ee2.deep (by decide)) ?_
                refine mz_go 5 (c' := (if (re2 21) = 0 then 113 else 104, [some (.ref 65), some (.int (nI jxa)), some (.int 2), some (.int xc), some (.int (w 3 jxa)), some (.int ve2)], [], mz_set (mz_set (mz_up (mz_set (mz_set w 57 re1) 59 ge1) 64 6 ((w 64 6) + 1)) 65 re2) 74 ge2)) rfl ?_
                refine mz_ifF q15 ?_
                refine mz_go 2 (c' := (107, [some (.ref 65), some (.int (nI jxa)), some (.int 2), some (.int xc), some (.int (w 3 jxa)), some (.int ve2)], [.int 6, .ref 65], mz_set (mz_set (mz_up (mz_set (mz_set w 57 re1) 59 ge1) 64 6 ((w 64 6) + 1)) 65 re2) 74 ge2)) rfl ?_
                refine mz_doQ (R := mz_r127) (as := [.ref 65, .int 6]) (rest := []) (r1 := some (.int (-1000006))) (m1 := mz_up (mz_set (mz_set (mz_up (mz_set (mz_set w 57 re1) 59 ge1) 64 6 ((w 64 6) + 1)) 65 re2) 74 ge2) 68 6 ((w 68 6) + 1)) mz_t127 mz_v127_65 rfl rfl rfl rfl rfl ⟨?_, rfl⟩ ?_
                · refine mz_go 11 (c' := (14, [some (.ref 65), some (.int 6)], [.int (-1000006)], mz_up (mz_set (mz_set (mz_up (mz_set (mz_set w 57 re1) 59 ge1) 64 6 ((w 64 6) + 1)) 65 re2) 74 ge2) 68 6 ((w 68 6) + 1))) rfl ?_
                  exact mz_ret rfl
                refine mz_go 1 (c' := (115, [some (.ref 65), some (.int (nI jxa)), some (.int 2), some (.int xc), some (.int (w 3 jxa)), some (.int ve2)], [.int (-1000006)], mz_up (mz_set (mz_set (mz_up (mz_set (mz_set w 57 re1) 59 ge1) 64 6 ((w 64 6) + 1)) 65 re2) 74 ge2) 68 6 ((w 68 6) + 1))) rfl ?_
                exact mz_ret rfl
              · exact sm_I_tr hn hI2 (fun i hi h1 => by
                  have hne : ∀ r, sm_scr r = true → i ≠ r := fun r hr e => by
                    rw [e, hr] at hi
                    cases hi
                  simp only [mz_set_ne (hne 59 rfl), mz_set_ne (hne 65 rfl), mz_set_ne (hne 74 rfl), mz_set_ne h1, mz_up_ne (hne 64 rfl), mz_up_ne (hne 68 rfl)]) (show (mz_up (mz_set (mz_set (mz_up (mz_set (mz_set w 57 re1) 59 ge1) 64 6 ((w 64 6) + 1)) 65 re2) 74 ge2) 68 6 ((w 68 6) + 1)) 65 2 = w 65 2 from Ke2 2 (by decide) (by decide)) ⟨(by rw [show (mz_up (mz_set (mz_set (mz_up (mz_set (mz_set w 57 re1) 59 ge1) 64 6 ((w 64 6) + 1)) 65 re2) 74 ge2) 68 6 ((w 68 6) + 1)) 57 1 = w 57 1 from Ke1 1 (by decide) (by decide)]; exact hcb1), (by rw [show (mz_up (mz_set (mz_set (mz_up (mz_set (mz_set w 57 re1) 59 ge1) 64 6 ((w 64 6) + 1)) 65 re2) 74 ge2) 68 6 ((w 68 6) + 1)) 65 19 = nI Be2 from be2]; exact sm_Nto (n := 30) (by decide) hBe2)⟩
        · obtain ⟨cc, hcc, ekk⟩ := sm_Nof (by decide) (hpb jxa (by omega)).1
          have hve1 : mz_up (mz_up (mz_up (mz_up (mz_up w 57 2 0) 57 4 0) 57 5 (w 3 jxa)) 57 6 (nI jxa)) 57 7 (w 6 jxa) = mz_set (mz_set (w) 57 ((mz_up (mz_up (mz_up (mz_up (mz_up w 57 2 0) 57 4 0) 57 5 (w 3 jxa)) 57 6 (nI jxa)) 57 7 (w 6 jxa)) 57)) 59 ((w) 59) := sm_of2 (fun i h1 h2 => by simp only [mz_up_ne h1])
          obtain ⟨ve1, re1, ge1, Ee1, We1⟩ := vs0_3_any (m := w) (r := ((mz_up (mz_up (mz_up (mz_up (mz_up w 57 2 0) 57 4 0) 57 5 (w 3 jxa)) 57 6 (nI jxa)) 57 7 (w 6 jxa)) 57)) (g := (w) 59) ⟨⟨0, by decide, rfl⟩, Or.inl rfl⟩ hcc ekk (f := cc) hcc xc (dd := 0) (d := 0) rfl (by decide)
          rw [← hve1, ← ekk] at Ee1
          obtain ⟨⟨⟨Be1, hBe1, be1⟩, pe1⟩, Ke1⟩ := We1
          by_cases q16 : (re1 2) = 0
          · have hve2 : mz_up (mz_up (mz_up (mz_up (mz_cp (mz_set (mz_set w 57 re1) 59 ge1) 58 59 0 0 30) 57 1 (nI Be1)) 65 19 0) 65 20 (nI jxa)) 65 21 0 = mz_set (mz_set (mz_up (mz_cp (mz_set (mz_set w 57 re1) 59 ge1) 58 59 0 0 30) 57 1 (nI Be1)) 65 ((mz_up (mz_up (mz_up (mz_up (mz_cp (mz_set (mz_set w 57 re1) 59 ge1) 58 59 0 0 30) 57 1 (nI Be1)) 65 19 0) 65 20 (nI jxa)) 65 21 0) 65)) 74 ((mz_up (mz_cp (mz_set (mz_set w 57 re1) 59 ge1) 58 59 0 0 30) 57 1 (nI Be1)) 74) := sm_of2 (fun i h1 h2 => by simp only [mz_up_ne h1])
            obtain ⟨ve2, re2, ge2, Ee2, We2⟩ := vs1_3_any (m := mz_up (mz_cp (mz_set (mz_set w 57 re1) 59 ge1) 58 59 0 0 30) 57 1 (nI Be1)) (w := w) hr2 (r := ((mz_up (mz_up (mz_up (mz_up (mz_cp (mz_set (mz_set w 57 re1) 59 ge1) 58 59 0 0 30) 57 1 (nI Be1)) 65 19 0) 65 20 (nI jxa)) 65 21 0) 65)) (g := (mz_up (mz_cp (mz_set (mz_set w 57 re1) 59 ge1) 58 59 0 0 30) 57 1 (nI Be1)) 74) ⟨⟨0, by decide, rfl⟩, Or.inl rfl⟩ (j := jxa) (by omega) ekk hcc rfl (f := cc) hcc xc
            rw [← hve2, ← ekk] at Ee2
            obtain ⟨⟨⟨Be2, hBe2, be2⟩, pe2⟩, Ke2⟩ := We2
            by_cases q17 : (re2 21) = 0
            · refine ⟨ve1, ve2, mz_up (mz_cp (mz_set (mz_set w 57 re1) 59 ge1) 58 59 0 0 30) 57 1 (nI Be1), mz_set (mz_set (mz_up (mz_cp (mz_set (mz_set w 57 re1) 59 ge1) 58 59 0 0 30) 57 1 (nI Be1)) 65 re2) 74 ge2, ⟨?_, rfl⟩, ⟨?_, rfl⟩, ?_⟩
              · refine mz_go 4 (c' := (8, [some (.ref 0), some (.int (nI jxa)), some (.int 3), some (.int xc), none], [.int (nI jxa), .ref 2], w)) rfl ?_
                refine mz_doQ (R := mz_r21) (as := [.ref 2, .int (nI jxa)]) (rest := []) (r1 := some (.int 1)) (m1 := w) mz_t21 mz_v21_2 rfl rfl rfl rfl rfl ((cs_has hN (m := w) h4 (show jxa < N by omega)).deep (by decide)) ?_
                refine mz_go 4 (c' := (17, [some (.ref 0), some (.int (nI jxa)), some (.int 3), some (.int xc), none], [.int 3, .int 0, .int 3], w)) rfl ?_
                refine mz_doQ (R := mz_r121) (as := [.int 3, .int 0, .int 3]) (rest := []) (r1 := some (.int 1)) (m1 := w) mz_t121 mz_v121 rfl rfl rfl rfl rfl ⟨?_, rfl⟩ ?_
                · refine mz_go 8 (c' := (15, [some (.int 3), some (.int 0), some (.int 3)], [.int 1], w)) rfl ?_
                  exact mz_ret rfl
                refine mz_go 9 (c' := (43, [some (.ref 0), some (.int (nI jxa)), some (.int 3), some (.int xc), none], [.int xc, .int 3, .int (nI jxa), .ref 2, .ref 57], w)) rfl ?_
                refine mz_doQ (R := mz_r60) (as := [.ref 57, .ref 2, .int (nI jxa), .int 3, .int xc]) (rest := []) (r1 := some (.int ve1)) (m1 := mz_set (mz_set w 57 re1) 59 ge1) mz_t60 mz_v60_57 rfl rfl rfl rfl rfl ⟨?_, rfl⟩ ?_
                · refine mz_go 8 (c' := (12, [some (.ref 57), some (.ref 2), some (.int (nI jxa)), some (.int 3), some (.int xc)], [.int (nI jxa), .ref 2], mz_up (mz_up w 57 2 0) 57 4 0)) rfl ?_
                  refine mz_doQ (R := mz_r21) (as := [.ref 2, .int (nI jxa)]) (rest := []) (r1 := some (.int 1)) (m1 := mz_up (mz_up w 57 2 0) 57 4 0) mz_t21 mz_v21_2 rfl rfl rfl rfl rfl ((cs_has hN (m := mz_up (mz_up w 57 2 0) 57 4 0) h4 (show jxa < N by omega)).deep (by decide)) ?_
                  refine mz_go 5 (c' := (26, [some (.ref 57), some (.ref 2), some (.int (nI jxa)), some (.int 3), some (.int xc)], [.int (nI jxa), .ref 3, .ref 57], mz_up (mz_up w 57 2 0) 57 4 0)) rfl ?_
                  refine mz_arr (c' := (27, [some (.ref 57), some (.ref 2), some (.int (nI jxa)), some (.int 3), some (.int xc)], [.int (w 3 ((nI jxa).toNatClampNeg)), .ref 57], mz_up (mz_up w 57 2 0) 57 4 0)) rfl (show mz_in (nI jxa) 6 = true from sm_inN rfl (show jxa < 6 by omega) (by decide)) ?_
                  rw [show (nI jxa : Int32).toNatClampNeg = jxa from sm_clN rfl (show jxa < 2 ^ 31 by omega)]
                  refine mz_go 8 (c' := (41, [some (.ref 57), some (.ref 2), some (.int (nI jxa)), some (.int 3), some (.int xc)], [.int (nI jxa), .ref 6, .ref 57], mz_up (mz_up (mz_up (mz_up w 57 2 0) 57 4 0) 57 5 (w 3 jxa)) 57 6 (nI jxa))) rfl ?_
                  refine mz_arr (c' := (42, [some (.ref 57), some (.ref 2), some (.int (nI jxa)), some (.int 3), some (.int xc)], [.int (w 6 ((nI jxa).toNatClampNeg)), .ref 57], mz_up (mz_up (mz_up (mz_up w 57 2 0) 57 4 0) 57 5 (w 3 jxa)) 57 6 (nI jxa))) rfl (show mz_in (nI jxa) 6 = true from sm_inN rfl (show jxa < 6 by omega) (by decide)) ?_
                  rw [show (nI jxa : Int32).toNatClampNeg = jxa from sm_clN rfl (show jxa < 2 ^ 31 by omega)]
                  refine mz_go 7 (c' := (54, [some (.ref 57), some (.ref 2), some (.int (nI jxa)), some (.int 3), some (.int xc)], [.int 0, .int xc, .int (w 3 jxa), .int 3, .ref 57], mz_up (mz_up (mz_up (mz_up (mz_up w 57 2 0) 57 4 0) 57 5 (w 3 jxa)) 57 6 (nI jxa)) 57 7 (w 6 jxa))) rfl ?_
                  refine mz_doQ (R := mz_r62) (as := [.ref 57, .int 3, .int (w 3 jxa), .int xc, .int 0]) (rest := []) (r1 := some (.int ve1)) (m1 := mz_set (mz_set w 57 re1) 59 ge1) mz_t62 mz_v62_57 rfl rfl rfl rfl rfl (Ee1.deep (by decide)) ?_
                  exact mz_ret rfl
                refine mz_go 5 (c' := (if (re1 2) = 0 then 65 else 58, [some (.ref 0), some (.int (nI jxa)), some (.int 3), some (.int xc), some (.int ve1)], [], mz_set (mz_set w 57 re1) 59 ge1)) rfl ?_
                refine mz_ifT q16 ?_
                refine mz_go 2 (c' := (69, [some (.ref 0), some (.int (nI jxa)), some (.int 3), some (.int xc), some (.int ve1)], [.ref 57], mz_set (mz_set w 57 re1) 59 ge1)) rfl ?_
                refine mz_doQ (R := mz_r61) (as := [.ref 57]) (rest := []) (r1 := none) (m1 := mz_up (mz_cp (mz_set (mz_set w 57 re1) 59 ge1) 58 59 0 0 30) 57 1 (nI Be1)) mz_t61 mz_v61_57 rfl rfl rfl rfl rfl ⟨?_, rfl⟩ ?_
                · refine mz_go 4 (c' := (8, [some (.ref 57)], [.ref 58, .ref 59], mz_set (mz_set w 57 re1) 59 ge1)) rfl ?_
                  refine mz_doQ (R := mz_r126) (as := [.ref 59, .ref 58]) (rest := []) (r1 := none) (m1 := mz_cp (mz_set (mz_set w 57 re1) 59 ge1) 58 59 0 0 30) mz_t126 mz_v126_59 rfl rfl rfl rfl rfl ⟨?_, rfl⟩ ?_
                  · refine mz_go 10 (c' := (14, [some (.ref 59), some (.ref 58)], [], mz_cp (mz_set (mz_set w 57 re1) 59 ge1) 58 59 0 0 30)) rfl ?_
                    exact mz_ret rfl
                  refine mz_go 3 (c' := (16, [some (.ref 57)], [.int (re1 4), .ref 57], mz_cp (mz_set (mz_set w 57 re1) 59 ge1) 58 59 0 0 30)) rfl ?_
                  rw [be1]
                  refine mz_go 1 (c' := (19, [some (.ref 57)], [], mz_up (mz_cp (mz_set (mz_set w 57 re1) 59 ge1) 58 59 0 0 30) 57 1 (nI Be1))) rfl ?_
                  exact mz_ret rfl
                refine mz_go 1 (c' := (74, [some (.ref 0), some (.int (nI jxa)), some (.int 3), some (.int xc), some (.int ve1)], [.int ve1], mz_up (mz_cp (mz_set (mz_set w 57 re1) 59 ge1) 58 59 0 0 30) 57 1 (nI Be1))) rfl ?_
                exact mz_ret rfl
              · refine mz_go 2 (c' := (2, [some (.ref 65), some (.int (nI jxa)), some (.int 3), some (.int xc), none, none], [.int (nI jxa), .ref 65], mz_up (mz_cp (mz_set (mz_set w 57 re1) 59 ge1) 58 59 0 0 30) 57 1 (nI Be1))) rfl ?_
                refine mz_doQ (R := mz_r132) (as := [.ref 65, .int (nI jxa)]) (rest := []) (r1 := some (.int 1)) (m1 := mz_up (mz_cp (mz_set (mz_set w 57 re1) 59 ge1) 58 59 0 0 30) 57 1 (nI Be1)) mz_t132 mz_v132_65 rfl rfl rfl rfl rfl ⟨?_, rfl⟩ ?_
                · refine mz_go 6 (c' := (8, [some (.ref 65), some (.int (nI jxa))], [.int (w 66 0), .int 0, .int (nI jxa)], mz_up (mz_cp (mz_set (mz_set w 57 re1) 59 ge1) 58 59 0 0 30) 57 1 (nI Be1))) rfl ?_
                  rw [h660]
                  refine mz_go 2 (c' := (10, [some (.ref 65), some (.int (nI jxa))], [.int ((nI N) - 1), .int 0, .int (nI jxa)], mz_up (mz_cp (mz_set (mz_set w 57 re1) 59 ge1) 58 59 0 0 30) 57 1 (nI Be1))) rfl ?_
                  refine mz_doQ (R := mz_r128) (as := [.int (nI jxa), .int 0, .int ((nI N) - 1)]) (rest := []) (r1 := some (.int 1)) (m1 := mz_up (mz_cp (mz_set (mz_set w 57 re1) 59 ge1) 58 59 0 0 30) 57 1 (nI Be1)) mz_t128 mz_v128 rfl rfl rfl rfl rfl ⟨?_, rfl⟩ ?_
                  · refine mz_go 3 (c' := (if (nI jxa) < 0 then 14 else 5, [some (.int (nI jxa)), some (.int 0), some (.int ((nI N) - 1))], [], mz_up (mz_cp (mz_set (mz_set w 57 re1) 59 ge1) 58 59 0 0 30) 57 1 (nI Be1))) rfl ?_
                    refine mz_ifF q1 ?_
                    refine mz_go 3 (c' := (if ((nI N) - 1) < (nI jxa) then 14 else 10, [some (.int (nI jxa)), some (.int 0), some (.int ((nI N) - 1))], [], mz_up (mz_cp (mz_set (mz_set w 57 re1) 59 ge1) 58 59 0 0 30) 57 1 (nI Be1))) rfl ?_
                    refine mz_ifF (show ¬ (((nI N) - 1) < (nI jxa)) from (sm_nltN (sm_subN (a := N) (b := 1) rfl rfl (by omega)) rfl (show jxa ≤ (N - 1) by omega) (show (N - 1) < 2 ^ 31 by omega))) ?_
                    refine mz_go 2 (c' := (15, [some (.int (nI jxa)), some (.int 0), some (.int ((nI N) - 1))], [.int 1], mz_up (mz_cp (mz_set (mz_set w 57 re1) 59 ge1) 58 59 0 0 30) 57 1 (nI Be1))) rfl ?_
                    exact mz_ret rfl
                  exact mz_ret rfl
                refine mz_go 4 (c' := (11, [some (.ref 65), some (.int (nI jxa)), some (.int 3), some (.int xc), none, none], [.int 3, .int 0, .int 3], mz_up (mz_cp (mz_set (mz_set w 57 re1) 59 ge1) 58 59 0 0 30) 57 1 (nI Be1))) rfl ?_
                refine mz_doQ (R := mz_r128) (as := [.int 3, .int 0, .int 3]) (rest := []) (r1 := some (.int 1)) (m1 := mz_up (mz_cp (mz_set (mz_set w 57 re1) 59 ge1) 58 59 0 0 30) 57 1 (nI Be1)) mz_t128 mz_v128 rfl rfl rfl rfl rfl ⟨?_, rfl⟩ ?_
                · refine mz_go 8 (c' := (15, [some (.int 3), some (.int 0), some (.int 3)], [.int 1], mz_up (mz_cp (mz_set (mz_set w 57 re1) 59 ge1) 58 59 0 0 30) 57 1 (nI Be1))) rfl ?_
                  exact mz_ret rfl
                refine mz_go 11 (c' := (39, [some (.ref 65), some (.int (nI jxa)), some (.int 3), some (.int xc), none, none], [.ref 65], mz_up (mz_up (mz_up (mz_up (mz_cp (mz_set (mz_set w 57 re1) 59 ge1) 58 59 0 0 30) 57 1 (nI Be1)) 65 19 0) 65 20 (nI jxa)) 65 21 0)) rfl ?_
                refine mz_doQ (R := mz_r211) (as := [.ref 65]) (rest := []) (r1 := some (.int (w 3 jxa))) (m1 := mz_up (mz_up (mz_up (mz_up (mz_cp (mz_set (mz_set w 57 re1) 59 ge1) 58 59 0 0 30) 57 1 (nI Be1)) 65 19 0) 65 20 (nI jxa)) 65 21 0) mz_t211 mz_v211_65 rfl rfl rfl rfl rfl ⟨?_, rfl⟩ ?_
                · refine mz_go 4 (c' := (6, [some (.ref 65)], [.int 0, .int (nI jxa), .ref 65], mz_up (mz_up (mz_up (mz_up (mz_cp (mz_set (mz_set w 57 re1) 59 ge1) 58 59 0 0 30) 57 1 (nI Be1)) 65 19 0) 65 20 (nI jxa)) 65 21 0)) rfl ?_
                  refine mz_doQ (R := mz_r133) (as := [.ref 65, .int (nI jxa), .int 0]) (rest := []) (r1 := some (.int (w 3 jxa))) (m1 := mz_up (mz_up (mz_up (mz_up (mz_cp (mz_set (mz_set w 57 re1) 59 ge1) 58 59 0 0 30) 57 1 (nI Be1)) 65 19 0) 65 20 (nI jxa)) 65 21 0) mz_t133 mz_v133_65 rfl rfl rfl rfl rfl ⟨?_, rfl⟩ ?_
                  · refine mz_go 9 (c' := (12, [some (.ref 65), some (.int (nI jxa)), some (.int 0)], [.int ((30 + (4 * (nI jxa))) + 0), .ref 66], mz_up (mz_up (mz_up (mz_up (mz_cp (mz_set (mz_set w 57 re1) 59 ge1) 58 59 0 0 30) 57 1 (nI Be1)) 65 19 0) 65 20 (nI jxa)) 65 21 0)) rfl ?_
                    refine mz_arr (c' := (13, [some (.ref 65), some (.int (nI jxa)), some (.int 0)], [.int (w 66 (((30 + (4 * (nI jxa))) + 0).toNatClampNeg))], mz_up (mz_up (mz_up (mz_up (mz_cp (mz_set (mz_set w 57 re1) 59 ge1) 58 59 0 0 30) 57 1 (nI Be1)) 65 19 0) 65 20 (nI jxa)) 65 21 0)) rfl (show mz_in ((30 + (4 * (nI jxa))) + 0) 650 = true from sm_inN (sm_addN (sm_addN rfl (sm_mulN rfl rfl)) rfl) (show ((30 + (4 * jxa)) + 0) < 650 by omega) (by decide)) ?_
                    rw [show ((30 + (4 * (nI jxa))) + 0 : Int32).toNatClampNeg = ((30 + (4 * jxa)) + 0) from sm_clN (sm_addN (sm_addN rfl (sm_mulN rfl rfl)) rfl) (show ((30 + (4 * jxa)) + 0) < 2 ^ 31 by omega)]
                    rw [show w 66 ((30 + (4 * jxa)) + 0) = w 3 jxa from (hr2.2.1 jxa (by omega)).1]
                    exact mz_ret rfl
                  exact mz_ret rfl
                refine mz_go 12 (c' := (92, [some (.ref 65), some (.int (nI jxa)), some (.int 3), some (.int xc), some (.int (w 3 jxa)), none], [.int xc, .int (w 3 jxa), .ref 65], mz_up (mz_up (mz_up (mz_up (mz_cp (mz_set (mz_set w 57 re1) 59 ge1) 58 59 0 0 30) 57 1 (nI Be1)) 65 19 0) 65 20 (nI jxa)) 65 21 0)) rfl ?_
                refine mz_doQ (R := mz_r216) (as := [.ref 65, .int (w 3 jxa), .int xc]) (rest := []) (r1 := some (.int ve2)) (m1 := mz_set (mz_set (mz_up (mz_cp (mz_set (mz_set w 57 re1) 59 ge1) 58 59 0 0 30) 57 1 (nI Be1)) 65 re2) 74 ge2) mz_t216 mz_v216_65 rfl rfl rfl rfl rfl (Ee2.deep (by decide)) ?_
                refine mz_go 4 (c' := (if (re2 21) = 0 then 113 else 104, [some (.ref 65), some (.int (nI jxa)), some (.int 3), some (.int xc), some (.int (w 3 jxa)), some (.int ve2)], [], mz_set (mz_set (mz_up (mz_cp (mz_set (mz_set w 57 re1) 59 ge1) 58 59 0 0 30) 57 1 (nI Be1)) 65 re2) 74 ge2)) rfl ?_
                refine mz_ifT q17 ?_
                refine mz_go 1 (c' := (115, [some (.ref 65), some (.int (nI jxa)), some (.int 3), some (.int xc), some (.int (w 3 jxa)), some (.int ve2)], [.int ve2], mz_set (mz_set (mz_up (mz_cp (mz_set (mz_set w 57 re1) 59 ge1) 58 59 0 0 30) 57 1 (nI Be1)) 65 re2) 74 ge2)) rfl ?_
                exact mz_ret rfl
              · exact sm_I_tr hn hI2 (fun i hi h1 => by
                  have hne : ∀ r, sm_scr r = true → i ≠ r := fun r hr e => by
                    rw [e, hr] at hi
                    cases hi
                  simp only [mz_cp_ne (hne 58 rfl), mz_set_ne (hne 59 rfl), mz_set_ne (hne 65 rfl), mz_set_ne (hne 74 rfl), mz_set_ne h1, mz_up_ne h1]) (show (mz_set (mz_set (mz_up (mz_cp (mz_set (mz_set w 57 re1) 59 ge1) 58 59 0 0 30) 57 1 (nI Be1)) 65 re2) 74 ge2) 65 2 = w 65 2 from Ke2 2 (by decide) (by decide)) ⟨(sm_Nto (n := 30) (k := Be1) (by decide) (by omega)), (by rw [show (mz_set (mz_set (mz_up (mz_cp (mz_set (mz_set w 57 re1) 59 ge1) 58 59 0 0 30) 57 1 (nI Be1)) 65 re2) 74 ge2) 65 19 = nI Be2 from be2]; exact sm_Nto (n := 30) (by decide) hBe2)⟩
            · refine ⟨ve1, (-1000006), mz_up (mz_cp (mz_set (mz_set w 57 re1) 59 ge1) 58 59 0 0 30) 57 1 (nI Be1), mz_up (mz_set (mz_set (mz_up (mz_cp (mz_set (mz_set w 57 re1) 59 ge1) 58 59 0 0 30) 57 1 (nI Be1)) 65 re2) 74 ge2) 68 6 ((w 68 6) + 1), ⟨?_, rfl⟩, ⟨?_, rfl⟩, ?_⟩
              · refine mz_go 4 (c' := (8, [some (.ref 0), some (.int (nI jxa)), some (.int 3), some (.int xc), none], [.int (nI jxa), .ref 2], w)) rfl ?_
                refine mz_doQ (R := mz_r21) (as := [.ref 2, .int (nI jxa)]) (rest := []) (r1 := some (.int 1)) (m1 := w) mz_t21 mz_v21_2 rfl rfl rfl rfl rfl ((cs_has hN (m := w) h4 (show jxa < N by omega)).deep (by decide)) ?_
                refine mz_go 4 (c' := (17, [some (.ref 0), some (.int (nI jxa)), some (.int 3), some (.int xc), none], [.int 3, .int 0, .int 3], w)) rfl ?_
                refine mz_doQ (R := mz_r121) (as := [.int 3, .int 0, .int 3]) (rest := []) (r1 := some (.int 1)) (m1 := w) mz_t121 mz_v121 rfl rfl rfl rfl rfl ⟨?_, rfl⟩ ?_
                · refine mz_go 8 (c' := (15, [some (.int 3), some (.int 0), some (.int 3)], [.int 1], w)) rfl ?_
                  exact mz_ret rfl
                refine mz_go 9 (c' := (43, [some (.ref 0), some (.int (nI jxa)), some (.int 3), some (.int xc), none], [.int xc, .int 3, .int (nI jxa), .ref 2, .ref 57], w)) rfl ?_
                refine mz_doQ (R := mz_r60) (as := [.ref 57, .ref 2, .int (nI jxa), .int 3, .int xc]) (rest := []) (r1 := some (.int ve1)) (m1 := mz_set (mz_set w 57 re1) 59 ge1) mz_t60 mz_v60_57 rfl rfl rfl rfl rfl ⟨?_, rfl⟩ ?_
                · refine mz_go 8 (c' := (12, [some (.ref 57), some (.ref 2), some (.int (nI jxa)), some (.int 3), some (.int xc)], [.int (nI jxa), .ref 2], mz_up (mz_up w 57 2 0) 57 4 0)) rfl ?_
                  refine mz_doQ (R := mz_r21) (as := [.ref 2, .int (nI jxa)]) (rest := []) (r1 := some (.int 1)) (m1 := mz_up (mz_up w 57 2 0) 57 4 0) mz_t21 mz_v21_2 rfl rfl rfl rfl rfl ((cs_has hN (m := mz_up (mz_up w 57 2 0) 57 4 0) h4 (show jxa < N by omega)).deep (by decide)) ?_
                  refine mz_go 5 (c' := (26, [some (.ref 57), some (.ref 2), some (.int (nI jxa)), some (.int 3), some (.int xc)], [.int (nI jxa), .ref 3, .ref 57], mz_up (mz_up w 57 2 0) 57 4 0)) rfl ?_
                  refine mz_arr (c' := (27, [some (.ref 57), some (.ref 2), some (.int (nI jxa)), some (.int 3), some (.int xc)], [.int (w 3 ((nI jxa).toNatClampNeg)), .ref 57], mz_up (mz_up w 57 2 0) 57 4 0)) rfl (show mz_in (nI jxa) 6 = true from sm_inN rfl (show jxa < 6 by omega) (by decide)) ?_
                  rw [show (nI jxa : Int32).toNatClampNeg = jxa from sm_clN rfl (show jxa < 2 ^ 31 by omega)]
                  refine mz_go 8 (c' := (41, [some (.ref 57), some (.ref 2), some (.int (nI jxa)), some (.int 3), some (.int xc)], [.int (nI jxa), .ref 6, .ref 57], mz_up (mz_up (mz_up (mz_up w 57 2 0) 57 4 0) 57 5 (w 3 jxa)) 57 6 (nI jxa))) rfl ?_
                  refine mz_arr (c' := (42, [some (.ref 57), some (.ref 2), some (.int (nI jxa)), some (.int 3), some (.int xc)], [.int (w 6 ((nI jxa).toNatClampNeg)), .ref 57], mz_up (mz_up (mz_up (mz_up w 57 2 0) 57 4 0) 57 5 (w 3 jxa)) 57 6 (nI jxa))) rfl (show mz_in (nI jxa) 6 = true from sm_inN rfl (show jxa < 6 by omega) (by decide)) ?_
                  rw [show (nI jxa : Int32).toNatClampNeg = jxa from sm_clN rfl (show jxa < 2 ^ 31 by omega)]
                  refine mz_go 7 (c' := (54, [some (.ref 57), some (.ref 2), some (.int (nI jxa)), some (.int 3), some (.int xc)], [.int 0, .int xc, .int (w 3 jxa), .int 3, .ref 57], mz_up (mz_up (mz_up (mz_up (mz_up w 57 2 0) 57 4 0) 57 5 (w 3 jxa)) 57 6 (nI jxa)) 57 7 (w 6 jxa))) rfl ?_
                  refine mz_doQ (R := mz_r62) (as := [.ref 57, .int 3, .int (w 3 jxa), .int xc, .int 0]) (rest := []) (r1 := some (.int ve1)) (m1 := mz_set (mz_set w 57 re1) 59 ge1) mz_t62 mz_v62_57 rfl rfl rfl rfl rfl (Ee1.deep (by decide)) ?_
                  exact mz_ret rfl
                refine mz_go 5 (c' := (if (re1 2) = 0 then 65 else 58, [some (.ref 0), some (.int (nI jxa)), some (.int 3), some (.int xc), some (.int ve1)], [], mz_set (mz_set w 57 re1) 59 ge1)) rfl ?_
                refine mz_ifT q16 ?_
                refine mz_go 2 (c' := (69, [some (.ref 0), some (.int (nI jxa)), some (.int 3), some (.int xc), some (.int ve1)], [.ref 57], mz_set (mz_set w 57 re1) 59 ge1)) rfl ?_
                refine mz_doQ (R := mz_r61) (as := [.ref 57]) (rest := []) (r1 := none) (m1 := mz_up (mz_cp (mz_set (mz_set w 57 re1) 59 ge1) 58 59 0 0 30) 57 1 (nI Be1)) mz_t61 mz_v61_57 rfl rfl rfl rfl rfl ⟨?_, rfl⟩ ?_
                · refine mz_go 4 (c' := (8, [some (.ref 57)], [.ref 58, .ref 59], mz_set (mz_set w 57 re1) 59 ge1)) rfl ?_
                  refine mz_doQ (R := mz_r126) (as := [.ref 59, .ref 58]) (rest := []) (r1 := none) (m1 := mz_cp (mz_set (mz_set w 57 re1) 59 ge1) 58 59 0 0 30) mz_t126 mz_v126_59 rfl rfl rfl rfl rfl ⟨?_, rfl⟩ ?_
                  · refine mz_go 10 (c' := (14, [some (.ref 59), some (.ref 58)], [], mz_cp (mz_set (mz_set w 57 re1) 59 ge1) 58 59 0 0 30)) rfl ?_
                    exact mz_ret rfl
                  refine mz_go 3 (c' := (16, [some (.ref 57)], [.int (re1 4), .ref 57], mz_cp (mz_set (mz_set w 57 re1) 59 ge1) 58 59 0 0 30)) rfl ?_
                  rw [be1]
                  refine mz_go 1 (c' := (19, [some (.ref 57)], [], mz_up (mz_cp (mz_set (mz_set w 57 re1) 59 ge1) 58 59 0 0 30) 57 1 (nI Be1))) rfl ?_
                  exact mz_ret rfl
                refine mz_go 1 (c' := (74, [some (.ref 0), some (.int (nI jxa)), some (.int 3), some (.int xc), some (.int ve1)], [.int ve1], mz_up (mz_cp (mz_set (mz_set w 57 re1) 59 ge1) 58 59 0 0 30) 57 1 (nI Be1))) rfl ?_
                exact mz_ret rfl
              · refine mz_go 2 (c' := (2, [some (.ref 65), some (.int (nI jxa)), some (.int 3), some (.int xc), none, none], [.int (nI jxa), .ref 65], mz_up (mz_cp (mz_set (mz_set w 57 re1) 59 ge1) 58 59 0 0 30) 57 1 (nI Be1))) rfl ?_
                refine mz_doQ (R := mz_r132) (as := [.ref 65, .int (nI jxa)]) (rest := []) (r1 := some (.int 1)) (m1 := mz_up (mz_cp (mz_set (mz_set w 57 re1) 59 ge1) 58 59 0 0 30) 57 1 (nI Be1)) mz_t132 mz_v132_65 rfl rfl rfl rfl rfl ⟨?_, rfl⟩ ?_
                · refine mz_go 6 (c' := (8, [some (.ref 65), some (.int (nI jxa))], [.int (w 66 0), .int 0, .int (nI jxa)], mz_up (mz_cp (mz_set (mz_set w 57 re1) 59 ge1) 58 59 0 0 30) 57 1 (nI Be1))) rfl ?_
                  rw [h660]
                  refine mz_go 2 (c' := (10, [some (.ref 65), some (.int (nI jxa))], [.int ((nI N) - 1), .int 0, .int (nI jxa)], mz_up (mz_cp (mz_set (mz_set w 57 re1) 59 ge1) 58 59 0 0 30) 57 1 (nI Be1))) rfl ?_
                  refine mz_doQ (R := mz_r128) (as := [.int (nI jxa), .int 0, .int ((nI N) - 1)]) (rest := []) (r1 := some (.int 1)) (m1 := mz_up (mz_cp (mz_set (mz_set w 57 re1) 59 ge1) 58 59 0 0 30) 57 1 (nI Be1)) mz_t128 mz_v128 rfl rfl rfl rfl rfl ⟨?_, rfl⟩ ?_
                  · refine mz_go 3 (c' := (if (nI jxa) < 0 then 14 else 5, [some (.int (nI jxa)), some (.int 0), some (.int ((nI N) - 1))], [], mz_up (mz_cp (mz_set (mz_set w 57 re1) 59 ge1) 58 59 0 0 30) 57 1 (nI Be1))) rfl ?_
                    refine mz_ifF q1 ?_
                    refine mz_go 3 (c' := (if ((nI N) - 1) < (nI jxa) then 14 else 10, [some (.int (nI jxa)), some (.int 0), some (.int ((nI N) - 1))], [], mz_up (mz_cp (mz_set (mz_set w 57 re1) 59 ge1) 58 59 0 0 30) 57 1 (nI Be1))) rfl ?_
                    refine mz_ifF (show ¬ (((nI N) - 1) < (nI jxa)) from (sm_nltN (sm_subN (a := N) (b := 1) rfl rfl (by omega)) rfl (show jxa ≤ (N - 1) by omega) (show (N - 1) < 2 ^ 31 by omega))) ?_
                    refine mz_go 2 (c' := (15, [some (.int (nI jxa)), some (.int 0), some (.int ((nI N) - 1))], [.int 1], mz_up (mz_cp (mz_set (mz_set w 57 re1) 59 ge1) 58 59 0 0 30) 57 1 (nI Be1))) rfl ?_
                    exact mz_ret rfl
                  exact mz_ret rfl
                refine mz_go 4 (c' := (11, [some (.ref 65), some (.int (nI jxa)), some (.int 3), some (.int xc), none, none], [.int 3, .int 0, .int 3], mz_up (mz_cp (mz_set (mz_set w 57 re1) 59 ge1) 58 59 0 0 30) 57 1 (nI Be1))) rfl ?_
                refine mz_doQ (R := mz_r128) (as := [.int 3, .int 0, .int 3]) (rest := []) (r1 := some (.int 1)) (m1 := mz_up (mz_cp (mz_set (mz_set w 57 re1) 59 ge1) 58 59 0 0 30) 57 1 (nI Be1)) mz_t128 mz_v128 rfl rfl rfl rfl rfl ⟨?_, rfl⟩ ?_
                · refine mz_go 8 (c' := (15, [some (.int 3), some (.int 0), some (.int 3)], [.int 1], mz_up (mz_cp (mz_set (mz_set w 57 re1) 59 ge1) 58 59 0 0 30) 57 1 (nI Be1))) rfl ?_
                  exact mz_ret rfl
                refine mz_go 11 (c' := (39, [some (.ref 65), some (.int (nI jxa)), some (.int 3), some (.int xc), none, none], [.ref 65], mz_up (mz_up (mz_up (mz_up (mz_cp (mz_set (mz_set w 57 re1) 59 ge1) 58 59 0 0 30) 57 1 (nI Be1)) 65 19 0) 65 20 (nI jxa)) 65 21 0)) rfl ?_
                refine mz_doQ (R := mz_r211) (as := [.ref 65]) (rest := []) (r1 := some (.int (w 3 jxa))) (m1 := mz_up (mz_up (mz_up (mz_up (mz_cp (mz_set (mz_set w 57 re1) 59 ge1) 58 59 0 0 30) 57 1 (nI Be1)) 65 19 0) 65 20 (nI jxa)) 65 21 0) mz_t211 mz_v211_65 rfl rfl rfl rfl rfl ⟨?_, rfl⟩ ?_
                · refine mz_go 4 (c' := (6, [some (.ref 65)], [.int 0, .int (nI jxa), .ref 65], mz_up (mz_up (mz_up (mz_up (mz_cp (mz_set (mz_set w 57 re1) 59 ge1) 58 59 0 0 30) 57 1 (nI Be1)) 65 19 0) 65 20 (nI jxa)) 65 21 0)) rfl ?_
                  refine mz_doQ (R := mz_r133) (as := [.ref 65, .int (nI jxa), .int 0]) (rest := []) (r1 := some (.int (w 3 jxa))) (m1 := mz_up (mz_up (mz_up (mz_up (mz_cp (mz_set (mz_set w 57 re1) 59 ge1) 58 59 0 0 30) 57 1 (nI Be1)) 65 19 0) 65 20 (nI jxa)) 65 21 0) mz_t133 mz_v133_65 rfl rfl rfl rfl rfl ⟨?_, rfl⟩ ?_
                  · refine mz_go 9 (c' := (12, [some (.ref 65), some (.int (nI jxa)), some (.int 0)], [.int ((30 + (4 * (nI jxa))) + 0), .ref 66], mz_up (mz_up (mz_up (mz_up (mz_cp (mz_set (mz_set w 57 re1) 59 ge1) 58 59 0 0 30) 57 1 (nI Be1)) 65 19 0) 65 20 (nI jxa)) 65 21 0)) rfl ?_
                    refine mz_arr (c' := (13, [some (.ref 65), some (.int (nI jxa)), some (.int 0)], [.int (w 66 (((30 + (4 * (nI jxa))) + 0).toNatClampNeg))], mz_up (mz_up (mz_up (mz_up (mz_cp (mz_set (mz_set w 57 re1) 59 ge1) 58 59 0 0 30) 57 1 (nI Be1)) 65 19 0) 65 20 (nI jxa)) 65 21 0)) rfl (show mz_in ((30 + (4 * (nI jxa))) + 0) 650 = true from sm_inN (sm_addN (sm_addN rfl (sm_mulN rfl rfl)) rfl) (show ((30 + (4 * jxa)) + 0) < 650 by omega) (by decide)) ?_
                    rw [show ((30 + (4 * (nI jxa))) + 0 : Int32).toNatClampNeg = ((30 + (4 * jxa)) + 0) from sm_clN (sm_addN (sm_addN rfl (sm_mulN rfl rfl)) rfl) (show ((30 + (4 * jxa)) + 0) < 2 ^ 31 by omega)]
                    rw [show w 66 ((30 + (4 * jxa)) + 0) = w 3 jxa from (hr2.2.1 jxa (by omega)).1]
                    exact mz_ret rfl
                  exact mz_ret rfl
                refine mz_go 12 (c' := (92, [some (.ref 65), some (.int (nI jxa)), some (.int 3), some (.int xc), some (.int (w 3 jxa)), none], [.int xc, .int (w 3 jxa), .ref 65], mz_up (mz_up (mz_up (mz_up (mz_cp (mz_set (mz_set w 57 re1) 59 ge1) 58 59 0 0 30) 57 1 (nI Be1)) 65 19 0) 65 20 (nI jxa)) 65 21 0)) rfl ?_
                refine mz_doQ (R := mz_r216) (as := [.ref 65, .int (w 3 jxa), .int xc]) (rest := []) (r1 := some (.int ve2)) (m1 := mz_set (mz_set (mz_up (mz_cp (mz_set (mz_set w 57 re1) 59 ge1) 58 59 0 0 30) 57 1 (nI Be1)) 65 re2) 74 ge2) mz_t216 mz_v216_65 rfl rfl rfl rfl rfl (Ee2.deep (by decide)) ?_
                refine mz_go 4 (c' := (if (re2 21) = 0 then 113 else 104, [some (.ref 65), some (.int (nI jxa)), some (.int 3), some (.int xc), some (.int (w 3 jxa)), some (.int ve2)], [], mz_set (mz_set (mz_up (mz_cp (mz_set (mz_set w 57 re1) 59 ge1) 58 59 0 0 30) 57 1 (nI Be1)) 65 re2) 74 ge2)) rfl ?_
                refine mz_ifF q17 ?_
                refine mz_go 2 (c' := (107, [some (.ref 65), some (.int (nI jxa)), some (.int 3), some (.int xc), some (.int (w 3 jxa)), some (.int ve2)], [.int 6, .ref 65], mz_set (mz_set (mz_up (mz_cp (mz_set (mz_set w 57 re1) 59 ge1) 58 59 0 0 30) 57 1 (nI Be1)) 65 re2) 74 ge2)) rfl ?_
                refine mz_doQ (R := mz_r127) (as := [.ref 65, .int 6]) (rest := []) (r1 := some (.int (-1000006))) (m1 := mz_up (mz_set (mz_set (mz_up (mz_cp (mz_set (mz_set w 57 re1) 59 ge1) 58 59 0 0 30) 57 1 (nI Be1)) 65 re2) 74 ge2) 68 6 ((w 68 6) + 1)) mz_t127 mz_v127_65 rfl rfl rfl rfl rfl ⟨?_, rfl⟩ ?_
                · refine mz_go 11 (c' := (14, [some (.ref 65), some (.int 6)], [.int (-1000006)], mz_up (mz_set (mz_set (mz_up (mz_cp (mz_set (mz_set w 57 re1) 59 ge1) 58 59 0 0 30) 57 1 (nI Be1)) 65 re2) 74 ge2) 68 6 ((w 68 6) + 1))) rfl ?_
                  exact mz_ret rfl
                refine mz_go 1 (c' := (115, [some (.ref 65), some (.int (nI jxa)), some (.int 3), some (.int xc), some (.int (w 3 jxa)), some (.int ve2)], [.int (-1000006)], mz_up (mz_set (mz_set (mz_up (mz_cp (mz_set (mz_set w 57 re1) 59 ge1) 58 59 0 0 30) 57 1 (nI Be1)) 65 re2) 74 ge2) 68 6 ((w 68 6) + 1))) rfl ?_
                exact mz_ret rfl
              · exact sm_I_tr hn hI2 (fun i hi h1 => by
                  have hne : ∀ r, sm_scr r = true → i ≠ r := fun r hr e => by
                    rw [e, hr] at hi
                    cases hi
                  simp only [mz_cp_ne (hne 58 rfl), mz_set_ne (hne 59 rfl), mz_set_ne (hne 65 rfl), mz_set_ne (hne 74 rfl), mz_set_ne h1, mz_up_ne (hne 68 rfl), mz_up_ne h1]) (show (mz_up (mz_set (mz_set (mz_up (mz_cp (mz_set (mz_set w 57 re1) 59 ge1) 58 59 0 0 30) 57 1 (nI Be1)) 65 re2) 74 ge2) 68 6 ((w 68 6) + 1)) 65 2 = w 65 2 from Ke2 2 (by decide) (by decide)) ⟨(sm_Nto (n := 30) (k := Be1) (by decide) (by omega)), (by rw [show (mz_up (mz_set (mz_set (mz_up (mz_cp (mz_set (mz_set w 57 re1) 59 ge1) 58 59 0 0 30) 57 1 (nI Be1)) 65 re2) 74 ge2) 68 6 ((w 68 6) + 1)) 65 19 = nI Be2 from be2]; exact sm_Nto (n := 30) (by decide) hBe2)⟩
          · have hve2 : mz_up (mz_up (mz_up (mz_up (mz_set (mz_set w 57 re1) 59 ge1) 64 6 ((w 64 6) + 1)) 65 19 0) 65 20 (nI jxa)) 65 21 0 = mz_set (mz_set (mz_up (mz_set (mz_set w 57 re1) 59 ge1) 64 6 ((w 64 6) + 1)) 65 ((mz_up (mz_up (mz_up (mz_up (mz_set (mz_set w 57 re1) 59 ge1) 64 6 ((w 64 6) + 1)) 65 19 0) 65 20 (nI jxa)) 65 21 0) 65)) 74 ((mz_up (mz_set (mz_set w 57 re1) 59 ge1) 64 6 ((w 64 6) + 1)) 74) := sm_of2 (fun i h1 h2 => by simp only [mz_up_ne h1])
            obtain ⟨ve2, re2, ge2, Ee2, We2⟩ := vs1_3_any (m := mz_up (mz_set (mz_set w 57 re1) 59 ge1) 64 6 ((w 64 6) + 1)) (w := w) hr2 (r := ((mz_up (mz_up (mz_up (mz_up (mz_set (mz_set w 57 re1) 59 ge1) 64 6 ((w 64 6) + 1)) 65 19 0) 65 20 (nI jxa)) 65 21 0) 65)) (g := (mz_up (mz_set (mz_set w 57 re1) 59 ge1) 64 6 ((w 64 6) + 1)) 74) ⟨⟨0, by decide, rfl⟩, Or.inl rfl⟩ (j := jxa) (by omega) ekk hcc rfl (f := cc) hcc xc
            rw [← hve2, ← ekk] at Ee2
            obtain ⟨⟨⟨Be2, hBe2, be2⟩, pe2⟩, Ke2⟩ := We2
            by_cases q18 : (re2 21) = 0
            · refine ⟨(-1000006), ve2, mz_up (mz_set (mz_set w 57 re1) 59 ge1) 64 6 ((w 64 6) + 1), mz_set (mz_set (mz_up (mz_set (mz_set w 57 re1) 59 ge1) 64 6 ((w 64 6) + 1)) 65 re2) 74 ge2, ⟨?_, rfl⟩, ⟨?_, rfl⟩, ?_⟩
              · refine mz_go 4 (c' := (8, [some (.ref 0), some (.int (nI jxa)), some (.int 3), some (.int xc), none], [.int (nI jxa), .ref 2], w)) rfl ?_
                refine mz_doQ (R := mz_r21) (as := [.ref 2, .int (nI jxa)]) (rest := []) (r1 := some (.int 1)) (m1 := w) mz_t21 mz_v21_2 rfl rfl rfl rfl rfl ((cs_has hN (m := w) h4 (show jxa < N by omega)).deep (by decide)) ?_
                refine mz_go 4 (c' := (17, [some (.ref 0), some (.int (nI jxa)), some (.int 3), some (.int xc), none], [.int 3, .int 0, .int 3], w)) rfl ?_
                refine mz_doQ (R := mz_r121) (as := [.int 3, .int 0, .int 3]) (rest := []) (r1 := some (.int 1)) (m1 := w) mz_t121 mz_v121 rfl rfl rfl rfl rfl ⟨?_, rfl⟩ ?_
                · refine mz_go 8 (c' := (15, [some (.int 3), some (.int 0), some (.int 3)], [.int 1], w)) rfl ?_
                  exact mz_ret rfl
                refine mz_go 9 (c' := (43, [some (.ref 0), some (.int (nI jxa)), some (.int 3), some (.int xc), none], [.int xc, .int 3, .int (nI jxa), .ref 2, .ref 57], w)) rfl ?_
                refine mz_doQ (R := mz_r60) (as := [.ref 57, .ref 2, .int (nI jxa), .int 3, .int xc]) (rest := []) (r1 := some (.int ve1)) (m1 := mz_set (mz_set w 57 re1) 59 ge1) mz_t60 mz_v60_57 rfl rfl rfl rfl rfl ⟨?_, rfl⟩ ?_
                · refine mz_go 8 (c' := (12, [some (.ref 57), some (.ref 2), some (.int (nI jxa)), some (.int 3), some (.int xc)], [.int (nI jxa), .ref 2], mz_up (mz_up w 57 2 0) 57 4 0)) rfl ?_
                  refine mz_doQ (R := mz_r21) (as := [.ref 2, .int (nI jxa)]) (rest := []) (r1 := some (.int 1)) (m1 := mz_up (mz_up w 57 2 0) 57 4 0) mz_t21 mz_v21_2 rfl rfl rfl rfl rfl ((cs_has hN (m := mz_up (mz_up w 57 2 0) 57 4 0) h4 (show jxa < N by omega)).deep (by decide)) ?_
                  refine mz_go 5 (c' := (26, [some (.ref 57), some (.ref 2), some (.int (nI jxa)), some (.int 3), some (.int xc)], [.int (nI jxa), .ref 3, .ref 57], mz_up (mz_up w 57 2 0) 57 4 0)) rfl ?_
                  refine mz_arr (c' := (27, [some (.ref 57), some (.ref 2), some (.int (nI jxa)), some (.int 3), some (.int xc)], [.int (w 3 ((nI jxa).toNatClampNeg)), .ref 57], mz_up (mz_up w 57 2 0) 57 4 0)) rfl (show mz_in (nI jxa) 6 = true from sm_inN rfl (show jxa < 6 by omega) (by decide)) ?_
                  rw [show (nI jxa : Int32).toNatClampNeg = jxa from sm_clN rfl (show jxa < 2 ^ 31 by omega)]
                  refine mz_go 8 (c' := (41, [some (.ref 57), some (.ref 2), some (.int (nI jxa)), some (.int 3), some (.int xc)], [.int (nI jxa), .ref 6, .ref 57], mz_up (mz_up (mz_up (mz_up w 57 2 0) 57 4 0) 57 5 (w 3 jxa)) 57 6 (nI jxa))) rfl ?_
                  refine mz_arr (c' := (42, [some (.ref 57), some (.ref 2), some (.int (nI jxa)), some (.int 3), some (.int xc)], [.int (w 6 ((nI jxa).toNatClampNeg)), .ref 57], mz_up (mz_up (mz_up (mz_up w 57 2 0) 57 4 0) 57 5 (w 3 jxa)) 57 6 (nI jxa))) rfl (show mz_in (nI jxa) 6 = true from sm_inN rfl (show jxa < 6 by omega) (by decide)) ?_
                  rw [show (nI jxa : Int32).toNatClampNeg = jxa from sm_clN rfl (show jxa < 2 ^ 31 by omega)]
                  refine mz_go 7 (c' := (54, [some (.ref 57), some (.ref 2), some (.int (nI jxa)), some (.int 3), some (.int xc)], [.int 0, .int xc, .int (w 3 jxa), .int 3, .ref 57], mz_up (mz_up (mz_up (mz_up (mz_up w 57 2 0) 57 4 0) 57 5 (w 3 jxa)) 57 6 (nI jxa)) 57 7 (w 6 jxa))) rfl ?_
                  refine mz_doQ (R := mz_r62) (as := [.ref 57, .int 3, .int (w 3 jxa), .int xc, .int 0]) (rest := []) (r1 := some (.int ve1)) (m1 := mz_set (mz_set w 57 re1) 59 ge1) mz_t62 mz_v62_57 rfl rfl rfl rfl rfl (Ee1.deep (by decide)) ?_
                  exact mz_ret rfl
                refine mz_go 5 (c' := (if (re1 2) = 0 then 65 else 58, [some (.ref 0), some (.int (nI jxa)), some (.int 3), some (.int xc), some (.int ve1)], [], mz_set (mz_set w 57 re1) 59 ge1)) rfl ?_
                refine mz_ifF q16 ?_
                refine mz_go 2 (c' := (61, [some (.ref 0), some (.int (nI jxa)), some (.int 3), some (.int xc), some (.int ve1)], [.int 6, .ref 0], mz_set (mz_set w 57 re1) 59 ge1)) rfl ?_
                refine mz_doQ (R := mz_r109) (as := [.ref 0, .int 6]) (rest := []) (r1 := some (.int (-1000006))) (m1 := mz_up (mz_set (mz_set w 57 re1) 59 ge1) 64 6 ((w 64 6) + 1)) mz_t109 mz_v109_0 rfl rfl rfl rfl rfl ⟨?_, rfl⟩ ?_
                · refine mz_go 3 (c' := (4, [some (.ref 0), some (.int 6)], [.int 6, .int 1, .int 6], mz_set (mz_set w 57 re1) 59 ge1)) rfl ?_
                  refine mz_doQ (R := mz_r121) (as := [.int 6, .int 1, .int 6]) (rest := []) (r1 := some (.int 1)) (m1 := mz_set (mz_set w 57 re1) 59 ge1) mz_t121 mz_v121 rfl rfl rfl rfl rfl ⟨?_, rfl⟩ ?_
                  · refine mz_go 8 (c' := (15, [some (.int 6), some (.int 1), some (.int 6)], [.int 1], mz_set (mz_set w 57 re1) 59 ge1)) rfl ?_
                    exact mz_ret rfl
                  refine mz_go 12 (c' := (25, [some (.ref 0), some (.int 6)], [.int (-1000006)], mz_up (mz_set (mz_set w 57 re1) 59 ge1) 64 6 ((w 64 6) + 1))) rfl ?_
                  exact mz_ret rfl
                exact mz_ret rfl
              · refine mz_go 2 (c' := (2, [some (.ref 65), some (.int (nI jxa)), some (.int 3), some (.int xc), none, none], [.int (nI jxa), .ref 65], mz_up (mz_set (mz_set w 57 re1) 59 ge1) 64 6 ((w 64 6) + 1))) rfl ?_
                refine mz_doQ (R := mz_r132) (as := [.ref 65, .int (nI jxa)]) (rest := []) (r1 := some (.int 1)) (m1 := mz_up (mz_set (mz_set w 57 re1) 59 ge1) 64 6 ((w 64 6) + 1)) mz_t132 mz_v132_65 rfl rfl rfl rfl rfl ⟨?_, rfl⟩ ?_
                · refine mz_go 6 (c' := (8, [some (.ref 65), some (.int (nI jxa))], [.int (w 66 0), .int 0, .int (nI jxa)], mz_up (mz_set (mz_set w 57 re1) 59 ge1) 64 6 ((w 64 6) + 1))) rfl ?_
                  rw [h660]
                  refine mz_go 2 (c' := (10, [some (.ref 65), some (.int (nI jxa))], [.int ((nI N) - 1), .int 0, .int (nI jxa)], mz_up (mz_set (mz_set w 57 re1) 59 ge1) 64 6 ((w 64 6) + 1))) rfl ?_
                  refine mz_doQ (R := mz_r128) (as := [.int (nI jxa), .int 0, .int ((nI N) - 1)]) (rest := []) (r1 := some (.int 1)) (m1 := mz_up (mz_set (mz_set w 57 re1) 59 ge1) 64 6 ((w 64 6) + 1)) mz_t128 mz_v128 rfl rfl rfl rfl rfl ⟨?_, rfl⟩ ?_
                  · refine mz_go 3 (c' := (if (nI jxa) < 0 then 14 else 5, [some (.int (nI jxa)), some (.int 0), some (.int ((nI N) - 1))], [], mz_up (mz_set (mz_set w 57 re1) 59 ge1) 64 6 ((w 64 6) + 1))) rfl ?_
                    refine mz_ifF q1 ?_
                    refine mz_go 3 (c' := (if ((nI N) - 1) < (nI jxa) then 14 else 10, [some (.int (nI jxa)), some (.int 0), some (.int ((nI N) - 1))], [], mz_up (mz_set (mz_set w 57 re1) 59 ge1) 64 6 ((w 64 6) + 1))) rfl ?_
                    refine mz_ifF (show ¬ (((nI N) - 1) < (nI jxa)) from (sm_nltN (sm_subN (a := N) (b := 1) rfl rfl (by omega)) rfl (show jxa ≤ (N - 1) by omega) (show (N - 1) < 2 ^ 31 by omega))) ?_
                    refine mz_go 2 (c' := (15, [some (.int (nI jxa)), some (.int 0), some (.int ((nI N) - 1))], [.int 1], mz_up (mz_set (mz_set w 57 re1) 59 ge1) 64 6 ((w 64 6) + 1))) rfl ?_
                    exact mz_ret rfl
                  exact mz_ret rfl
                refine mz_go 4 (c' := (11, [some (.ref 65), some (.int (nI jxa)), some (.int 3), some (.int xc), none, none], [.int 3, .int 0, .int 3], mz_up (mz_set (mz_set w 57 re1) 59 ge1) 64 6 ((w 64 6) + 1))) rfl ?_
                refine mz_doQ (R := mz_r128) (as := [.int 3, .int 0, .int 3]) (rest := []) (r1 := some (.int 1)) (m1 := mz_up (mz_set (mz_set w 57 re1) 59 ge1) 64 6 ((w 64 6) + 1)) mz_t128 mz_v128 rfl rfl rfl rfl rfl ⟨?_, rfl⟩ ?_
                · refine mz_go 8 (c' := (15, [some (.int 3), some (.int 0), some (.int 3)], [.int 1], mz_up (mz_set (mz_set w 57 re1) 59 ge1) 64 6 ((w 64 6) + 1))) rfl ?_
                  exact mz_ret rfl
                refine mz_go 11 (c' := (39, [some (.ref 65), some (.int (nI jxa)), some (.int 3), some (.int xc), none, none], [.ref 65], mz_up (mz_up (mz_up (mz_up (mz_set (mz_set w 57 re1) 59 ge1) 64 6 ((w 64 6) + 1)) 65 19 0) 65 20 (nI jxa)) 65 21 0)) rfl ?_
                refine mz_doQ (R := mz_r211) (as := [.ref 65]) (rest := []) (r1 := some (.int (w 3 jxa))) (m1 := mz_up (mz_up (mz_up (mz_up (mz_set (mz_set w 57 re1) 59 ge1) 64 6 ((w 64 6) + 1)) 65 19 0) 65 20 (nI jxa)) 65 21 0) mz_t211 mz_v211_65 rfl rfl rfl rfl rfl ⟨?_, rfl⟩ ?_
                · refine mz_go 4 (c' := (6, [some (.ref 65)], [.int 0, .int (nI jxa), .ref 65], mz_up (mz_up (mz_up (mz_up (mz_set (mz_set w 57 re1) 59 ge1) 64 6 ((w 64 6) + 1)) 65 19 0) 65 20 (nI jxa)) 65 21 0)) rfl ?_
                  refine mz_doQ (R := mz_r133) (as := [.ref 65, .int (nI jxa), .int 0]) (rest := []) (r1 := some (.int (w 3 jxa))) (m1 := mz_up (mz_up (mz_up (mz_up (mz_set (mz_set w 57 re1) 59 ge1) 64 6 ((w 64 6) + 1)) 65 19 0) 65 20 (nI jxa)) 65 21 0) mz_t133 mz_v133_65 rfl rfl rfl rfl rfl ⟨?_, rfl⟩ ?_
                  · refine mz_go 9 (c' := (12, [some (.ref 65), some (.int (nI jxa)), some (.int 0)], [.int ((30 + (4 * (nI jxa))) + 0), .ref 66], mz_up (mz_up (mz_up (mz_up (mz_set (mz_set w 57 re1) 59 ge1) 64 6 ((w 64 6) + 1)) 65 19 0) 65 20 (nI jxa)) 65 21 0)) rfl ?_
                    refine mz_arr (c' := (13, [some (.ref 65), some (.int (nI jxa)), some (.int 0)], [.int (w 66 (((30 + (4 * (nI jxa))) + 0).toNatClampNeg))], mz_up (mz_up (mz_up (mz_up (mz_set (mz_set w 57 re1) 59 ge1) 64 6 ((w 64 6) + 1)) 65 19 0) 65 20 (nI jxa)) 65 21 0)) rfl (show mz_in ((30 + (4 * (nI jxa))) + 0) 650 = true from sm_inN (sm_addN (sm_addN rfl (sm_mulN rfl rfl)) rfl) (show ((30 + (4 * jxa)) + 0) < 650 by omega) (by decide)) ?_
                    rw [show ((30 + (4 * (nI jxa))) + 0 : Int32).toNatClampNeg = ((30 + (4 * jxa)) + 0) from sm_clN (sm_addN (sm_addN rfl (sm_mulN rfl rfl)) rfl) (show ((30 + (4 * jxa)) + 0) < 2 ^ 31 by omega)]
                    rw [show w 66 ((30 + (4 * jxa)) + 0) = w 3 jxa from (hr2.2.1 jxa (by omega)).1]
                    exact mz_ret rfl
                  exact mz_ret rfl
                refine mz_go 12 (c' := (92, [some (.ref 65), some (.int (nI jxa)), some (.int 3), some (.int xc), some (.int (w 3 jxa)), none], [.int xc, .int (w 3 jxa), .ref 65], mz_up (mz_up (mz_up (mz_up (mz_set (mz_set w 57 re1) 59 ge1) 64 6 ((w 64 6) + 1)) 65 19 0) 65 20 (nI jxa)) 65 21 0)) rfl ?_
                refine mz_doQ (R := mz_r216) (as := [.ref 65, .int (w 3 jxa), .int xc]) (rest := []) (r1 := some (.int ve2)) (m1 := mz_set (mz_set (mz_up (mz_set (mz_set w 57 re1) 59 ge1) 64 6 ((w 64 6) + 1)) 65 re2) 74 ge2) mz_t216 mz_v216_65 rfl rfl rfl rfl rfl (Ee2.deep (by decide)) ?_
                refine mz_go 4 (c' := (if (re2 21) = 0 then 113 else 104, [some (.ref 65), some (.int (nI jxa)), some (.int 3), some (.int xc), some (.int (w 3 jxa)), some (.int ve2)], [], mz_set (mz_set (mz_up (mz_set (mz_set w 57 re1) 59 ge1) 64 6 ((w 64 6) + 1)) 65 re2) 74 ge2)) rfl ?_
                refine mz_ifT q18 ?_
                refine mz_go 1 (c' := (115, [some (.ref 65), some (.int (nI jxa)), some (.int 3), some (.int xc), some (.int (w 3 jxa)), some (.int ve2)], [.int ve2], mz_set (mz_set (mz_up (mz_set (mz_set w 57 re1) 59 ge1) 64 6 ((w 64 6) + 1)) 65 re2) 74 ge2)) rfl ?_
                exact mz_ret rfl
              · exact sm_I_tr hn hI2 (fun i hi h1 => by
                  have hne : ∀ r, sm_scr r = true → i ≠ r := fun r hr e => by
                    rw [e, hr] at hi
                    cases hi
                  simp only [mz_set_ne (hne 59 rfl), mz_set_ne (hne 65 rfl), mz_set_ne (hne 74 rfl), mz_set_ne h1, mz_up_ne (hne 64 rfl)]) (show (mz_set (mz_set (mz_up (mz_set (mz_set w 57 re1) 59 ge1) 64 6 ((w 64 6) + 1)) 65 re2) 74 ge2) 65 2 = w 65 2 from Ke2 2 (by decide) (by decide)) ⟨(by rw [show (mz_set (mz_set (mz_up (mz_set (mz_set w 57 re1) 59 ge1) 64 6 ((w 64 6) + 1)) 65 re2) 74 ge2) 57 1 = w 57 1 from Ke1 1 (by decide) (by decide)]; exact hcb1), (by rw [show (mz_set (mz_set (mz_up (mz_set (mz_set w 57 re1) 59 ge1) 64 6 ((w 64 6) + 1)) 65 re2) 74 ge2) 65 19 = nI Be2 from be2]; exact sm_Nto (n := 30) (by decide) hBe2)⟩
            · refine ⟨(-1000006), (-1000006), mz_up (mz_set (mz_set w 57 re1) 59 ge1) 64 6 ((w 64 6) + 1), mz_up (mz_set (mz_set (mz_up (mz_set (mz_set w 57 re1) 59 ge1) 64 6 ((w 64 6) + 1)) 65 re2) 74 ge2) 68 6 ((w 68 6) + 1), ⟨?_, rfl⟩, ⟨?_, rfl⟩, ?_⟩
              · refine mz_go 4 (c' := (8, [some (.ref 0), some (.int (nI jxa)), some (.int 3), some (.int xc), none], [.int (nI jxa), .ref 2], w)) rfl ?_
                refine mz_doQ (R := mz_r21) (as := [.ref 2, .int (nI jxa)]) (rest := []) (r1 := some (.int 1)) (m1 := w) mz_t21 mz_v21_2 rfl rfl rfl rfl rfl ((cs_has hN (m := w) h4 (show jxa < N by omega)).deep (by decide)) ?_
                refine mz_go 4 (c' := (17, [some (.ref 0), some (.int (nI jxa)), some (.int 3), some (.int xc), none], [.int 3, .int 0, .int 3], w)) rfl ?_
                refine mz_doQ (R := mz_r121) (as := [.int 3, .int 0, .int 3]) (rest := []) (r1 := some (.int 1)) (m1 := w) mz_t121 mz_v121 rfl rfl rfl rfl rfl ⟨?_, rfl⟩ ?_
                · refine mz_go 8 (c' := (15, [some (.int 3), some (.int 0), some (.int 3)], [.int 1], w)) rfl ?_
                  exact mz_ret rfl
                refine mz_go 9 (c' := (43, [some (.ref 0), some (.int (nI jxa)), some (.int 3), some (.int xc), none], [.int xc, .int 3, .int (nI jxa), .ref 2, .ref 57], w)) rfl ?_
                refine mz_doQ (R := mz_r60) (as := [.ref 57, .ref 2, .int (nI jxa), .int 3, .int xc]) (rest := []) (r1 := some (.int ve1)) (m1 := mz_set (mz_set w 57 re1) 59 ge1) mz_t60 mz_v60_57 rfl rfl rfl rfl rfl ⟨?_, rfl⟩ ?_
                · refine mz_go 8 (c' := (12, [some (.ref 57), some (.ref 2), some (.int (nI jxa)), some (.int 3), some (.int xc)], [.int (nI jxa), .ref 2], mz_up (mz_up w 57 2 0) 57 4 0)) rfl ?_
                  refine mz_doQ (R := mz_r21) (as := [.ref 2, .int (nI jxa)]) (rest := []) (r1 := some (.int 1)) (m1 := mz_up (mz_up w 57 2 0) 57 4 0) mz_t21 mz_v21_2 rfl rfl rfl rfl rfl ((cs_has hN (m := mz_up (mz_up w 57 2 0) 57 4 0) h4 (show jxa < N by omega)).deep (by decide)) ?_
                  refine mz_go 5 (c' := (26, [some (.ref 57), some (.ref 2), some (.int (nI jxa)), some (.int 3), some (.int xc)], [.int (nI jxa), .ref 3, .ref 57], mz_up (mz_up w 57 2 0) 57 4 0)) rfl ?_
                  refine mz_arr (c' := (27, [some (.ref 57), some (.ref 2), some (.int (nI jxa)), some (.int 3), some (.int xc)], [.int (w 3 ((nI jxa).toNatClampNeg)), .ref 57], mz_up (mz_up w 57 2 0) 57 4 0)) rfl (show mz_in (nI jxa) 6 = true from sm_inN rfl (show jxa < 6 by omega) (by decide)) ?_
                  rw [show (nI jxa : Int32).toNatClampNeg = jxa from sm_clN rfl (show jxa < 2 ^ 31 by omega)]
                  refine mz_go 8 (c' := (41, [some (.ref 57), some (.ref 2), some (.int (nI jxa)), some (.int 3), some (.int xc)], [.int (nI jxa), .ref 6, .ref 57], mz_up (mz_up (mz_up (mz_up w 57 2 0) 57 4 0) 57 5 (w 3 jxa)) 57 6 (nI jxa))) rfl ?_
                  refine mz_arr (c' := (42, [some (.ref 57), some (.ref 2), some (.int (nI jxa)), some (.int 3), some (.int xc)], [.int (w 6 ((nI jxa).toNatClampNeg)), .ref 57], mz_up (mz_up (mz_up (mz_up w 57 2 0) 57 4 0) 57 5 (w 3 jxa)) 57 6 (nI jxa))) rfl (show mz_in (nI jxa) 6 = true from sm_inN rfl (show jxa < 6 by omega) (by decide)) ?_
                  rw [show (nI jxa : Int32).toNatClampNeg = jxa from sm_clN rfl (show jxa < 2 ^ 31 by omega)]
                  refine mz_go 7 (c' := (54, [some (.ref 57), some (.ref 2), some (.int (nI jxa)), some (.int 3), some (.int xc)], [.int 0, .int xc, .int (w 3 jxa), .int 3, .ref 57], mz_up (mz_up (mz_up (mz_up (mz_up w 57 2 0) 57 4 0) 57 5 (w 3 jxa)) 57 6 (nI jxa)) 57 7 (w 6 jxa))) rfl ?_
                  refine mz_doQ (R := mz_r62) (as := [.ref 57, .int 3, .int (w 3 jxa), .int xc, .int 0]) (rest := []) (r1 := some (.int ve1)) (m1 := mz_set (mz_set w 57 re1) 59 ge1) mz_t62 mz_v62_57 rfl rfl rfl rfl rfl (Ee1.deep (by decide)) ?_
                  exact mz_ret rfl
                refine mz_go 5 (c' := (if (re1 2) = 0 then 65 else 58, [some (.ref 0), some (.int (nI jxa)), some (.int 3), some (.int xc), some (.int ve1)], [], mz_set (mz_set w 57 re1) 59 ge1)) rfl ?_
                refine mz_ifF q16 ?_
                refine mz_go 2 (c' := (61, [some (.ref 0), some (.int (nI jxa)), some (.int 3), some (.int xc), some (.int ve1)], [.int 6, .ref 0], mz_set (mz_set w 57 re1) 59 ge1)) rfl ?_
                refine mz_doQ (R := mz_r109) (as := [.ref 0, .int 6]) (rest := []) (r1 := some (.int (-1000006))) (m1 := mz_up (mz_set (mz_set w 57 re1) 59 ge1) 64 6 ((w 64 6) + 1)) mz_t109 mz_v109_0 rfl rfl rfl rfl rfl ⟨?_, rfl⟩ ?_
                · refine mz_go 3 (c' := (4, [some (.ref 0), some (.int 6)], [.int 6, .int 1, .int 6], mz_set (mz_set w 57 re1) 59 ge1)) rfl ?_
                  refine mz_doQ (R := mz_r121) (as := [.int 6, .int 1, .int 6]) (rest := []) (r1 := some (.int 1)) (m1 := mz_set (mz_set w 57 re1) 59 ge1) mz_t121 mz_v121 rfl rfl rfl rfl rfl ⟨?_, rfl⟩ ?_
                  · refine mz_go 8 (c' := (15, [some (.int 6), some (.int 1), some (.int 6)], [.int 1], mz_set (mz_set w 57 re1) 59 ge1)) rfl ?_
                    exact mz_ret rfl
                  refine mz_go 12 (c' := (25, [some (.ref 0), some (.int 6)], [.int (-1000006)], mz_up (mz_set (mz_set w 57 re1) 59 ge1) 64 6 ((w 64 6) + 1))) rfl ?_
                  exact mz_ret rfl
                exact mz_ret rfl
              · refine mz_go 2 (c' := (2, [some (.ref 65), some (.int (nI jxa)), some (.int 3), some (.int xc), none, none], [.int (nI jxa), .ref 65], mz_up (mz_set (mz_set w 57 re1) 59 ge1) 64 6 ((w 64 6) + 1))) rfl ?_
                refine mz_doQ (R := mz_r132) (as := [.ref 65, .int (nI jxa)]) (rest := []) (r1 := some (.int 1)) (m1 := mz_up (mz_set (mz_set w 57 re1) 59 ge1) 64 6 ((w 64 6) + 1)) mz_t132 mz_v132_65 rfl rfl rfl rfl rfl ⟨?_, rfl⟩ ?_
                · refine mz_go 6 (c' := (8, [some (.ref 65), some (.int (nI jxa))], [.int (w 66 0), .int 0, .int (nI jxa)], mz_up (mz_set (mz_set w 57 re1) 59 ge1) 64 6 ((w 64 6) + 1))) rfl ?_
                  rw [h660]
                  refine mz_go 2 (c' := (10, [some (.ref 65), some (.int (nI jxa))], [.int ((nI N) - 1), .int 0, .int (nI jxa)], mz_up (mz_set (mz_set w 57 re1) 59 ge1) 64 6 ((w 64 6) + 1))) rfl ?_
                  refine mz_doQ (R := mz_r128) (as := [.int (nI jxa), .int 0, .int ((nI N) - 1)]) (rest := []) (r1 := some (.int 1)) (m1 := mz_up (mz_set (mz_set w 57 re1) 59 ge1) 64 6 ((w 64 6) + 1)) mz_t128 mz_v128 rfl rfl rfl rfl rfl ⟨?_, rfl⟩ ?_
                  · refine mz_go 3 (c' := (if (nI jxa) < 0 then 14 else 5, [some (.int (nI jxa)), some (.int 0), some (.int ((nI N) - 1))], [], mz_up (mz_set (mz_set w 57 re1) 59 ge1) 64 6 ((w 64 6) + 1))) rfl ?_
                    refine mz_ifF q1 ?_
                    refine mz_go 3 (c' := (if ((nI N) - 1) < (nI jxa) then 14 else 10, [some (.int (nI jxa)), some (.int 0), some (.int ((nI N) - 1))], [], mz_up (mz_set (mz_set w 57 re1) 59 ge1) 64 6 ((w 64 6) + 1))) rfl ?_
                    refine mz_ifF (show ¬ (((nI N) - 1) < (nI jxa)) from (sm_nltN (sm_subN (a := N) (b := 1) rfl rfl (by omega)) rfl (show jxa ≤ (N - 1) by omega) (show (N - 1) < 2 ^ 31 by omega))) ?_
                    refine mz_go 2 (c' := (15, [some (.int (nI jxa)), some (.int 0), some (.int ((nI N) - 1))], [.int 1], mz_up (mz_set (mz_set w 57 re1) 59 ge1) 64 6 ((w 64 6) + 1))) rfl ?_
                    exact mz_ret rfl
                  exact mz_ret rfl
                refine mz_go 4 (c' := (11, [some (.ref 65), some (.int (nI jxa)), some (.int 3), some (.int xc), none, none], [.int 3, .int 0, .int 3], mz_up (mz_set (mz_set w 57 re1) 59 ge1) 64 6 ((w 64 6) + 1))) rfl ?_
                refine mz_doQ (R := mz_r128) (as := [.int 3, .int 0, .int 3]) (rest := []) (r1 := some (.int 1)) (m1 := mz_up (mz_set (mz_set w 57 re1) 59 ge1) 64 6 ((w 64 6) + 1)) mz_t128 mz_v128 rfl rfl rfl rfl rfl ⟨?_, rfl⟩ ?_
                · refine mz_go 8 (c' := (15, [some (.int 3), some (.int 0), some (.int 3)], [.int 1], mz_up (mz_set (mz_set w 57 re1) 59 ge1) 64 6 ((w 64 6) + 1))) rfl ?_
                  exact mz_ret rfl
                refine mz_go 11 (c' := (39, [some (.ref 65), some (.int (nI jxa)), some (.int 3), some (.int xc), none, none], [.ref 65], mz_up (mz_up (mz_up (mz_up (mz_set (mz_set w 57 re1) 59 ge1) 64 6 ((w 64 6) + 1)) 65 19 0) 65 20 (nI jxa)) 65 21 0)) rfl ?_
                refine mz_doQ (R := mz_r211) (as := [.ref 65]) (rest := []) (r1 := some (.int (w 3 jxa))) (m1 := mz_up (mz_up (mz_up (mz_up (mz_set (mz_set w 57 re1) 59 ge1) 64 6 ((w 64 6) + 1)) 65 19 0) 65 20 (nI jxa)) 65 21 0) mz_t211 mz_v211_65 rfl rfl rfl rfl rfl ⟨?_, rfl⟩ ?_
                · refine mz_go 4 (c' := (6, [some (.ref 65)], [.int 0, .int (nI jxa), .ref 65], mz_up (mz_up (mz_up (mz_up (mz_set (mz_set w 57 re1) 59 ge1) 64 6 ((w 64 6) + 1)) 65 19 0) 65 20 (nI jxa)) 65 21 0)) rfl ?_
                  refine mz_doQ (R := mz_r133) (as := [.ref 65, .int (nI jxa), .int 0]) (rest := []) (r1 := some (.int (w 3 jxa))) (m1 := mz_up (mz_up (mz_up (mz_up (mz_set (mz_set w 57 re1) 59 ge1) 64 6 ((w 64 6) + 1)) 65 19 0) 65 20 (nI jxa)) 65 21 0) mz_t133 mz_v133_65 rfl rfl rfl rfl rfl ⟨?_, rfl⟩ ?_
                  · refine mz_go 9 (c' := (12, [some (.ref 65), some (.int (nI jxa)), some (.int 0)], [.int ((30 + (4 * (nI jxa))) + 0), .ref 66], mz_up (mz_up (mz_up (mz_up (mz_set (mz_set w 57 re1) 59 ge1) 64 6 ((w 64 6) + 1)) 65 19 0) 65 20 (nI jxa)) 65 21 0)) rfl ?_
                    refine mz_arr (c' := (13, [some (.ref 65), some (.int (nI jxa)), some (.int 0)], [.int (w 66 (((30 + (4 * (nI jxa))) + 0).toNatClampNeg))], mz_up (mz_up (mz_up (mz_up (mz_set (mz_set w 57 re1) 59 ge1) 64 6 ((w 64 6) + 1)) 65 19 0) 65 20 (nI jxa)) 65 21 0)) rfl (show mz_in ((30 + (4 * (nI jxa))) + 0) 650 = true from sm_inN (sm_addN (sm_addN rfl (sm_mulN rfl rfl)) rfl) (show ((30 + (4 * jxa)) + 0) < 650 by omega) (by decide)) ?_
                    rw [show ((30 + (4 * (nI jxa))) + 0 : Int32).toNatClampNeg = ((30 + (4 * jxa)) + 0) from sm_clN (sm_addN (sm_addN rfl (sm_mulN rfl rfl)) rfl) (show ((30 + (4 * jxa)) + 0) < 2 ^ 31 by omega)]
                    rw [show w 66 ((30 + (4 * jxa)) + 0) = w 3 jxa from (hr2.2.1 jxa (by omega)).1]
                    exact mz_ret rfl
                  exact mz_ret rfl
                refine mz_go 12 (c' := (92, [some (.ref 65), some (.int (nI jxa)), some (.int 3), some (.int xc), some (.int (w 3 jxa)), none], [.int xc, .int (w 3 jxa), .ref 65], mz_up (mz_up (mz_up (mz_up (mz_set (mz_set w 57 re1) 59 ge1) 64 6 ((w 64 6) + 1)) 65 19 0) 65 20 (nI jxa)) 65 21 0)) rfl ?_
                refine mz_doQ (R := mz_r216) (as := [.ref 65, .int (w 3 jxa), .int xc]) (rest := []) (r1 := some (.int ve2)) (m1 := mz_set (mz_set (mz_up (mz_set (mz_set w 57 re1) 59 ge1) 64 6 ((w 64 6) + 1)) 65 re2) 74 ge2) mz_t216 mz_v216_65 rfl rfl rfl rfl rfl (Ee2.deep (by decide)) ?_
                refine mz_go 4 (c' := (if (re2 21) = 0 then 113 else 104, [some (.ref 65), some (.int (nI jxa)), some (.int 3), some (.int xc), some (.int (w 3 jxa)), some (.int ve2)], [], mz_set (mz_set (mz_up (mz_set (mz_set w 57 re1) 59 ge1) 64 6 ((w 64 6) + 1)) 65 re2) 74 ge2)) rfl ?_
                refine mz_ifF q18 ?_
                refine mz_go 2 (c' := (107, [some (.ref 65), some (.int (nI jxa)), some (.int 3), some (.int xc), some (.int (w 3 jxa)), some (.int ve2)], [.int 6, .ref 65], mz_set (mz_set (mz_up (mz_set (mz_set w 57 re1) 59 ge1) 64 6 ((w 64 6) + 1)) 65 re2) 74 ge2)) rfl ?_
                refine mz_doQ (R := mz_r127) (as := [.ref 65, .int 6]) (rest := []) (r1 := some (.int (-1000006))) (m1 := mz_up (mz_set (mz_set (mz_up (mz_set (mz_set w 57 re1) 59 ge1) 64 6 ((w 64 6) + 1)) 65 re2) 74 ge2) 68 6 ((w 68 6) + 1)) mz_t127 mz_v127_65 rfl rfl rfl rfl rfl ⟨?_, rfl⟩ ?_
                · refine mz_go 11 (c' := (14, [some (.ref 65), some (.int 6)], [.int (-1000006)], mz_up (mz_set (mz_set (mz_up (mz_set (mz_set w 57 re1) 59 ge1) 64 6 ((w 64 6) + 1)) 65 re2) 74 ge2) 68 6 ((w 68 6) + 1))) rfl ?_
                  exact mz_ret rfl
                refine mz_go 1 (c' := (115, [some (.ref 65), some (.int (nI jxa)), some (.int 3), some (.int xc), some (.int (w 3 jxa)), some (.int ve2)], [.int (-1000006)], mz_up (mz_set (mz_set (mz_up (mz_set (mz_set w 57 re1) 59 ge1) 64 6 ((w 64 6) + 1)) 65 re2) 74 ge2) 68 6 ((w 68 6) + 1))) rfl ?_
                exact mz_ret rfl
              · exact sm_I_tr hn hI2 (fun i hi h1 => by
                  have hne : ∀ r, sm_scr r = true → i ≠ r := fun r hr e => by
                    rw [e, hr] at hi
                    cases hi
                  simp only [mz_set_ne (hne 59 rfl), mz_set_ne (hne 65 rfl), mz_set_ne (hne 74 rfl), mz_set_ne h1, mz_up_ne (hne 64 rfl), mz_up_ne (hne 68 rfl)]) (show (mz_up (mz_set (mz_set (mz_up (mz_set (mz_set w 57 re1) 59 ge1) 64 6 ((w 64 6) + 1)) 65 re2) 74 ge2) 68 6 ((w 68 6) + 1)) 65 2 = w 65 2 from Ke2 2 (by decide) (by decide)) ⟨(by rw [show (mz_up (mz_set (mz_set (mz_up (mz_set (mz_set w 57 re1) 59 ge1) 64 6 ((w 64 6) + 1)) 65 re2) 74 ge2) 68 6 ((w 68 6) + 1)) 57 1 = w 57 1 from Ke1 1 (by decide) (by decide)]; exact hcb1), (by rw [show (mz_up (mz_set (mz_set (mz_up (mz_set (mz_set w 57 re1) 59 ge1) 64 6 ((w 64 6) + 1)) 65 re2) 74 ge2) 68 6 ((w 68 6) + 1)) 65 19 = nI Be2 from be2]; exact sm_Nto (n := 30) (by decide) hBe2)⟩
