noncomputable def vh_h (e m : Int32) : Int32 := if e = m then 1 else 0
theorem vh_1 {e m : Int32} (h : e = m) : vh_h e m = 1 := if_pos h
theorem vh_0 {e m : Int32} (h : ¬ e = m) : vh_h e m = 0 := if_neg h
theorem vh_a1 {s e m : Int32} (h : e = m) : s + vh_h e m = s + 1 := by rw [vh_1 h]
theorem vh_a0 {s e m : Int32} (h : ¬ e = m) : s + vh_h e m = s + 0 := by rw [vh_0 h]
set_option maxHeartbeats 4000000 in
set_option maxRecDepth 100000 in
theorem vh_c0 {w : mz_M} {N : Nat} (hw : sm_W w N) (hN : N ≤ 6) (hr5 : w 7 5 = 1 ∨ w 7 5 = 2) (hr80 : sm_N 80 (w 7 2)) {J : Nat} (hJ : J < N) {xb : Int32} : ∀ (s : Int32) (o6 : Option Value) (r50 r51 r52 : Nat → Int32), ∃ (s50 : Nat → Int32), ∃ (s51 : Nat → Int32), ∃ (s52 : Nat → Int32), ∀ r, mz_Ex 100 mz_k84 (94, [some (.ref 0), some (.int (nI J)), some (.int xb), some (.int (w 4 J)), some (.int (w 5 J)), some (.int (w 7 5)), some (.int (vh_h (sm_end w (w 7 5) (w 4 J) (w 5 J) xb 0) (nI J)))], [], mz_set (mz_set (mz_set w 50 s50) 51 s51) 52 s52) r → mz_Ex 100 mz_k84 (69, [some (.ref 0), some (.int (nI J)), some (.int xb), some (.int (w 4 J)), some (.int (w 5 J)), some (.int (w 7 5)), o6], [], mz_set (mz_set (mz_set w 50 r50) 51 r51) 52 r52) r := by
  have hw2 := hw
  obtain ⟨-, -, hpb, -, -⟩ := hw2
  intro s o6 r50 r51 r52
  obtain ⟨re1, fe1, ge1, le1, Ee1⟩ := cw_end (m := mz_set (mz_set (mz_set w 50 r50) 51 r51) 52 r52) (w := w) (sm_Wl_s (by decide) (sm_Wl_s (by decide) (sm_Wl_s (by decide) (sm_Wl_r w)))) hw (hr5.imp id Or.inl) hr80 (hpb J (by omega)).2.1 (hpb J (by omega)).2.2.1 xb 0
  by_cases q1 : (sm_end w (w 7 5) (w 4 J) (w 5 J) xb 0) = (nI J)
  · have hm : mz_set (mz_set (mz_set (mz_set (mz_set (mz_set w 50 r50) 51 r51) 52 r52) 50 re1) 51 fe1) 52 ge1 = mz_set (mz_set (mz_set w 50 ((mz_set (mz_set (mz_set (mz_set (mz_set (mz_set w 50 r50) 51 r51) 52 r52) 50 re1) 51 fe1) 52 ge1) 50)) 51 ((mz_set (mz_set (mz_set (mz_set (mz_set (mz_set w 50 r50) 51 r51) 52 r52) 50 re1) 51 fe1) 52 ge1) 51)) 52 ((mz_set (mz_set (mz_set (mz_set (mz_set (mz_set w 50 r50) 51 r51) 52 r52) 50 re1) 51 fe1) 52 ge1) 52) := sm_of3 (fun i h1 h2 h3 => by simp only [mz_set_ne h1, mz_set_ne h2, mz_set_ne h3])
    refine ⟨((mz_set (mz_set (mz_set (mz_set (mz_set (mz_set w 50 r50) 51 r51) 52 r52) 50 re1) 51 fe1) 52 ge1) 50), ((mz_set (mz_set (mz_set (mz_set (mz_set (mz_set w 50 r50) 51 r51) 52 r52) 50 re1) 51 fe1) 52 ge1) 51), ((mz_set (mz_set (mz_set (mz_set (mz_set (mz_set w 50 r50) 51 r51) 52 r52) 50 re1) 51 fe1) 52 ge1) 52), fun r hr => ?_⟩
    rw [show vh_h (sm_end w (w 7 5) (w 4 J) (w 5 J) xb 0) (nI J) = 1 from vh_1 q1] at hr
    rw [← hm] at hr
    refine mz_go 7 (c' := (80, [some (.ref 0), some (.int (nI J)), some (.int xb), some (.int (w 4 J)), some (.int (w 5 J)), some (.int (w 7 5)), o6], [.int (w 7 5), .int 0, .int xb, .int (w 5 J), .int (w 4 J), .ref 49], mz_set (mz_set (mz_set w 50 r50) 51 r51) 52 r52)) rfl ?_
    refine mz_do (R := mz_r36) (as := [.ref 49, .int (w 4 J), .int (w 5 J), .int xb, .int 0, .int (w 7 5)]) (rest := []) (r1 := some (.int (sm_end w (w 7 5) (w 4 J) (w 5 J) xb 0))) (m1 := mz_set (mz_set (mz_set (mz_set (mz_set (mz_set w 50 r50) 51 r51) 52 r52) 50 re1) 51 fe1) 52 ge1) rfl (Ee1.deep (by decide)) ?_
    refine mz_go 2 (c' := (if (sm_end w (w 7 5) (w 4 J) (w 5 J) xb 0) = (nI J) then 87 else 91, [some (.ref 0), some (.int (nI J)), some (.int xb), some (.int (w 4 J)), some (.int (w 5 J)), some (.int (w 7 5)), o6], [], mz_set (mz_set (mz_set (mz_set (mz_set (mz_set w 50 r50) 51 r51) 52 r52) 50 re1) 51 fe1) 52 ge1)) rfl ?_
    refine mz_ifT q1 ?_
    refine mz_go 3 (c' := (94, [some (.ref 0), some (.int (nI J)), some (.int xb), some (.int (w 4 J)), some (.int (w 5 J)), some (.int (w 7 5)), some (.int 1)], [], mz_set (mz_set (mz_set (mz_set (mz_set (mz_set w 50 r50) 51 r51) 52 r52) 50 re1) 51 fe1) 52 ge1)) rfl ?_
    exact hr
  · have hm : mz_set (mz_set (mz_set (mz_set (mz_set (mz_set w 50 r50) 51 r51) 52 r52) 50 re1) 51 fe1) 52 ge1 = mz_set (mz_set (mz_set w 50 ((mz_set (mz_set (mz_set (mz_set (mz_set (mz_set w 50 r50) 51 r51) 52 r52) 50 re1) 51 fe1) 52 ge1) 50)) 51 ((mz_set (mz_set (mz_set (mz_set (mz_set (mz_set w 50 r50) 51 r51) 52 r52) 50 re1) 51 fe1) 52 ge1) 51)) 52 ((mz_set (mz_set (mz_set (mz_set (mz_set (mz_set w 50 r50) 51 r51) 52 r52) 50 re1) 51 fe1) 52 ge1) 52) := sm_of3 (fun i h1 h2 h3 => by simp only [mz_set_ne h1, mz_set_ne h2, mz_set_ne h3])
    refine ⟨((mz_set (mz_set (mz_set (mz_set (mz_set (mz_set w 50 r50) 51 r51) 52 r52) 50 re1) 51 fe1) 52 ge1) 50), ((mz_set (mz_set (mz_set (mz_set (mz_set (mz_set w 50 r50) 51 r51) 52 r52) 50 re1) 51 fe1) 52 ge1) 51), ((mz_set (mz_set (mz_set (mz_set (mz_set (mz_set w 50 r50) 51 r51) 52 r52) 50 re1) 51 fe1) 52 ge1) 52), fun r hr => ?_⟩
    rw [show vh_h (sm_end w (w 7 5) (w 4 J) (w 5 J) xb 0) (nI J) = 0 from vh_0 q1] at hr
    rw [← hm] at hr
    refine mz_go 7 (c' := (80, [some (.ref 0), some (.int (nI J)), some (.int xb), some (.int (w 4 J)), some (.int (w 5 J)), some (.int (w 7 5)), o6], [.int (w 7 5), .int 0, .int xb, .int (w 5 J), .int (w 4 J), .ref 49], mz_set (mz_set (mz_set w 50 r50) 51 r51) 52 r52)) rfl ?_
    refine mz_do (R := mz_r36) (as := [.ref 49, .int (w 4 J), .int (w 5 J), .int xb, .int 0, .int (w 7 5)]) (rest := []) (r1 := some (.int (sm_end w (w 7 5) (w 4 J) (w 5 J) xb 0))) (m1 := mz_set (mz_set (mz_set (mz_set (mz_set (mz_set w 50 r50) 51 r51) 52 r52) 50 re1) 51 fe1) 52 ge1) rfl (Ee1.deep (by decide)) ?_
    refine mz_go 2 (c' := (if (sm_end w (w 7 5) (w 4 J) (w 5 J) xb 0) = (nI J) then 87 else 91, [some (.ref 0), some (.int (nI J)), some (.int xb), some (.int (w 4 J)), some (.int (w 5 J)), some (.int (w 7 5)), o6], [], mz_set (mz_set (mz_set (mz_set (mz_set (mz_set w 50 r50) 51 r51) 52 r52) 50 re1) 51 fe1) 52 ge1)) rfl ?_
    refine mz_ifF q1 ?_
    refine mz_go 2 (c' := (94, [some (.ref 0), some (.int (nI J)), some (.int xb), some (.int (w 4 J)), some (.int (w 5 J)), some (.int (w 7 5)), some (.int 0)], [], mz_set (mz_set (mz_set (mz_set (mz_set (mz_set w 50 r50) 51 r51) 52 r52) 50 re1) 51 fe1) 52 ge1)) rfl ?_
    exact hr
set_option maxHeartbeats 4000000 in
set_option maxRecDepth 100000 in
theorem vh_c1 {w : mz_M} {N : Nat} (hw : sm_W w N) (hN : N ≤ 6) (hr5 : w 7 5 = 1 ∨ w 7 5 = 2) (hr80 : sm_N 80 (w 7 2)) {J : Nat} (hJ : J < N) {xb : Int32} : ∀ (s : Int32) (r50 r51 r52 : Nat → Int32), ∃ (s50 : Nat → Int32), ∃ (s51 : Nat → Int32), ∃ (s52 : Nat → Int32), ∀ r, mz_Ex 100 mz_k84 (123, [some (.ref 0), some (.int (nI J)), some (.int xb), some (.int (w 4 J)), some (.int (w 5 J)), some (.int (w 7 5)), some (.int (s + vh_h (sm_end w (w 7 5) (w 4 J) (w 5 J) (-xb) 0) (nI J)))], [], mz_set (mz_set (mz_set w 50 s50) 51 s51) 52 s52) r → mz_Ex 100 mz_k84 (94, [some (.ref 0), some (.int (nI J)), some (.int xb), some (.int (w 4 J)), some (.int (w 5 J)), some (.int (w 7 5)), some (.int s)], [], mz_set (mz_set (mz_set w 50 r50) 51 r51) 52 r52) r := by
  have hw2 := hw
  obtain ⟨-, -, hpb, -, -⟩ := hw2
  intro s r50 r51 r52
  obtain ⟨re1, fe1, ge1, le1, Ee1⟩ := cw_end (m := mz_set (mz_set (mz_set w 50 r50) 51 r51) 52 r52) (w := w) (sm_Wl_s (by decide) (sm_Wl_s (by decide) (sm_Wl_s (by decide) (sm_Wl_r w)))) hw (hr5.imp id Or.inl) hr80 (hpb J (by omega)).2.1 (hpb J (by omega)).2.2.1 (-xb) 0
  by_cases q1 : (sm_end w (w 7 5) (w 4 J) (w 5 J) (-xb) 0) = (nI J)
  · have hm : mz_set (mz_set (mz_set (mz_set (mz_set (mz_set w 50 r50) 51 r51) 52 r52) 50 re1) 51 fe1) 52 ge1 = mz_set (mz_set (mz_set w 50 ((mz_set (mz_set (mz_set (mz_set (mz_set (mz_set w 50 r50) 51 r51) 52 r52) 50 re1) 51 fe1) 52 ge1) 50)) 51 ((mz_set (mz_set (mz_set (mz_set (mz_set (mz_set w 50 r50) 51 r51) 52 r52) 50 re1) 51 fe1) 52 ge1) 51)) 52 ((mz_set (mz_set (mz_set (mz_set (mz_set (mz_set w 50 r50) 51 r51) 52 r52) 50 re1) 51 fe1) 52 ge1) 52) := sm_of3 (fun i h1 h2 h3 => by simp only [mz_set_ne h1, mz_set_ne h2, mz_set_ne h3])
    refine ⟨((mz_set (mz_set (mz_set (mz_set (mz_set (mz_set w 50 r50) 51 r51) 52 r52) 50 re1) 51 fe1) 52 ge1) 50), ((mz_set (mz_set (mz_set (mz_set (mz_set (mz_set w 50 r50) 51 r51) 52 r52) 50 re1) 51 fe1) 52 ge1) 51), ((mz_set (mz_set (mz_set (mz_set (mz_set (mz_set w 50 r50) 51 r51) 52 r52) 50 re1) 51 fe1) 52 ge1) 52), fun r hr => ?_⟩
    rw [show s + vh_h (sm_end w (w 7 5) (w 4 J) (w 5 J) (-xb) 0) (nI J) = s + 1 from vh_a1 q1] at hr
    rw [← hm] at hr
    refine mz_go 9 (c' := (108, [some (.ref 0), some (.int (nI J)), some (.int xb), some (.int (w 4 J)), some (.int (w 5 J)), some (.int (w 7 5)), some (.int s)], [.int (w 7 5), .int 0, .int (-xb), .int (w 5 J), .int (w 4 J), .ref 49, .int s], mz_set (mz_set (mz_set w 50 r50) 51 r51) 52 r52)) rfl ?_
    refine mz_do (R := mz_r36) (as := [.ref 49, .int (w 4 J), .int (w 5 J), .int (-xb), .int 0, .int (w 7 5)]) (rest := [.int s]) (r1 := some (.int (sm_end w (w 7 5) (w 4 J) (w 5 J) (-xb) 0))) (m1 := mz_set (mz_set (mz_set (mz_set (mz_set (mz_set w 50 r50) 51 r51) 52 r52) 50 re1) 51 fe1) 52 ge1) rfl (Ee1.deep (by decide)) ?_
    refine mz_go 2 (c' := (if (sm_end w (w 7 5) (w 4 J) (w 5 J) (-xb) 0) = (nI J) then 115 else 119, [some (.ref 0), some (.int (nI J)), some (.int xb), some (.int (w 4 J)), some (.int (w 5 J)), some (.int (w 7 5)), some (.int s)], [.int s], mz_set (mz_set (mz_set (mz_set (mz_set (mz_set w 50 r50) 51 r51) 52 r52) 50 re1) 51 fe1) 52 ge1)) rfl ?_
    refine mz_ifT q1 ?_
    refine mz_go 4 (c' := (123, [some (.ref 0), some (.int (nI J)), some (.int xb), some (.int (w 4 J)), some (.int (w 5 J)), some (.int (w 7 5)), some (.int (s + 1))], [], mz_set (mz_set (mz_set (mz_set (mz_set (mz_set w 50 r50) 51 r51) 52 r52) 50 re1) 51 fe1) 52 ge1)) rfl ?_
    exact hr
  · have hm : mz_set (mz_set (mz_set (mz_set (mz_set (mz_set w 50 r50) 51 r51) 52 r52) 50 re1) 51 fe1) 52 ge1 = mz_set (mz_set (mz_set w 50 ((mz_set (mz_set (mz_set (mz_set (mz_set (mz_set w 50 r50) 51 r51) 52 r52) 50 re1) 51 fe1) 52 ge1) 50)) 51 ((mz_set (mz_set (mz_set (mz_set (mz_set (mz_set w 50 r50) 51 r51) 52 r52) 50 re1) 51 fe1) 52 ge1) 51)) 52 ((mz_set (mz_set (mz_set (mz_set (mz_set (mz_set w 50 r50) 51 r51) 52 r52) 50 re1) 51 fe1) 52 ge1) 52) := sm_of3 (fun i h1 h2 h3 => by simp only [mz_set_ne h1, mz_set_ne h2, mz_set_ne h3])
    refine ⟨((mz_set (mz_set (mz_set (mz_set (mz_set (mz_set w 50 r50) 51 r51) 52 r52) 50 re1) 51 fe1) 52 ge1) 50), ((mz_set (mz_set (mz_set (mz_set (mz_set (mz_set w 50 r50) 51 r51) 52 r52) 50 re1) 51 fe1) 52 ge1) 51), ((mz_set (mz_set (mz_set (mz_set (mz_set (mz_set w 50 r50) 51 r51) 52 r52) 50 re1) 51 fe1) 52 ge1) 52), fun r hr => ?_⟩
    rw [show s + vh_h (sm_end w (w 7 5) (w 4 J) (w 5 J) (-xb) 0) (nI J) = s + 0 from vh_a0 q1] at hr
    rw [← hm] at hr
    refine mz_go 9 (c' := (108, [some (.ref 0), some (.int (nI J)), some (.int xb), some (.int (w 4 J)), some (.int (w 5 J)), some (.int (w 7 5)), some (.int s)], [.int (w 7 5), .int 0, .int (-xb), .int (w 5 J), .int (w 4 J), .ref 49, .int s], mz_set (mz_set (mz_set w 50 r50) 51 r51) 52 r52)) rfl ?_
    refine mz_do (R := mz_r36) (as := [.ref 49, .int (w 4 J), .int (w 5 J), .int (-xb), .int 0, .int (w 7 5)]) (rest := [.int s]) (r1 := some (.int (sm_end w (w 7 5) (w 4 J) (w 5 J) (-xb) 0))) (m1 := mz_set (mz_set (mz_set (mz_set (mz_set (mz_set w 50 r50) 51 r51) 52 r52) 50 re1) 51 fe1) 52 ge1) rfl (Ee1.deep (by decide)) ?_
    refine mz_go 2 (c' := (if (sm_end w (w 7 5) (w 4 J) (w 5 J) (-xb) 0) = (nI J) then 115 else 119, [some (.ref 0), some (.int (nI J)), some (.int xb), some (.int (w 4 J)), some (.int (w 5 J)), some (.int (w 7 5)), some (.int s)], [.int s], mz_set (mz_set (mz_set (mz_set (mz_set (mz_set w 50 r50) 51 r51) 52 r52) 50 re1) 51 fe1) 52 ge1)) rfl ?_
    refine mz_ifF q1 ?_
    refine mz_go 3 (c' := (123, [some (.ref 0), some (.int (nI J)), some (.int xb), some (.int (w 4 J)), some (.int (w 5 J)), some (.int (w 7 5)), some (.int (s + 0))], [], mz_set (mz_set (mz_set (mz_set (mz_set (mz_set w 50 r50) 51 r51) 52 r52) 50 re1) 51 fe1) 52 ge1)) rfl ?_
    exact hr
set_option maxHeartbeats 4000000 in
set_option maxRecDepth 100000 in
theorem vh_c2 {w : mz_M} {N : Nat} (hw : sm_W w N) (hN : N ≤ 6) (hr5 : w 7 5 = 1 ∨ w 7 5 = 2) (hr80 : sm_N 80 (w 7 2)) {J : Nat} (hJ : J < N) {xb : Int32} : ∀ (s : Int32) (r50 r51 r52 : Nat → Int32), ∃ (s50 : Nat → Int32), ∃ (s51 : Nat → Int32), ∃ (s52 : Nat → Int32), ∀ r, mz_Ex 100 mz_k84 (151, [some (.ref 0), some (.int (nI J)), some (.int xb), some (.int (w 4 J)), some (.int (w 5 J)), some (.int (w 7 5)), some (.int (s + vh_h (sm_end w (w 7 5) (w 4 J) (w 5 J) 0 xb) (nI J)))], [], mz_set (mz_set (mz_set w 50 s50) 51 s51) 52 s52) r → mz_Ex 100 mz_k84 (123, [some (.ref 0), some (.int (nI J)), some (.int xb), some (.int (w 4 J)), some (.int (w 5 J)), some (.int (w 7 5)), some (.int s)], [], mz_set (mz_set (mz_set w 50 r50) 51 r51) 52 r52) r := by
  have hw2 := hw
  obtain ⟨-, -, hpb, -, -⟩ := hw2
  intro s r50 r51 r52
  obtain ⟨re1, fe1, ge1, le1, Ee1⟩ := cw_end (m := mz_set (mz_set (mz_set w 50 r50) 51 r51) 52 r52) (w := w) (sm_Wl_s (by decide) (sm_Wl_s (by decide) (sm_Wl_s (by decide) (sm_Wl_r w)))) hw (hr5.imp id Or.inl) hr80 (hpb J (by omega)).2.1 (hpb J (by omega)).2.2.1 0 xb
  by_cases q1 : (sm_end w (w 7 5) (w 4 J) (w 5 J) 0 xb) = (nI J)
  · have hm : mz_set (mz_set (mz_set (mz_set (mz_set (mz_set w 50 r50) 51 r51) 52 r52) 50 re1) 51 fe1) 52 ge1 = mz_set (mz_set (mz_set w 50 ((mz_set (mz_set (mz_set (mz_set (mz_set (mz_set w 50 r50) 51 r51) 52 r52) 50 re1) 51 fe1) 52 ge1) 50)) 51 ((mz_set (mz_set (mz_set (mz_set (mz_set (mz_set w 50 r50) 51 r51) 52 r52) 50 re1) 51 fe1) 52 ge1) 51)) 52 ((mz_set (mz_set (mz_set (mz_set (mz_set (mz_set w 50 r50) 51 r51) 52 r52) 50 re1) 51 fe1) 52 ge1) 52) := sm_of3 (fun i h1 h2 h3 => by simp only [mz_set_ne h1, mz_set_ne h2, mz_set_ne h3])
    refine ⟨((mz_set (mz_set (mz_set (mz_set (mz_set (mz_set w 50 r50) 51 r51) 52 r52) 50 re1) 51 fe1) 52 ge1) 50), ((mz_set (mz_set (mz_set (mz_set (mz_set (mz_set w 50 r50) 51 r51) 52 r52) 50 re1) 51 fe1) 52 ge1) 51), ((mz_set (mz_set (mz_set (mz_set (mz_set (mz_set w 50 r50) 51 r51) 52 r52) 50 re1) 51 fe1) 52 ge1) 52), fun r hr => ?_⟩
    rw [show s + vh_h (sm_end w (w 7 5) (w 4 J) (w 5 J) 0 xb) (nI J) = s + 1 from vh_a1 q1] at hr
    rw [← hm] at hr
    refine mz_go 8 (c' := (136, [some (.ref 0), some (.int (nI J)), some (.int xb), some (.int (w 4 J)), some (.int (w 5 J)), some (.int (w 7 5)), some (.int s)], [.int (w 7 5), .int xb, .int 0, .int (w 5 J), .int (w 4 J), .ref 49, .int s], mz_set (mz_set (mz_set w 50 r50) 51 r51) 52 r52)) rfl ?_
    refine mz_do (R := mz_r36) (as := [.ref 49, .int (w 4 J), .int (w 5 J), .int 0, .int xb, .int (w 7 5)]) (rest := [.int s]) (r1 := some (.int (sm_end w (w 7 5) (w 4 J) (w 5 J) 0 xb))) (m1 := mz_set (mz_set (mz_set (mz_set (mz_set (mz_set w 50 r50) 51 r51) 52 r52) 50 re1) 51 fe1) 52 ge1) rfl (Ee1.deep (by decide)) ?_
    refine mz_go 2 (c' := (if (sm_end w (w 7 5) (w 4 J) (w 5 J) 0 xb) = (nI J) then 143 else 147, [some (.ref 0), some (.int (nI J)), some (.int xb), some (.int (w 4 J)), some (.int (w 5 J)), some (.int (w 7 5)), some (.int s)], [.int s], mz_set (mz_set (mz_set (mz_set (mz_set (mz_set w 50 r50) 51 r51) 52 r52) 50 re1) 51 fe1) 52 ge1)) rfl ?_
    refine mz_ifT q1 ?_
    refine mz_go 4 (c' := (151, [some (.ref 0), some (.int (nI J)), some (.int xb), some (.int (w 4 J)), some (.int (w 5 J)), some (.int (w 7 5)), some (.int (s + 1))], [], mz_set (mz_set (mz_set (mz_set (mz_set (mz_set w 50 r50) 51 r51) 52 r52) 50 re1) 51 fe1) 52 ge1)) rfl ?_
    exact hr
  · have hm : mz_set (mz_set (mz_set (mz_set (mz_set (mz_set w 50 r50) 51 r51) 52 r52) 50 re1) 51 fe1) 52 ge1 = mz_set (mz_set (mz_set w 50 ((mz_set (mz_set (mz_set (mz_set (mz_set (mz_set w 50 r50) 51 r51) 52 r52) 50 re1) 51 fe1) 52 ge1) 50)) 51 ((mz_set (mz_set (mz_set (mz_set (mz_set (mz_set w 50 r50) 51 r51) 52 r52) 50 re1) 51 fe1) 52 ge1) 51)) 52 ((mz_set (mz_set (mz_set (mz_set (mz_set (mz_set w 50 r50) 51 r51) 52 r52) 50 re1) 51 fe1) 52 ge1) 52) := sm_of3 (fun i h1 h2 h3 => by simp only [mz_set_ne h1, mz_set_ne h2, mz_set_ne h3])
    refine ⟨((mz_set (mz_set (mz_set (mz_set (mz_set (mz_set w 50 r50) 51 r51) 52 r52) 50 re1) 51 fe1) 52 ge1) 50), ((mz_set (mz_set (mz_set (mz_set (mz_set (mz_set w 50 r50) 51 r51) 52 r52) 50 re1) 51 fe1) 52 ge1) 51), ((mz_set (mz_set (mz_set (mz_set (mz_set (mz_set w 50 r50) 51 r51) 52 r52) 50 re1) 51 fe1) 52 ge1) 52), fun r hr => ?_⟩
    rw [show s + vh_h (sm_end w (w 7 5) (w 4 J) (w 5 J) 0 xb) (nI J) = s + 0 from vh_a0 q1] at hr
    rw [← hm] at hr
    refine mz_go 8 (c' := (136, [some (.ref 0), some (.int (nI J)), some (.int xb), some (.int (w 4 J)), some (.int (w 5 J)), some (.int (w 7 5)), some (.int s)], [.int (w 7 5), .int xb, .int 0, .int (w 5 J), .int (w 4 J), .ref 49, .int s], mz_set (mz_set (mz_set w 50 r50) 51 r51) 52 r52)) rfl ?_
    refine mz_do (R := mz_r36) (as := [.ref 49, .int (w 4 J), .int (w 5 J), .int 0, .int xb, .int (w 7 5)]) (rest := [.int s]) (r1 := some (.int (sm_end w (w 7 5) (w 4 J) (w 5 J) 0 xb))) (m1 := mz_set (mz_set (mz_set (mz_set (mz_set (mz_set w 50 r50) 51 r51) 52 r52) 50 re1) 51 fe1) 52 ge1) rfl (Ee1.deep (by decide)) ?_
    refine mz_go 2 (c' := (if (sm_end w (w 7 5) (w 4 J) (w 5 J) 0 xb) = (nI J) then 143 else 147, [some (.ref 0), some (.int (nI J)), some (.int xb), some (.int (w 4 J)), some (.int (w 5 J)), some (.int (w 7 5)), some (.int s)], [.int s], mz_set (mz_set (mz_set (mz_set (mz_set (mz_set w 50 r50) 51 r51) 52 r52) 50 re1) 51 fe1) 52 ge1)) rfl ?_
    refine mz_ifF q1 ?_
    refine mz_go 3 (c' := (151, [some (.ref 0), some (.int (nI J)), some (.int xb), some (.int (w 4 J)), some (.int (w 5 J)), some (.int (w 7 5)), some (.int (s + 0))], [], mz_set (mz_set (mz_set (mz_set (mz_set (mz_set w 50 r50) 51 r51) 52 r52) 50 re1) 51 fe1) 52 ge1)) rfl ?_
    exact hr
set_option maxHeartbeats 4000000 in
set_option maxRecDepth 100000 in
theorem vh_c3 {w : mz_M} {N : Nat} (hw : sm_W w N) (hN : N ≤ 6) (hr5 : w 7 5 = 1 ∨ w 7 5 = 2) (hr80 : sm_N 80 (w 7 2)) {J : Nat} (hJ : J < N) {xb : Int32} : ∀ (s : Int32) (r50 r51 r52 : Nat → Int32), ∃ (s50 : Nat → Int32), ∃ (s51 : Nat → Int32), ∃ (s52 : Nat → Int32), ∀ r, mz_Ex 100 mz_k84 (180, [some (.ref 0), some (.int (nI J)), some (.int xb), some (.int (w 4 J)), some (.int (w 5 J)), some (.int (w 7 5)), some (.int (s + vh_h (sm_end w (w 7 5) (w 4 J) (w 5 J) 0 (-xb)) (nI J)))], [], mz_set (mz_set (mz_set w 50 s50) 51 s51) 52 s52) r → mz_Ex 100 mz_k84 (151, [some (.ref 0), some (.int (nI J)), some (.int xb), some (.int (w 4 J)), some (.int (w 5 J)), some (.int (w 7 5)), some (.int s)], [], mz_set (mz_set (mz_set w 50 r50) 51 r51) 52 r52) r := by
  have hw2 := hw
  obtain ⟨-, -, hpb, -, -⟩ := hw2
  intro s r50 r51 r52
  obtain ⟨re1, fe1, ge1, le1, Ee1⟩ := cw_end (m := mz_set (mz_set (mz_set w 50 r50) 51 r51) 52 r52) (w := w) (sm_Wl_s (by decide) (sm_Wl_s (by decide) (sm_Wl_s (by decide) (sm_Wl_r w)))) hw (hr5.imp id Or.inl) hr80 (hpb J (by omega)).2.1 (hpb J (by omega)).2.2.1 0 (-xb)
  by_cases q1 : (sm_end w (w 7 5) (w 4 J) (w 5 J) 0 (-xb)) = (nI J)
  · have hm : mz_set (mz_set (mz_set (mz_set (mz_set (mz_set w 50 r50) 51 r51) 52 r52) 50 re1) 51 fe1) 52 ge1 = mz_set (mz_set (mz_set w 50 ((mz_set (mz_set (mz_set (mz_set (mz_set (mz_set w 50 r50) 51 r51) 52 r52) 50 re1) 51 fe1) 52 ge1) 50)) 51 ((mz_set (mz_set (mz_set (mz_set (mz_set (mz_set w 50 r50) 51 r51) 52 r52) 50 re1) 51 fe1) 52 ge1) 51)) 52 ((mz_set (mz_set (mz_set (mz_set (mz_set (mz_set w 50 r50) 51 r51) 52 r52) 50 re1) 51 fe1) 52 ge1) 52) := sm_of3 (fun i h1 h2 h3 => by simp only [mz_set_ne h1, mz_set_ne h2, mz_set_ne h3])
    refine ⟨((mz_set (mz_set (mz_set (mz_set (mz_set (mz_set w 50 r50) 51 r51) 52 r52) 50 re1) 51 fe1) 52 ge1) 50), ((mz_set (mz_set (mz_set (mz_set (mz_set (mz_set w 50 r50) 51 r51) 52 r52) 50 re1) 51 fe1) 52 ge1) 51), ((mz_set (mz_set (mz_set (mz_set (mz_set (mz_set w 50 r50) 51 r51) 52 r52) 50 re1) 51 fe1) 52 ge1) 52), fun r hr => ?_⟩
    rw [show s + vh_h (sm_end w (w 7 5) (w 4 J) (w 5 J) 0 (-xb)) (nI J) = s + 1 from vh_a1 q1] at hr
    rw [← hm] at hr
    refine mz_go 9 (c' := (165, [some (.ref 0), some (.int (nI J)), some (.int xb), some (.int (w 4 J)), some (.int (w 5 J)), some (.int (w 7 5)), some (.int s)], [.int (w 7 5), .int (-xb), .int 0, .int (w 5 J), .int (w 4 J), .ref 49, .int s], mz_set (mz_set (mz_set w 50 r50) 51 r51) 52 r52)) rfl ?_
    refine mz_do (R := mz_r36) (as := [.ref 49, .int (w 4 J), .int (w 5 J), .int 0, .int (-xb), .int (w 7 5)]) (rest := [.int s]) (r1 := some (.int (sm_end w (w 7 5) (w 4 J) (w 5 J) 0 (-xb)))) (m1 := mz_set (mz_set (mz_set (mz_set (mz_set (mz_set w 50 r50) 51 r51) 52 r52) 50 re1) 51 fe1) 52 ge1) rfl (Ee1.deep (by decide)) ?_
    refine mz_go 2 (c' := (if (sm_end w (w 7 5) (w 4 J) (w 5 J) 0 (-xb)) = (nI J) then 172 else 176, [some (.ref 0), some (.int (nI J)), some (.int xb), some (.int (w 4 J)), some (.int (w 5 J)), some (.int (w 7 5)), some (.int s)], [.int s], mz_set (mz_set (mz_set (mz_set (mz_set (mz_set w 50 r50) 51 r51) 52 r52) 50 re1) 51 fe1) 52 ge1)) rfl ?_
    refine mz_ifT q1 ?_
    refine mz_go 4 (c' := (180, [some (.ref 0), some (.int (nI J)), some (.int xb), some (.int (w 4 J)), some (.int (w 5 J)), some (.int (w 7 5)), some (.int (s + 1))], [], mz_set (mz_set (mz_set (mz_set (mz_set (mz_set w 50 r50) 51 r51) 52 r52) 50 re1) 51 fe1) 52 ge1)) rfl ?_
    exact hr
  · have hm : mz_set (mz_set (mz_set (mz_set (mz_set (mz_set w 50 r50) 51 r51) 52 r52) 50 re1) 51 fe1) 52 ge1 = mz_set (mz_set (mz_set w 50 ((mz_set (mz_set (mz_set (mz_set (mz_set (mz_set w 50 r50) 51 r51) 52 r52) 50 re1) 51 fe1) 52 ge1) 50)) 51 ((mz_set (mz_set (mz_set (mz_set (mz_set (mz_set w 50 r50) 51 r51) 52 r52) 50 re1) 51 fe1) 52 ge1) 51)) 52 ((mz_set (mz_set (mz_set (mz_set (mz_set (mz_set w 50 r50) 51 r51) 52 r52) 50 re1) 51 fe1) 52 ge1) 52) := sm_of3 (fun i h1 h2 h3 => by simp only [mz_set_ne h1, mz_set_ne h2, mz_set_ne h3])
    refine ⟨((mz_set (mz_set (mz_set (mz_set (mz_set (mz_set w 50 r50) 51 r51) 52 r52) 50 re1) 51 fe1) 52 ge1) 50), ((mz_set (mz_set (mz_set (mz_set (mz_set (mz_set w 50 r50) 51 r51) 52 r52) 50 re1) 51 fe1) 52 ge1) 51), ((mz_set (mz_set (mz_set (mz_set (mz_set (mz_set w 50 r50) 51 r51) 52 r52) 50 re1) 51 fe1) 52 ge1) 52), fun r hr => ?_⟩
    rw [show s + vh_h (sm_end w (w 7 5) (w 4 J) (w 5 J) 0 (-xb)) (nI J) = s + 0 from vh_a0 q1] at hr
    rw [← hm] at hr
    refine mz_go 9 (c' := (165, [some (.ref 0), some (.int (nI J)), some (.int xb), some (.int (w 4 J)), some (.int (w 5 J)), some (.int (w 7 5)), some (.int s)], [.int (w 7 5), .int (-xb), .int 0, .int (w 5 J), .int (w 4 J), .ref 49, .int s], mz_set (mz_set (mz_set w 50 r50) 51 r51) 52 r52)) rfl ?_
    refine mz_do (R := mz_r36) (as := [.ref 49, .int (w 4 J), .int (w 5 J), .int 0, .int (-xb), .int (w 7 5)]) (rest := [.int s]) (r1 := some (.int (sm_end w (w 7 5) (w 4 J) (w 5 J) 0 (-xb)))) (m1 := mz_set (mz_set (mz_set (mz_set (mz_set (mz_set w 50 r50) 51 r51) 52 r52) 50 re1) 51 fe1) 52 ge1) rfl (Ee1.deep (by decide)) ?_
    refine mz_go 2 (c' := (if (sm_end w (w 7 5) (w 4 J) (w 5 J) 0 (-xb)) = (nI J) then 172 else 176, [some (.ref 0), some (.int (nI J)), some (.int xb), some (.int (w 4 J)), some (.int (w 5 J)), some (.int (w 7 5)), some (.int s)], [.int s], mz_set (mz_set (mz_set (mz_set (mz_set (mz_set w 50 r50) 51 r51) 52 r52) 50 re1) 51 fe1) 52 ge1)) rfl ?_
    refine mz_ifF q1 ?_
    refine mz_go 3 (c' := (180, [some (.ref 0), some (.int (nI J)), some (.int xb), some (.int (w 4 J)), some (.int (w 5 J)), some (.int (w 7 5)), some (.int (s + 0))], [], mz_set (mz_set (mz_set (mz_set (mz_set (mz_set w 50 r50) 51 r51) 52 r52) 50 re1) 51 fe1) 52 ge1)) rfl ?_
    exact hr
set_option maxHeartbeats 4000000 in
set_option maxRecDepth 100000 in
theorem vh_r0 {w b : mz_M} {N : Nat} (hw : sm_W w N) (hN : N ≤ 6) (hr5 : w 7 5 = 1 ∨ w 7 5 = 2) (hr80 : sm_N 80 (w 7 2)) (hr2 : sm_HR w (b 66)) (h6615 : b 66 15 = w 7 5) {J : Nat} (hJ : J < N) {xb : Int32} : ∀ (s : Int32) (o5 : Option Value) (r65 r70 r71 : Nat → Int32), (∀ k, k < 4 ∨ 8 < k → r65 k = b 65 k) → ∃ (p5 : Option Value), ∃ (s65 : Nat → Int32), ∃ (s70 : Nat → Int32), ∃ (s71 : Nat → Int32), (∀ k, k < 4 ∨ 8 < k → s65 k = b 65 k) ∧ ∀ r, mz_Ex 100 mz_k182 (30, [some (.ref 65), some (.int (nI J)), some (.int xb), some (.int (s + vh_h (sm_end w (w 7 5) (w 4 J) (w 5 J) xb 0) (nI J))), some (.int 1), p5], [], mz_set (mz_set (mz_set b 65 s65) 70 s70) 71 s71) r → mz_Ex 100 mz_k182 (30, [some (.ref 65), some (.int (nI J)), some (.int xb), some (.int s), some (.int 0), o5], [], mz_set (mz_set (mz_set b 65 r65) 70 r70) 71 r71) r := by
  have hw2 := hw
  obtain ⟨-, -, hpb, -, -⟩ := hw2
  intro s o5 r65 r70 r71 hkr
  obtain ⟨re1, fe1, ge1, le1, ke1, Ee1⟩ := ct_end (w := w) (m := mz_up (mz_up (mz_up (mz_up (mz_up (mz_set (mz_set (mz_set b 65 r65) 70 r70) 71 r71) 65 4 (16 * (w 4 J))) 65 5 (16 * (w 5 J))) 65 6 xb) 65 7 0) 65 8 0) hw hr2 (hr5.imp id Or.inl) hr80 (hpb J (by omega)).2.1 (hpb J (by omega)).2.2.1 (show sm_like (fun k => (mz_up (mz_up (mz_up (mz_up (mz_up (mz_set (mz_set (mz_set b 65 r65) 70 r70) 71 r71) 65 4 (16 * (w 4 J))) 65 5 (16 * (w 5 J))) 65 6 xb) 65 7 0) 65 8 0) 65 (4 + k)) (sm_go (w 4 J) (w 5 J) xb 0) from ⟨rfl, rfl, rfl, rfl, rfl⟩)
  by_cases q1 : (sm_end w (w 7 5) (w 4 J) (w 5 J) xb 0) = (nI J)
  · have hm : mz_set (mz_set (mz_set (mz_up (mz_up (mz_up (mz_up (mz_up (mz_set (mz_set (mz_set b 65 r65) 70 r70) 71 r71) 65 4 (16 * (w 4 J))) 65 5 (16 * (w 5 J))) 65 6 xb) 65 7 0) 65 8 0) 65 re1) 70 fe1) 71 ge1 = mz_set (mz_set (mz_set b 65 ((mz_set (mz_set (mz_set (mz_up (mz_up (mz_up (mz_up (mz_up (mz_set (mz_set (mz_set b 65 r65) 70 r70) 71 r71) 65 4 (16 * (w 4 J))) 65 5 (16 * (w 5 J))) 65 6 xb) 65 7 0) 65 8 0) 65 re1) 70 fe1) 71 ge1) 65)) 70 ((mz_set (mz_set (mz_set (mz_up (mz_up (mz_up (mz_up (mz_up (mz_set (mz_set (mz_set b 65 r65) 70 r70) 71 r71) 65 4 (16 * (w 4 J))) 65 5 (16 * (w 5 J))) 65 6 xb) 65 7 0) 65 8 0) 65 re1) 70 fe1) 71 ge1) 70)) 71 ((mz_set (mz_set (mz_set (mz_up (mz_up (mz_up (mz_up (mz_up (mz_set (mz_set (mz_set b 65 r65) 70 r70) 71 r71) 65 4 (16 * (w 4 J))) 65 5 (16 * (w 5 J))) 65 6 xb) 65 7 0) 65 8 0) 65 re1) 70 fe1) 71 ge1) 71) := sm_of3 (fun i h1 h2 h3 => by simp only [mz_set_ne h1, mz_set_ne h2, mz_set_ne h3, mz_up_ne h1])
    refine ⟨(some (.int xb)), ((mz_set (mz_set (mz_set (mz_up (mz_up (mz_up (mz_up (mz_up (mz_set (mz_set (mz_set b 65 r65) 70 r70) 71 r71) 65 4 (16 * (w 4 J))) 65 5 (16 * (w 5 J))) 65 6 xb) 65 7 0) 65 8 0) 65 re1) 70 fe1) 71 ge1) 65), ((mz_set (mz_set (mz_set (mz_up (mz_up (mz_up (mz_up (mz_up (mz_set (mz_set (mz_set b 65 r65) 70 r70) 71 r71) 65 4 (16 * (w 4 J))) 65 5 (16 * (w 5 J))) 65 6 xb) 65 7 0) 65 8 0) 65 re1) 70 fe1) 71 ge1) 70), ((mz_set (mz_set (mz_set (mz_up (mz_up (mz_up (mz_up (mz_up (mz_set (mz_set (mz_set b 65 r65) 70 r70) 71 r71) 65 4 (16 * (w 4 J))) 65 5 (16 * (w 5 J))) 65 6 xb) 65 7 0) 65 8 0) 65 re1) 70 fe1) 71 ge1) 71), (fun k hk => ((ke1 k hk).trans (by rw [mz_up_eq, if_neg (by omega), mz_up_eq, if_neg (by omega), mz_up_eq, if_neg (by omega), mz_up_eq, if_neg (by omega), mz_up_eq, if_neg (by omega)]; exact rfl)).trans (hkr k hk)), fun r hr => ?_⟩
    rw [show s + vh_h (sm_end w (w 7 5) (w 4 J) (w 5 J) xb 0) (nI J) = s + 1 from vh_a1 q1] at hr
    rw [← hm] at hr
    refine mz_go 14 (c' := (55, [some (.ref 65), some (.int (nI J)), some (.int xb), some (.int s), some (.int 0), some (.int xb)], [.int 1, .int (nI J), .ref 65, .ref 65], mz_set (mz_set (mz_set b 65 r65) 70 r70) 71 r71)) rfl ?_
    refine mz_do (R := mz_r133) (as := [.ref 65, .int (nI J), .int 1]) (rest := [.ref 65]) (r1 := some (.int (w 4 J))) (m1 := mz_set (mz_set (mz_set b 65 r65) 70 r70) 71 r71) rfl ⟨?_, rfl⟩ ?_
    · refine mz_go 9 (c' := (12, [some (.ref 65), some (.int (nI J)), some (.int 1)], [.int ((30 + (4 * (nI J))) + 1), .ref 66], mz_set (mz_set (mz_set b 65 r65) 70 r70) 71 r71)) rfl ?_
      refine mz_arr (c' := (13, [some (.ref 65), some (.int (nI J)), some (.int 1)], [.int (b 66 (((30 + (4 * (nI J))) + 1).toNatClampNeg))], mz_set (mz_set (mz_set b 65 r65) 70 r70) 71 r71)) rfl (show mz_in ((30 + (4 * (nI J))) + 1) 650 = true from sm_inN (sm_addN (sm_addN rfl (sm_mulN rfl rfl)) rfl) (show ((30 + (4 * J)) + 1) < 650 by omega) (by decide)) ?_
      rw [show ((30 + (4 * (nI J))) + 1 : Int32).toNatClampNeg = ((30 + (4 * J)) + 1) from sm_clN (sm_addN (sm_addN rfl (sm_mulN rfl rfl)) rfl) (show ((30 + (4 * J)) + 1) < 2 ^ 31 by omega)]
      rw [(show b 66 ((30 + (4 * J)) + 1) = w 4 J from (hr2.2.1 J (by omega)).2.1)]
      exact mz_ret rfl
    refine mz_go 3 (c' := (61, [some (.ref 65), some (.int (nI J)), some (.int xb), some (.int s), some (.int 0), some (.int xb)], [.int 2, .int (nI J), .ref 65, .int (w 4 J), .ref 65], mz_set (mz_set (mz_set b 65 r65) 70 r70) 71 r71)) rfl ?_
    refine mz_do (R := mz_r133) (as := [.ref 65, .int (nI J), .int 2]) (rest := [.int (w 4 J), .ref 65]) (r1 := some (.int (w 5 J))) (m1 := mz_set (mz_set (mz_set b 65 r65) 70 r70) 71 r71) rfl ⟨?_, rfl⟩ ?_
    · refine mz_go 9 (c' := (12, [some (.ref 65), some (.int (nI J)), some (.int 2)], [.int ((30 + (4 * (nI J))) + 2), .ref 66], mz_set (mz_set (mz_set b 65 r65) 70 r70) 71 r71)) rfl ?_
      refine mz_arr (c' := (13, [some (.ref 65), some (.int (nI J)), some (.int 2)], [.int (b 66 (((30 + (4 * (nI J))) + 2).toNatClampNeg))], mz_set (mz_set (mz_set b 65 r65) 70 r70) 71 r71)) rfl (show mz_in ((30 + (4 * (nI J))) + 2) 650 = true from sm_inN (sm_addN (sm_addN rfl (sm_mulN rfl rfl)) rfl) (show ((30 + (4 * J)) + 2) < 650 by omega) (by decide)) ?_
      rw [show ((30 + (4 * (nI J))) + 2 : Int32).toNatClampNeg = ((30 + (4 * J)) + 2) from sm_clN (sm_addN (sm_addN rfl (sm_mulN rfl rfl)) rfl) (show ((30 + (4 * J)) + 2) < 2 ^ 31 by omega)]
      rw [(show b 66 ((30 + (4 * J)) + 2) = w 5 J from (hr2.2.1 J (by omega)).2.2.1)]
      exact mz_ret rfl
    refine mz_go 10 (c' := (88, [some (.ref 65), some (.int (nI J)), some (.int xb), some (.int s), some (.int 0), some (.int xb)], [.int 0, .int xb, .int (w 5 J), .int (w 4 J), .ref 65], mz_set (mz_set (mz_set b 65 r65) 70 r70) 71 r71)) rfl ?_
    refine mz_do (R := mz_r144) (as := [.ref 65, .int (w 4 J), .int (w 5 J), .int xb, .int 0]) (rest := []) (r1 := none) (m1 := mz_up (mz_up (mz_up (mz_up (mz_up (mz_set (mz_set (mz_set b 65 r65) 70 r70) 71 r71) 65 4 (16 * (w 4 J))) 65 5 (16 * (w 5 J))) 65 6 xb) 65 7 0) 65 8 0) rfl ⟨?_, rfl⟩ ?_
    · refine mz_go 19 (c' := (32, [some (.ref 65), some (.int (w 4 J)), some (.int (w 5 J)), some (.int xb), some (.int 0)], [], mz_up (mz_up (mz_up (mz_up (mz_up (mz_set (mz_set (mz_set b 65 r65) 70 r70) 71 r71) 65 4 (16 * (w 4 J))) 65 5 (16 * (w 5 J))) 65 6 xb) 65 7 0) 65 8 0)) rfl ?_
      exact mz_ret rfl
    refine mz_go 3 (c' := (94, [some (.ref 65), some (.int (nI J)), some (.int xb), some (.int s), some (.int 0), some (.int xb)], [.ref 65, .ref 65, .int s], mz_up (mz_up (mz_up (mz_up (mz_up (mz_set (mz_set (mz_set b 65 r65) 70 r70) 71 r71) 65 4 (16 * (w 4 J))) 65 5 (16 * (w 5 J))) 65 6 xb) 65 7 0) 65 8 0)) rfl ?_
    refine mz_do (R := mz_r156) (as := [.ref 65]) (rest := [.ref 65, .int s]) (r1 := some (.int (w 7 5))) (m1 := mz_up (mz_up (mz_up (mz_up (mz_up (mz_set (mz_set (mz_set b 65 r65) 70 r70) 71 r71) 65 4 (16 * (w 4 J))) 65 5 (16 * (w 5 J))) 65 6 xb) 65 7 0) 65 8 0) rfl ⟨?_, rfl⟩ ?_
    · refine mz_go 4 (c' := (7, [some (.ref 65)], [.int (b 66 15)], mz_up (mz_up (mz_up (mz_up (mz_up (mz_set (mz_set (mz_set b 65 r65) 70 r70) 71 r71) 65 4 (16 * (w 4 J))) 65 5 (16 * (w 5 J))) 65 6 xb) 65 7 0) 65 8 0)) rfl ?_
      rw [h6615]
      exact mz_ret rfl
    refine mz_do (R := mz_r154) (as := [.ref 65, .int (w 7 5)]) (rest := [.int s]) (r1 := some (.int (sm_end w (w 7 5) (w 4 J) (w 5 J) xb 0))) (m1 := mz_set (mz_set (mz_set (mz_up (mz_up (mz_up (mz_up (mz_up (mz_set (mz_set (mz_set b 65 r65) 70 r70) 71 r71) 65 4 (16 * (w 4 J))) 65 5 (16 * (w 5 J))) 65 6 xb) 65 7 0) 65 8 0) 65 re1) 70 fe1) 71 ge1) rfl (Ee1.deep (by decide)) ?_
    refine mz_go 2 (c' := (if (sm_end w (w 7 5) (w 4 J) (w 5 J) xb 0) = (nI J) then 104 else 108, [some (.ref 65), some (.int (nI J)), some (.int xb), some (.int s), some (.int 0), some (.int xb)], [.int s], mz_set (mz_set (mz_set (mz_up (mz_up (mz_up (mz_up (mz_up (mz_set (mz_set (mz_set b 65 r65) 70 r70) 71 r71) 65 4 (16 * (w 4 J))) 65 5 (16 * (w 5 J))) 65 6 xb) 65 7 0) 65 8 0) 65 re1) 70 fe1) 71 ge1)) rfl ?_
    refine mz_ifT q1 ?_
    refine mz_go 6 (c' := (30, [some (.ref 65), some (.int (nI J)), some (.int xb), some (.int (s + 1)), some (.int 1), some (.int xb)], [], mz_set (mz_set (mz_set (mz_up (mz_up (mz_up (mz_up (mz_up (mz_set (mz_set (mz_set b 65 r65) 70 r70) 71 r71) 65 4 (16 * (w 4 J))) 65 5 (16 * (w 5 J))) 65 6 xb) 65 7 0) 65 8 0) 65 re1) 70 fe1) 71 ge1)) rfl ?_
    exact hr
  · have hm : mz_set (mz_set (mz_set (mz_up (mz_up (mz_up (mz_up (mz_up (mz_set (mz_set (mz_set b 65 r65) 70 r70) 71 r71) 65 4 (16 * (w 4 J))) 65 5 (16 * (w 5 J))) 65 6 xb) 65 7 0) 65 8 0) 65 re1) 70 fe1) 71 ge1 = mz_set (mz_set (mz_set b 65 ((mz_set (mz_set (mz_set (mz_up (mz_up (mz_up (mz_up (mz_up (mz_set (mz_set (mz_set b 65 r65) 70 r70) 71 r71) 65 4 (16 * (w 4 J))) 65 5 (16 * (w 5 J))) 65 6 xb) 65 7 0) 65 8 0) 65 re1) 70 fe1) 71 ge1) 65)) 70 ((mz_set (mz_set (mz_set (mz_up (mz_up (mz_up (mz_up (mz_up (mz_set (mz_set (mz_set b 65 r65) 70 r70) 71 r71) 65 4 (16 * (w 4 J))) 65 5 (16 * (w 5 J))) 65 6 xb) 65 7 0) 65 8 0) 65 re1) 70 fe1) 71 ge1) 70)) 71 ((mz_set (mz_set (mz_set (mz_up (mz_up (mz_up (mz_up (mz_up (mz_set (mz_set (mz_set b 65 r65) 70 r70) 71 r71) 65 4 (16 * (w 4 J))) 65 5 (16 * (w 5 J))) 65 6 xb) 65 7 0) 65 8 0) 65 re1) 70 fe1) 71 ge1) 71) := sm_of3 (fun i h1 h2 h3 => by simp only [mz_set_ne h1, mz_set_ne h2, mz_set_ne h3, mz_up_ne h1])
    refine ⟨(some (.int xb)), ((mz_set (mz_set (mz_set (mz_up (mz_up (mz_up (mz_up (mz_up (mz_set (mz_set (mz_set b 65 r65) 70 r70) 71 r71) 65 4 (16 * (w 4 J))) 65 5 (16 * (w 5 J))) 65 6 xb) 65 7 0) 65 8 0) 65 re1) 70 fe1) 71 ge1) 65), ((mz_set (mz_set (mz_set (mz_up (mz_up (mz_up (mz_up (mz_up (mz_set (mz_set (mz_set b 65 r65) 70 r70) 71 r71) 65 4 (16 * (w 4 J))) 65 5 (16 * (w 5 J))) 65 6 xb) 65 7 0) 65 8 0) 65 re1) 70 fe1) 71 ge1) 70), ((mz_set (mz_set (mz_set (mz_up (mz_up (mz_up (mz_up (mz_up (mz_set (mz_set (mz_set b 65 r65) 70 r70) 71 r71) 65 4 (16 * (w 4 J))) 65 5 (16 * (w 5 J))) 65 6 xb) 65 7 0) 65 8 0) 65 re1) 70 fe1) 71 ge1) 71), (fun k hk => ((ke1 k hk).trans (by rw [mz_up_eq, if_neg (by omega), mz_up_eq, if_neg (by omega), mz_up_eq, if_neg (by omega), mz_up_eq, if_neg (by omega), mz_up_eq, if_neg (by omega)]; exact rfl)).trans (hkr k hk)), fun r hr => ?_⟩
    rw [show s + vh_h (sm_end w (w 7 5) (w 4 J) (w 5 J) xb 0) (nI J) = s + 0 from vh_a0 q1] at hr
    rw [← hm] at hr
    refine mz_go 14 (c' := (55, [some (.ref 65), some (.int (nI J)), some (.int xb), some (.int s), some (.int 0), some (.int xb)], [.int 1, .int (nI J), .ref 65, .ref 65], mz_set (mz_set (mz_set b 65 r65) 70 r70) 71 r71)) rfl ?_
    refine mz_do (R := mz_r133) (as := [.ref 65, .int (nI J), .int 1]) (rest := [.ref 65]) (r1 := some (.int (w 4 J))) (m1 := mz_set (mz_set (mz_set b 65 r65) 70 r70) 71 r71) rfl ⟨?_, rfl⟩ ?_
    · refine mz_go 9 (c' := (12, [some (.ref 65), some (.int (nI J)), some (.int 1)], [.int ((30 + (4 * (nI J))) + 1), .ref 66], mz_set (mz_set (mz_set b 65 r65) 70 r70) 71 r71)) rfl ?_
      refine mz_arr (c' := (13, [some (.ref 65), some (.int (nI J)), some (.int 1)], [.int (b 66 (((30 + (4 * (nI J))) + 1).toNatClampNeg))], mz_set (mz_set (mz_set b 65 r65) 70 r70) 71 r71)) rfl (show mz_in ((30 + (4 * (nI J))) + 1) 650 = true from sm_inN (sm_addN (sm_addN rfl (sm_mulN rfl rfl)) rfl) (show ((30 + (4 * J)) + 1) < 650 by omega) (by decide)) ?_
      rw [show ((30 + (4 * (nI J))) + 1 : Int32).toNatClampNeg = ((30 + (4 * J)) + 1) from sm_clN (sm_addN (sm_addN rfl (sm_mulN rfl rfl)) rfl) (show ((30 + (4 * J)) + 1) < 2 ^ 31 by omega)]
      rw [(show b 66 ((30 + (4 * J)) + 1) = w 4 J from (hr2.2.1 J (by omega)).2.1)]
      exact mz_ret rfl
    refine mz_go 3 (c' := (61, [some (.ref 65), some (.int (nI J)), some (.int xb), some (.int s), some (.int 0), some (.int xb)], [.int 2, .int (nI J), .ref 65, .int (w 4 J), .ref 65], mz_set (mz_set (mz_set b 65 r65) 70 r70) 71 r71)) rfl ?_
    refine mz_do (R := mz_r133) (as := [.ref 65, .int (nI J), .int 2]) (rest := [.int (w 4 J), .ref 65]) (r1 := some (.int (w 5 J))) (m1 := mz_set (mz_set (mz_set b 65 r65) 70 r70) 71 r71) rfl ⟨?_, rfl⟩ ?_
    · refine mz_go 9 (c' := (12, [some (.ref 65), some (.int (nI J)), some (.int 2)], [.int ((30 + (4 * (nI J))) + 2), .ref 66], mz_set (mz_set (mz_set b 65 r65) 70 r70) 71 r71)) rfl ?_
      refine mz_arr (c' := (13, [some (.ref 65), some (.int (nI J)), some (.int 2)], [.int (b 66 (((30 + (4 * (nI J))) + 2).toNatClampNeg))], mz_set (mz_set (mz_set b 65 r65) 70 r70) 71 r71)) rfl (show mz_in ((30 + (4 * (nI J))) + 2) 650 = true from sm_inN (sm_addN (sm_addN rfl (sm_mulN rfl rfl)) rfl) (show ((30 + (4 * J)) + 2) < 650 by omega) (by decide)) ?_
      rw [show ((30 + (4 * (nI J))) + 2 : Int32).toNatClampNeg = ((30 + (4 * J)) + 2) from sm_clN (sm_addN (sm_addN rfl (sm_mulN rfl rfl)) rfl) (show ((30 + (4 * J)) + 2) < 2 ^ 31 by omega)]
      rw [(show b 66 ((30 + (4 * J)) + 2) = w 5 J from (hr2.2.1 J (by omega)).2.2.1)]
      exact mz_ret rfl
    refine mz_go 10 (c' := (88, [some (.ref 65), some (.int (nI J)), some (.int xb), some (.int s), some (.int 0), some (.int xb)], [.int 0, .int xb, .int (w 5 J), .int (w 4 J), .ref 65], mz_set (mz_set (mz_set b 65 r65) 70 r70) 71 r71)) rfl ?_
    refine mz_do (R := mz_r144) (as := [.ref 65, .int (w 4 J), .int (w 5 J), .int xb, .int 0]) (rest := []) (r1 := none) (m1 := mz_up (mz_up (mz_up (mz_up (mz_up (mz_set (mz_set (mz_set b 65 r65) 70 r70) 71 r71) 65 4 (16 * (w 4 J))) 65 5 (16 * (w 5 J))) 65 6 xb) 65 7 0) 65 8 0) rfl ⟨?_, rfl⟩ ?_
    · refine mz_go 19 (c' := (32, [some (.ref 65), some (.int (w 4 J)), some (.int (w 5 J)), some (.int xb), some (.int 0)], [], mz_up (mz_up (mz_up (mz_up (mz_up (mz_set (mz_set (mz_set b 65 r65) 70 r70) 71 r71) 65 4 (16 * (w 4 J))) 65 5 (16 * (w 5 J))) 65 6 xb) 65 7 0) 65 8 0)) rfl ?_
      exact mz_ret rfl
    refine mz_go 3 (c' := (94, [some (.ref 65), some (.int (nI J)), some (.int xb), some (.int s), some (.int 0), some (.int xb)], [.ref 65, .ref 65, .int s], mz_up (mz_up (mz_up (mz_up (mz_up (mz_set (mz_set (mz_set b 65 r65) 70 r70) 71 r71) 65 4 (16 * (w 4 J))) 65 5 (16 * (w 5 J))) 65 6 xb) 65 7 0) 65 8 0)) rfl ?_
    refine mz_do (R := mz_r156) (as := [.ref 65]) (rest := [.ref 65, .int s]) (r1 := some (.int (w 7 5))) (m1 := mz_up (mz_up (mz_up (mz_up (mz_up (mz_set (mz_set (mz_set b 65 r65) 70 r70) 71 r71) 65 4 (16 * (w 4 J))) 65 5 (16 * (w 5 J))) 65 6 xb) 65 7 0) 65 8 0) rfl ⟨?_, rfl⟩ ?_
    · refine mz_go 4 (c' := (7, [some (.ref 65)], [.int (b 66 15)], mz_up (mz_up (mz_up (mz_up (mz_up (mz_set (mz_set (mz_set b 65 r65) 70 r70) 71 r71) 65 4 (16 * (w 4 J))) 65 5 (16 * (w 5 J))) 65 6 xb) 65 7 0) 65 8 0)) rfl ?_
      rw [h6615]
      exact mz_ret rfl
    refine mz_do (R := mz_r154) (as := [.ref 65, .int (w 7 5)]) (rest := [.int s]) (r1 := some (.int (sm_end w (w 7 5) (w 4 J) (w 5 J) xb 0))) (m1 := mz_set (mz_set (mz_set (mz_up (mz_up (mz_up (mz_up (mz_up (mz_set (mz_set (mz_set b 65 r65) 70 r70) 71 r71) 65 4 (16 * (w 4 J))) 65 5 (16 * (w 5 J))) 65 6 xb) 65 7 0) 65 8 0) 65 re1) 70 fe1) 71 ge1) rfl (Ee1.deep (by decide)) ?_
    refine mz_go 2 (c' := (if (sm_end w (w 7 5) (w 4 J) (w 5 J) xb 0) = (nI J) then 104 else 108, [some (.ref 65), some (.int (nI J)), some (.int xb), some (.int s), some (.int 0), some (.int xb)], [.int s], mz_set (mz_set (mz_set (mz_up (mz_up (mz_up (mz_up (mz_up (mz_set (mz_set (mz_set b 65 r65) 70 r70) 71 r71) 65 4 (16 * (w 4 J))) 65 5 (16 * (w 5 J))) 65 6 xb) 65 7 0) 65 8 0) 65 re1) 70 fe1) 71 ge1)) rfl ?_
    refine mz_ifF q1 ?_
    refine mz_go 5 (c' := (30, [some (.ref 65), some (.int (nI J)), some (.int xb), some (.int (s + 0)), some (.int 1), some (.int xb)], [], mz_set (mz_set (mz_set (mz_up (mz_up (mz_up (mz_up (mz_up (mz_set (mz_set (mz_set b 65 r65) 70 r70) 71 r71) 65 4 (16 * (w 4 J))) 65 5 (16 * (w 5 J))) 65 6 xb) 65 7 0) 65 8 0) 65 re1) 70 fe1) 71 ge1)) rfl ?_
    exact hr
set_option maxHeartbeats 4000000 in
set_option maxRecDepth 100000 in
theorem vh_r1 {w b : mz_M} {N : Nat} (hw : sm_W w N) (hN : N ≤ 6) (hr5 : w 7 5 = 1 ∨ w 7 5 = 2) (hr80 : sm_N 80 (w 7 2)) (hr2 : sm_HR w (b 66)) (h6615 : b 66 15 = w 7 5) {J : Nat} (hJ : J < N) {xb : Int32} : ∀ (s : Int32) (o5 : Option Value) (r65 r70 r71 : Nat → Int32), (∀ k, k < 4 ∨ 8 < k → r65 k = b 65 k) → ∃ (p5 : Option Value), ∃ (s65 : Nat → Int32), ∃ (s70 : Nat → Int32), ∃ (s71 : Nat → Int32), (∀ k, k < 4 ∨ 8 < k → s65 k = b 65 k) ∧ ∀ r, mz_Ex 100 mz_k182 (30, [some (.ref 65), some (.int (nI J)), some (.int xb), some (.int (s + vh_h (sm_end w (w 7 5) (w 4 J) (w 5 J) (-xb) 0) (nI J))), some (.int 2), p5], [], mz_set (mz_set (mz_set b 65 s65) 70 s70) 71 s71) r → mz_Ex 100 mz_k182 (30, [some (.ref 65), some (.int (nI J)), some (.int xb), some (.int s), some (.int 1), o5], [], mz_set (mz_set (mz_set b 65 r65) 70 r70) 71 r71) r := by
  have hw2 := hw
  obtain ⟨-, -, hpb, -, -⟩ := hw2
  intro s o5 r65 r70 r71 hkr
  obtain ⟨re1, fe1, ge1, le1, ke1, Ee1⟩ := ct_end (w := w) (m := mz_up (mz_up (mz_up (mz_up (mz_up (mz_set (mz_set (mz_set b 65 r65) 70 r70) 71 r71) 65 4 (16 * (w 4 J))) 65 5 (16 * (w 5 J))) 65 6 (-xb)) 65 7 0) 65 8 0) hw hr2 (hr5.imp id Or.inl) hr80 (hpb J (by omega)).2.1 (hpb J (by omega)).2.2.1 (show sm_like (fun k => (mz_up (mz_up (mz_up (mz_up (mz_up (mz_set (mz_set (mz_set b 65 r65) 70 r70) 71 r71) 65 4 (16 * (w 4 J))) 65 5 (16 * (w 5 J))) 65 6 (-xb)) 65 7 0) 65 8 0) 65 (4 + k)) (sm_go (w 4 J) (w 5 J) (-xb) 0) from ⟨rfl, rfl, rfl, rfl, rfl⟩)
  by_cases q1 : (sm_end w (w 7 5) (w 4 J) (w 5 J) (-xb) 0) = (nI J)
  · have hm : mz_set (mz_set (mz_set (mz_up (mz_up (mz_up (mz_up (mz_up (mz_set (mz_set (mz_set b 65 r65) 70 r70) 71 r71) 65 4 (16 * (w 4 J))) 65 5 (16 * (w 5 J))) 65 6 (-xb)) 65 7 0) 65 8 0) 65 re1) 70 fe1) 71 ge1 = mz_set (mz_set (mz_set b 65 ((mz_set (mz_set (mz_set (mz_up (mz_up (mz_up (mz_up (mz_up (mz_set (mz_set (mz_set b 65 r65) 70 r70) 71 r71) 65 4 (16 * (w 4 J))) 65 5 (16 * (w 5 J))) 65 6 (-xb)) 65 7 0) 65 8 0) 65 re1) 70 fe1) 71 ge1) 65)) 70 ((mz_set (mz_set (mz_set (mz_up (mz_up (mz_up (mz_up (mz_up (mz_set (mz_set (mz_set b 65 r65) 70 r70) 71 r71) 65 4 (16 * (w 4 J))) 65 5 (16 * (w 5 J))) 65 6 (-xb)) 65 7 0) 65 8 0) 65 re1) 70 fe1) 71 ge1) 70)) 71 ((mz_set (mz_set (mz_set (mz_up (mz_up (mz_up (mz_up (mz_up (mz_set (mz_set (mz_set b 65 r65) 70 r70) 71 r71) 65 4 (16 * (w 4 J))) 65 5 (16 * (w 5 J))) 65 6 (-xb)) 65 7 0) 65 8 0) 65 re1) 70 fe1) 71 ge1) 71) := sm_of3 (fun i h1 h2 h3 => by simp only [mz_set_ne h1, mz_set_ne h2, mz_set_ne h3, mz_up_ne h1])
    refine ⟨(some (.int (-xb))), ((mz_set (mz_set (mz_set (mz_up (mz_up (mz_up (mz_up (mz_up (mz_set (mz_set (mz_set b 65 r65) 70 r70) 71 r71) 65 4 (16 * (w 4 J))) 65 5 (16 * (w 5 J))) 65 6 (-xb)) 65 7 0) 65 8 0) 65 re1) 70 fe1) 71 ge1) 65), ((mz_set (mz_set (mz_set (mz_up (mz_up (mz_up (mz_up (mz_up (mz_set (mz_set (mz_set b 65 r65) 70 r70) 71 r71) 65 4 (16 * (w 4 J))) 65 5 (16 * (w 5 J))) 65 6 (-xb)) 65 7 0) 65 8 0) 65 re1) 70 fe1) 71 ge1) 70), ((mz_set (mz_set (mz_set (mz_up (mz_up (mz_up (mz_up (mz_up (mz_set (mz_set (mz_set b 65 r65) 70 r70) 71 r71) 65 4 (16 * (w 4 J))) 65 5 (16 * (w 5 J))) 65 6 (-xb)) 65 7 0) 65 8 0) 65 re1) 70 fe1) 71 ge1) 71), (fun k hk => ((ke1 k hk).trans (by rw [mz_up_eq, if_neg (by omega), mz_up_eq, if_neg (by omega), mz_up_eq, if_neg (by omega), mz_up_eq, if_neg (by omega), mz_up_eq, if_neg (by omega)]; exact rfl)).trans (hkr k hk)), fun r hr => ?_⟩
    rw [show s + vh_h (sm_end w (w 7 5) (w 4 J) (w 5 J) (-xb) 0) (nI J) = s + 1 from vh_a1 q1] at hr
    rw [← hm] at hr
    refine mz_go 14 (c' := (55, [some (.ref 65), some (.int (nI J)), some (.int xb), some (.int s), some (.int 1), some (.int (-xb))], [.int 1, .int (nI J), .ref 65, .ref 65], mz_set (mz_set (mz_set b 65 r65) 70 r70) 71 r71)) rfl ?_
    refine mz_do (R := mz_r133) (as := [.ref 65, .int (nI J), .int 1]) (rest := [.ref 65]) (r1 := some (.int (w 4 J))) (m1 := mz_set (mz_set (mz_set b 65 r65) 70 r70) 71 r71) rfl ⟨?_, rfl⟩ ?_
    · refine mz_go 9 (c' := (12, [some (.ref 65), some (.int (nI J)), some (.int 1)], [.int ((30 + (4 * (nI J))) + 1), .ref 66], mz_set (mz_set (mz_set b 65 r65) 70 r70) 71 r71)) rfl ?_
      refine mz_arr (c' := (13, [some (.ref 65), some (.int (nI J)), some (.int 1)], [.int (b 66 (((30 + (4 * (nI J))) + 1).toNatClampNeg))], mz_set (mz_set (mz_set b 65 r65) 70 r70) 71 r71)) rfl (show mz_in ((30 + (4 * (nI J))) + 1) 650 = true from sm_inN (sm_addN (sm_addN rfl (sm_mulN rfl rfl)) rfl) (show ((30 + (4 * J)) + 1) < 650 by omega) (by decide)) ?_
      rw [show ((30 + (4 * (nI J))) + 1 : Int32).toNatClampNeg = ((30 + (4 * J)) + 1) from sm_clN (sm_addN (sm_addN rfl (sm_mulN rfl rfl)) rfl) (show ((30 + (4 * J)) + 1) < 2 ^ 31 by omega)]
      rw [(show b 66 ((30 + (4 * J)) + 1) = w 4 J from (hr2.2.1 J (by omega)).2.1)]
      exact mz_ret rfl
    refine mz_go 3 (c' := (61, [some (.ref 65), some (.int (nI J)), some (.int xb), some (.int s), some (.int 1), some (.int (-xb))], [.int 2, .int (nI J), .ref 65, .int (w 4 J), .ref 65], mz_set (mz_set (mz_set b 65 r65) 70 r70) 71 r71)) rfl ?_
    refine mz_do (R := mz_r133) (as := [.ref 65, .int (nI J), .int 2]) (rest := [.int (w 4 J), .ref 65]) (r1 := some (.int (w 5 J))) (m1 := mz_set (mz_set (mz_set b 65 r65) 70 r70) 71 r71) rfl ⟨?_, rfl⟩ ?_
    · refine mz_go 9 (c' := (12, [some (.ref 65), some (.int (nI J)), some (.int 2)], [.int ((30 + (4 * (nI J))) + 2), .ref 66], mz_set (mz_set (mz_set b 65 r65) 70 r70) 71 r71)) rfl ?_
      refine mz_arr (c' := (13, [some (.ref 65), some (.int (nI J)), some (.int 2)], [.int (b 66 (((30 + (4 * (nI J))) + 2).toNatClampNeg))], mz_set (mz_set (mz_set b 65 r65) 70 r70) 71 r71)) rfl (show mz_in ((30 + (4 * (nI J))) + 2) 650 = true from sm_inN (sm_addN (sm_addN rfl (sm_mulN rfl rfl)) rfl) (show ((30 + (4 * J)) + 2) < 650 by omega) (by decide)) ?_
      rw [show ((30 + (4 * (nI J))) + 2 : Int32).toNatClampNeg = ((30 + (4 * J)) + 2) from sm_clN (sm_addN (sm_addN rfl (sm_mulN rfl rfl)) rfl) (show ((30 + (4 * J)) + 2) < 2 ^ 31 by omega)]
      rw [(show b 66 ((30 + (4 * J)) + 2) = w 5 J from (hr2.2.1 J (by omega)).2.2.1)]
      exact mz_ret rfl
    refine mz_go 10 (c' := (88, [some (.ref 65), some (.int (nI J)), some (.int xb), some (.int s), some (.int 1), some (.int (-xb))], [.int 0, .int (-xb), .int (w 5 J), .int (w 4 J), .ref 65], mz_set (mz_set (mz_set b 65 r65) 70 r70) 71 r71)) rfl ?_
    refine mz_do (R := mz_r144) (as := [.ref 65, .int (w 4 J), .int (w 5 J), .int (-xb), .int 0]) (rest := []) (r1 := none) (m1 := mz_up (mz_up (mz_up (mz_up (mz_up (mz_set (mz_set (mz_set b 65 r65) 70 r70) 71 r71) 65 4 (16 * (w 4 J))) 65 5 (16 * (w 5 J))) 65 6 (-xb)) 65 7 0) 65 8 0) rfl ⟨?_, rfl⟩ ?_
    · refine mz_go 19 (c' := (32, [some (.ref 65), some (.int (w 4 J)), some (.int (w 5 J)), some (.int (-xb)), some (.int 0)], [], mz_up (mz_up (mz_up (mz_up (mz_up (mz_set (mz_set (mz_set b 65 r65) 70 r70) 71 r71) 65 4 (16 * (w 4 J))) 65 5 (16 * (w 5 J))) 65 6 (-xb)) 65 7 0) 65 8 0)) rfl ?_
      exact mz_ret rfl
    refine mz_go 3 (c' := (94, [some (.ref 65), some (.int (nI J)), some (.int xb), some (.int s), some (.int 1), some (.int (-xb))], [.ref 65, .ref 65, .int s], mz_up (mz_up (mz_up (mz_up (mz_up (mz_set (mz_set (mz_set b 65 r65) 70 r70) 71 r71) 65 4 (16 * (w 4 J))) 65 5 (16 * (w 5 J))) 65 6 (-xb)) 65 7 0) 65 8 0)) rfl ?_
    refine mz_do (R := mz_r156) (as := [.ref 65]) (rest := [.ref 65, .int s]) (r1 := some (.int (w 7 5))) (m1 := mz_up (mz_up (mz_up (mz_up (mz_up (mz_set (mz_set (mz_set b 65 r65) 70 r70) 71 r71) 65 4 (16 * (w 4 J))) 65 5 (16 * (w 5 J))) 65 6 (-xb)) 65 7 0) 65 8 0) rfl ⟨?_, rfl⟩ ?_
    · refine mz_go 4 (c' := (7, [some (.ref 65)], [.int (b 66 15)], mz_up (mz_up (mz_up (mz_up (mz_up (mz_set (mz_set (mz_set b 65 r65) 70 r70) 71 r71) 65 4 (16 * (w 4 J))) 65 5 (16 * (w 5 J))) 65 6 (-xb)) 65 7 0) 65 8 0)) rfl ?_
      rw [h6615]
      exact mz_ret rfl
    refine mz_do (R := mz_r154) (as := [.ref 65, .int (w 7 5)]) (rest := [.int s]) (r1 := some (.int (sm_end w (w 7 5) (w 4 J) (w 5 J) (-xb) 0))) (m1 := mz_set (mz_set (mz_set (mz_up (mz_up (mz_up (mz_up (mz_up (mz_set (mz_set (mz_set b 65 r65) 70 r70) 71 r71) 65 4 (16 * (w 4 J))) 65 5 (16 * (w 5 J))) 65 6 (-xb)) 65 7 0) 65 8 0) 65 re1) 70 fe1) 71 ge1) rfl (Ee1.deep (by decide)) ?_
    refine mz_go 2 (c' := (if (sm_end w (w 7 5) (w 4 J) (w 5 J) (-xb) 0) = (nI J) then 104 else 108, [some (.ref 65), some (.int (nI J)), some (.int xb), some (.int s), some (.int 1), some (.int (-xb))], [.int s], mz_set (mz_set (mz_set (mz_up (mz_up (mz_up (mz_up (mz_up (mz_set (mz_set (mz_set b 65 r65) 70 r70) 71 r71) 65 4 (16 * (w 4 J))) 65 5 (16 * (w 5 J))) 65 6 (-xb)) 65 7 0) 65 8 0) 65 re1) 70 fe1) 71 ge1)) rfl ?_
    refine mz_ifT q1 ?_
    refine mz_go 6 (c' := (30, [some (.ref 65), some (.int (nI J)), some (.int xb), some (.int (s + 1)), some (.int 2), some (.int (-xb))], [], mz_set (mz_set (mz_set (mz_up (mz_up (mz_up (mz_up (mz_up (mz_set (mz_set (mz_set b 65 r65) 70 r70) 71 r71) 65 4 (16 * (w 4 J))) 65 5 (16 * (w 5 J))) 65 6 (-xb)) 65 7 0) 65 8 0) 65 re1) 70 fe1) 71 ge1)) rfl ?_
    exact hr
  · have hm : mz_set (mz_set (mz_set (mz_up (mz_up (mz_up (mz_up (mz_up (mz_set (mz_set (mz_set b 65 r65) 70 r70) 71 r71) 65 4 (16 * (w 4 J))) 65 5 (16 * (w 5 J))) 65 6 (-xb)) 65 7 0) 65 8 0) 65 re1) 70 fe1) 71 ge1 = mz_set (mz_set (mz_set b 65 ((mz_set (mz_set (mz_set (mz_up (mz_up (mz_up (mz_up (mz_up (mz_set (mz_set (mz_set b 65 r65) 70 r70) 71 r71) 65 4 (16 * (w 4 J))) 65 5 (16 * (w 5 J))) 65 6 (-xb)) 65 7 0) 65 8 0) 65 re1) 70 fe1) 71 ge1) 65)) 70 ((mz_set (mz_set (mz_set (mz_up (mz_up (mz_up (mz_up (mz_up (mz_set (mz_set (mz_set b 65 r65) 70 r70) 71 r71) 65 4 (16 * (w 4 J))) 65 5 (16 * (w 5 J))) 65 6 (-xb)) 65 7 0) 65 8 0) 65 re1) 70 fe1) 71 ge1) 70)) 71 ((mz_set (mz_set (mz_set (mz_up (mz_up (mz_up (mz_up (mz_up (mz_set (mz_set (mz_set b 65 r65) 70 r70) 71 r71) 65 4 (16 * (w 4 J))) 65 5 (16 * (w 5 J))) 65 6 (-xb)) 65 7 0) 65 8 0) 65 re1) 70 fe1) 71 ge1) 71) := sm_of3 (fun i h1 h2 h3 => by simp only [mz_set_ne h1, mz_set_ne h2, mz_set_ne h3, mz_up_ne h1])
    refine ⟨(some (.int (-xb))), ((mz_set (mz_set (mz_set (mz_up (mz_up (mz_up (mz_up (mz_up (mz_set (mz_set (mz_set b 65 r65) 70 r70) 71 r71) 65 4 (16 * (w 4 J))) 65 5 (16 * (w 5 J))) 65 6 (-xb)) 65 7 0) 65 8 0) 65 re1) 70 fe1) 71 ge1) 65), ((mz_set (mz_set (mz_set (mz_up (mz_up (mz_up (mz_up (mz_up (mz_set (mz_set (mz_set b 65 r65) 70 r70) 71 r71) 65 4 (16 * (w 4 J))) 65 5 (16 * (w 5 J))) 65 6 (-xb)) 65 7 0) 65 8 0) 65 re1) 70 fe1) 71 ge1) 70), ((mz_set (mz_set (mz_set (mz_up (mz_up (mz_up (mz_up (mz_up (mz_set (mz_set (mz_set b 65 r65) 70 r70) 71 r71) 65 4 (16 * (w 4 J))) 65 5 (16 * (w 5 J))) 65 6 (-xb)) 65 7 0) 65 8 0) 65 re1) 70 fe1) 71 ge1) 71), (fun k hk => ((ke1 k hk).trans (by rw [mz_up_eq, if_neg (by omega), mz_up_eq, if_neg (by omega), mz_up_eq, if_neg (by omega), mz_up_eq, if_neg (by omega), mz_up_eq, if_neg (by omega)]; exact rfl)).trans (hkr k hk)), fun r hr => ?_⟩
    rw [show s + vh_h (sm_end w (w 7 5) (w 4 J) (w 5 J) (-xb) 0) (nI J) = s + 0 from vh_a0 q1] at hr
    rw [← hm] at hr
    refine mz_go 14 (c' := (55, [some (.ref 65), some (.int (nI J)), some (.int xb), some (.int s), some (.int 1), some (.int (-xb))], [.int 1, .int (nI J), .ref 65, .ref 65], mz_set (mz_set (mz_set b 65 r65) 70 r70) 71 r71)) rfl ?_
    refine mz_do (R := mz_r133) (as := [.ref 65, .int (nI J), .int 1]) (rest := [.ref 65]) (r1 := some (.int (w 4 J))) (m1 := mz_set (mz_set (mz_set b 65 r65) 70 r70) 71 r71) rfl ⟨?_, rfl⟩ ?_
    · refine mz_go 9 (c' := (12, [some (.ref 65), some (.int (nI J)), some (.int 1)], [.int ((30 + (4 * (nI J))) + 1), .ref 66], mz_set (mz_set (mz_set b 65 r65) 70 r70) 71 r71)) rfl ?_
      refine mz_arr (c' := (13, [some (.ref 65), some (.int (nI J)), some (.int 1)], [.int (b 66 (((30 + (4 * (nI J))) + 1).toNatClampNeg))], mz_set (mz_set (mz_set b 65 r65) 70 r70) 71 r71)) rfl (show mz_in ((30 + (4 * (nI J))) + 1) 650 = true from sm_inN (sm_addN (sm_addN rfl (sm_mulN rfl rfl)) rfl) (show ((30 + (4 * J)) + 1) < 650 by omega) (by decide)) ?_
      rw [show ((30 + (4 * (nI J))) + 1 : Int32).toNatClampNeg = ((30 + (4 * J)) + 1) from sm_clN (sm_addN (sm_addN rfl (sm_mulN rfl rfl)) rfl) (show ((30 + (4 * J)) + 1) < 2 ^ 31 by omega)]
      rw [(show b 66 ((30 + (4 * J)) + 1) = w 4 J from (hr2.2.1 J (by omega)).2.1)]
      exact mz_ret rfl
    refine mz_go 3 (c' := (61, [some (.ref 65), some (.int (nI J)), some (.int xb), some (.int s), some (.int 1), some (.int (-xb))], [.int 2, .int (nI J), .ref 65, .int (w 4 J), .ref 65], mz_set (mz_set (mz_set b 65 r65) 70 r70) 71 r71)) rfl ?_
    refine mz_do (R := mz_r133) (as := [.ref 65, .int (nI J), .int 2]) (rest := [.int (w 4 J), .ref 65]) (r1 := some (.int (w 5 J))) (m1 := mz_set (mz_set (mz_set b 65 r65) 70 r70) 71 r71) rfl ⟨?_, rfl⟩ ?_
    · refine mz_go 9 (c' := (12, [some (.ref 65), some (.int (nI J)), some (.int 2)], [.int ((30 + (4 * (nI J))) + 2), .ref 66], mz_set (mz_set (mz_set b 65 r65) 70 r70) 71 r71)) rfl ?_
      refine mz_arr (c' := (13, [some (.ref 65), some (.int (nI J)), some (.int 2)], [.int (b 66 (((30 + (4 * (nI J))) + 2).toNatClampNeg))], mz_set (mz_set (mz_set b 65 r65) 70 r70) 71 r71)) rfl (show mz_in ((30 + (4 * (nI J))) + 2) 650 = true from sm_inN (sm_addN (sm_addN rfl (sm_mulN rfl rfl)) rfl) (show ((30 + (4 * J)) + 2) < 650 by omega) (by decide)) ?_
      rw [show ((30 + (4 * (nI J))) + 2 : Int32).toNatClampNeg = ((30 + (4 * J)) + 2) from sm_clN (sm_addN (sm_addN rfl (sm_mulN rfl rfl)) rfl) (show ((30 + (4 * J)) + 2) < 2 ^ 31 by omega)]
      rw [(show b 66 ((30 + (4 * J)) + 2) = w 5 J from (hr2.2.1 J (by omega)).2.2.1)]
      exact mz_ret rfl
    refine mz_go 10 (c' := (88, [some (.ref 65), some (.int (nI J)), some (.int xb), some (.int s), some (.int 1), some (.int (-xb))], [.int 0, .int (-xb), .int (w 5 J), .int (w 4 J), .ref 65], mz_set (mz_set (mz_set b 65 r65) 70 r70) 71 r71)) rfl ?_
    refine mz_do (R := mz_r144) (as := [.ref 65, .int (w 4 J), .int (w 5 J), .int (-xb), .int 0]) (rest := []) (r1 := none) (m1 := mz_up (mz_up (mz_up (mz_up (mz_up (mz_set (mz_set (mz_set b 65 r65) 70 r70) 71 r71) 65 4 (16 * (w 4 J))) 65 5 (16 * (w 5 J))) 65 6 (-xb)) 65 7 0) 65 8 0) rfl ⟨?_, rfl⟩ ?_
    · refine mz_go 19 (c' := (32, [some (.ref 65), some (.int (w 4 J)), some (.int (w 5 J)), some (.int (-xb)), some (.int 0)], [], mz_up (mz_up (mz_up (mz_up (mz_up (mz_set (mz_set (mz_set b 65 r65) 70 r70) 71 r71) 65 4 (16 * (w 4 J))) 65 5 (16 * (w 5 J))) 65 6 (-xb)) 65 7 0) 65 8 0)) rfl ?_
      exact mz_ret rfl
    refine mz_go 3 (c' := (94, [some (.ref 65), some (.int (nI J)), some (.int xb), some (.int s), some (.int 1), some (.int (-xb))], [.ref 65, .ref 65, .int s], mz_up (mz_up (mz_up (mz_up (mz_up (mz_set (mz_set (mz_set b 65 r65) 70 r70) 71 r71) 65 4 (16 * (w 4 J))) 65 5 (16 * (w 5 J))) 65 6 (-xb)) 65 7 0) 65 8 0)) rfl ?_
    refine mz_do (R := mz_r156) (as := [.ref 65]) (rest := [.ref 65, .int s]) (r1 := some (.int (w 7 5))) (m1 := mz_up (mz_up (mz_up (mz_up (mz_up (mz_set (mz_set (mz_set b 65 r65) 70 r70) 71 r71) 65 4 (16 * (w 4 J))) 65 5 (16 * (w 5 J))) 65 6 (-xb)) 65 7 0) 65 8 0) rfl ⟨?_, rfl⟩ ?_
    · refine mz_go 4 (c' := (7, [some (.ref 65)], [.int (b 66 15)], mz_up (mz_up (mz_up (mz_up (mz_up (mz_set (mz_set (mz_set b 65 r65) 70 r70) 71 r71) 65 4 (16 * (w 4 J))) 65 5 (16 * (w 5 J))) 65 6 (-xb)) 65 7 0) 65 8 0)) rfl ?_
      rw [h6615]
      exact mz_ret rfl
    refine mz_do (R := mz_r154) (as := [.ref 65, .int (w 7 5)]) (rest := [.int s]) (r1 := some (.int (sm_end w (w 7 5) (w 4 J) (w 5 J) (-xb) 0))) (m1 := mz_set (mz_set (mz_set (mz_up (mz_up (mz_up (mz_up (mz_up (mz_set (mz_set (mz_set b 65 r65) 70 r70) 71 r71) 65 4 (16 * (w 4 J))) 65 5 (16 * (w 5 J))) 65 6 (-xb)) 65 7 0) 65 8 0) 65 re1) 70 fe1) 71 ge1) rfl (Ee1.deep (by decide)) ?_
    refine mz_go 2 (c' := (if (sm_end w (w 7 5) (w 4 J) (w 5 J) (-xb) 0) = (nI J) then 104 else 108, [some (.ref 65), some (.int (nI J)), some (.int xb), some (.int s), some (.int 1), some (.int (-xb))], [.int s], mz_set (mz_set (mz_set (mz_up (mz_up (mz_up (mz_up (mz_up (mz_set (mz_set (mz_set b 65 r65) 70 r70) 71 r71) 65 4 (16 * (w 4 J))) 65 5 (16 * (w 5 J))) 65 6 (-xb)) 65 7 0) 65 8 0) 65 re1) 70 fe1) 71 ge1)) rfl ?_
    refine mz_ifF q1 ?_
    refine mz_go 5 (c' := (30, [some (.ref 65), some (.int (nI J)), some (.int xb), some (.int (s + 0)), some (.int 2), some (.int (-xb))], [], mz_set (mz_set (mz_set (mz_up (mz_up (mz_up (mz_up (mz_up (mz_set (mz_set (mz_set b 65 r65) 70 r70) 71 r71) 65 4 (16 * (w 4 J))) 65 5 (16 * (w 5 J))) 65 6 (-xb)) 65 7 0) 65 8 0) 65 re1) 70 fe1) 71 ge1)) rfl ?_
    exact hr
set_option maxHeartbeats 4000000 in
set_option maxRecDepth 100000 in
theorem vh_r2 {w b : mz_M} {N : Nat} (hw : sm_W w N) (hN : N ≤ 6) (hr5 : w 7 5 = 1 ∨ w 7 5 = 2) (hr80 : sm_N 80 (w 7 2)) (hr2 : sm_HR w (b 66)) (h6615 : b 66 15 = w 7 5) {J : Nat} (hJ : J < N) {xb : Int32} : ∀ (s : Int32) (o5 : Option Value) (r65 r70 r71 : Nat → Int32), (∀ k, k < 4 ∨ 8 < k → r65 k = b 65 k) → ∃ (p5 : Option Value), ∃ (s65 : Nat → Int32), ∃ (s70 : Nat → Int32), ∃ (s71 : Nat → Int32), (∀ k, k < 4 ∨ 8 < k → s65 k = b 65 k) ∧ ∀ r, mz_Ex 100 mz_k182 (30, [some (.ref 65), some (.int (nI J)), some (.int xb), some (.int (s + vh_h (sm_end w (w 7 5) (w 4 J) (w 5 J) 0 xb) (nI J))), some (.int 3), p5], [], mz_set (mz_set (mz_set b 65 s65) 70 s70) 71 s71) r → mz_Ex 100 mz_k182 (30, [some (.ref 65), some (.int (nI J)), some (.int xb), some (.int s), some (.int 2), o5], [], mz_set (mz_set (mz_set b 65 r65) 70 r70) 71 r71) r := by
  have hw2 := hw
  obtain ⟨-, -, hpb, -, -⟩ := hw2
  intro s o5 r65 r70 r71 hkr
  obtain ⟨re1, fe1, ge1, le1, ke1, Ee1⟩ := ct_end (w := w) (m := mz_up (mz_up (mz_up (mz_up (mz_up (mz_set (mz_set (mz_set b 65 r65) 70 r70) 71 r71) 65 4 (16 * (w 4 J))) 65 5 (16 * (w 5 J))) 65 6 0) 65 7 xb) 65 8 0) hw hr2 (hr5.imp id Or.inl) hr80 (hpb J (by omega)).2.1 (hpb J (by omega)).2.2.1 (show sm_like (fun k => (mz_up (mz_up (mz_up (mz_up (mz_up (mz_set (mz_set (mz_set b 65 r65) 70 r70) 71 r71) 65 4 (16 * (w 4 J))) 65 5 (16 * (w 5 J))) 65 6 0) 65 7 xb) 65 8 0) 65 (4 + k)) (sm_go (w 4 J) (w 5 J) 0 xb) from ⟨rfl, rfl, rfl, rfl, rfl⟩)
  by_cases q1 : (sm_end w (w 7 5) (w 4 J) (w 5 J) 0 xb) = (nI J)
  · have hm : mz_set (mz_set (mz_set (mz_up (mz_up (mz_up (mz_up (mz_up (mz_set (mz_set (mz_set b 65 r65) 70 r70) 71 r71) 65 4 (16 * (w 4 J))) 65 5 (16 * (w 5 J))) 65 6 0) 65 7 xb) 65 8 0) 65 re1) 70 fe1) 71 ge1 = mz_set (mz_set (mz_set b 65 ((mz_set (mz_set (mz_set (mz_up (mz_up (mz_up (mz_up (mz_up (mz_set (mz_set (mz_set b 65 r65) 70 r70) 71 r71) 65 4 (16 * (w 4 J))) 65 5 (16 * (w 5 J))) 65 6 0) 65 7 xb) 65 8 0) 65 re1) 70 fe1) 71 ge1) 65)) 70 ((mz_set (mz_set (mz_set (mz_up (mz_up (mz_up (mz_up (mz_up (mz_set (mz_set (mz_set b 65 r65) 70 r70) 71 r71) 65 4 (16 * (w 4 J))) 65 5 (16 * (w 5 J))) 65 6 0) 65 7 xb) 65 8 0) 65 re1) 70 fe1) 71 ge1) 70)) 71 ((mz_set (mz_set (mz_set (mz_up (mz_up (mz_up (mz_up (mz_up (mz_set (mz_set (mz_set b 65 r65) 70 r70) 71 r71) 65 4 (16 * (w 4 J))) 65 5 (16 * (w 5 J))) 65 6 0) 65 7 xb) 65 8 0) 65 re1) 70 fe1) 71 ge1) 71) := sm_of3 (fun i h1 h2 h3 => by simp only [mz_set_ne h1, mz_set_ne h2, mz_set_ne h3, mz_up_ne h1])
    refine ⟨(some (.int xb)), ((mz_set (mz_set (mz_set (mz_up (mz_up (mz_up (mz_up (mz_up (mz_set (mz_set (mz_set b 65 r65) 70 r70) 71 r71) 65 4 (16 * (w 4 J))) 65 5 (16 * (w 5 J))) 65 6 0) 65 7 xb) 65 8 0) 65 re1) 70 fe1) 71 ge1) 65), ((mz_set (mz_set (mz_set (mz_up (mz_up (mz_up (mz_up (mz_up (mz_set (mz_set (mz_set b 65 r65) 70 r70) 71 r71) 65 4 (16 * (w 4 J))) 65 5 (16 * (w 5 J))) 65 6 0) 65 7 xb) 65 8 0) 65 re1) 70 fe1) 71 ge1) 70), ((mz_set (mz_set (mz_set (mz_up (mz_up (mz_up (mz_up (mz_up (mz_set (mz_set (mz_set b 65 r65) 70 r70) 71 r71) 65 4 (16 * (w 4 J))) 65 5 (16 * (w 5 J))) 65 6 0) 65 7 xb) 65 8 0) 65 re1) 70 fe1) 71 ge1) 71), (fun k hk => ((ke1 k hk).trans (by rw [mz_up_eq, if_neg (by omega), mz_up_eq, if_neg (by omega), mz_up_eq, if_neg (by omega), mz_up_eq, if_neg (by omega), mz_up_eq, if_neg (by omega)]; exact rfl)).trans (hkr k hk)), fun r hr => ?_⟩
    rw [show s + vh_h (sm_end w (w 7 5) (w 4 J) (w 5 J) 0 xb) (nI J) = s + 1 from vh_a1 q1] at hr
    rw [← hm] at hr
    refine mz_go 14 (c' := (55, [some (.ref 65), some (.int (nI J)), some (.int xb), some (.int s), some (.int 2), some (.int xb)], [.int 1, .int (nI J), .ref 65, .ref 65], mz_set (mz_set (mz_set b 65 r65) 70 r70) 71 r71)) rfl ?_
    refine mz_do (R := mz_r133) (as := [.ref 65, .int (nI J), .int 1]) (rest := [.ref 65]) (r1 := some (.int (w 4 J))) (m1 := mz_set (mz_set (mz_set b 65 r65) 70 r70) 71 r71) rfl ⟨?_, rfl⟩ ?_
    · refine mz_go 9 (c' := (12, [some (.ref 65), some (.int (nI J)), some (.int 1)], [.int ((30 + (4 * (nI J))) + 1), .ref 66], mz_set (mz_set (mz_set b 65 r65) 70 r70) 71 r71)) rfl ?_
      refine mz_arr (c' := (13, [some (.ref 65), some (.int (nI J)), some (.int 1)], [.int (b 66 (((30 + (4 * (nI J))) + 1).toNatClampNeg))], mz_set (mz_set (mz_set b 65 r65) 70 r70) 71 r71)) rfl (show mz_in ((30 + (4 * (nI J))) + 1) 650 = true from sm_inN (sm_addN (sm_addN rfl (sm_mulN rfl rfl)) rfl) (show ((30 + (4 * J)) + 1) < 650 by omega) (by decide)) ?_
      rw [show ((30 + (4 * (nI J))) + 1 : Int32).toNatClampNeg = ((30 + (4 * J)) + 1) from sm_clN (sm_addN (sm_addN rfl (sm_mulN rfl rfl)) rfl) (show ((30 + (4 * J)) + 1) < 2 ^ 31 by omega)]
      rw [(show b 66 ((30 + (4 * J)) + 1) = w 4 J from (hr2.2.1 J (by omega)).2.1)]
      exact mz_ret rfl
    refine mz_go 3 (c' := (61, [some (.ref 65), some (.int (nI J)), some (.int xb), some (.int s), some (.int 2), some (.int xb)], [.int 2, .int (nI J), .ref 65, .int (w 4 J), .ref 65], mz_set (mz_set (mz_set b 65 r65) 70 r70) 71 r71)) rfl ?_
    refine mz_do (R := mz_r133) (as := [.ref 65, .int (nI J), .int 2]) (rest := [.int (w 4 J), .ref 65]) (r1 := some (.int (w 5 J))) (m1 := mz_set (mz_set (mz_set b 65 r65) 70 r70) 71 r71) rfl ⟨?_, rfl⟩ ?_
    · refine mz_go 9 (c' := (12, [some (.ref 65), some (.int (nI J)), some (.int 2)], [.int ((30 + (4 * (nI J))) + 2), .ref 66], mz_set (mz_set (mz_set b 65 r65) 70 r70) 71 r71)) rfl ?_
      refine mz_arr (c' := (13, [some (.ref 65), some (.int (nI J)), some (.int 2)], [.int (b 66 (((30 + (4 * (nI J))) + 2).toNatClampNeg))], mz_set (mz_set (mz_set b 65 r65) 70 r70) 71 r71)) rfl (show mz_in ((30 + (4 * (nI J))) + 2) 650 = true from sm_inN (sm_addN (sm_addN rfl (sm_mulN rfl rfl)) rfl) (show ((30 + (4 * J)) + 2) < 650 by omega) (by decide)) ?_
      rw [show ((30 + (4 * (nI J))) + 2 : Int32).toNatClampNeg = ((30 + (4 * J)) + 2) from sm_clN (sm_addN (sm_addN rfl (sm_mulN rfl rfl)) rfl) (show ((30 + (4 * J)) + 2) < 2 ^ 31 by omega)]
      rw [(show b 66 ((30 + (4 * J)) + 2) = w 5 J from (hr2.2.1 J (by omega)).2.2.1)]
      exact mz_ret rfl
    refine mz_go 8 (c' := (88, [some (.ref 65), some (.int (nI J)), some (.int xb), some (.int s), some (.int 2), some (.int xb)], [.int xb, .int 0, .int (w 5 J), .int (w 4 J), .ref 65], mz_set (mz_set (mz_set b 65 r65) 70 r70) 71 r71)) rfl ?_
    refine mz_do (R := mz_r144) (as := [.ref 65, .int (w 4 J), .int (w 5 J), .int 0, .int xb]) (rest := []) (r1 := none) (m1 := mz_up (mz_up (mz_up (mz_up (mz_up (mz_set (mz_set (mz_set b 65 r65) 70 r70) 71 r71) 65 4 (16 * (w 4 J))) 65 5 (16 * (w 5 J))) 65 6 0) 65 7 xb) 65 8 0) rfl ⟨?_, rfl⟩ ?_
    · refine mz_go 19 (c' := (32, [some (.ref 65), some (.int (w 4 J)), some (.int (w 5 J)), some (.int 0), some (.int xb)], [], mz_up (mz_up (mz_up (mz_up (mz_up (mz_set (mz_set (mz_set b 65 r65) 70 r70) 71 r71) 65 4 (16 * (w 4 J))) 65 5 (16 * (w 5 J))) 65 6 0) 65 7 xb) 65 8 0)) rfl ?_
      exact mz_ret rfl
    refine mz_go 3 (c' := (94, [some (.ref 65), some (.int (nI J)), some (.int xb), some (.int s), some (.int 2), some (.int xb)], [.ref 65, .ref 65, .int s], mz_up (mz_up (mz_up (mz_up (mz_up (mz_set (mz_set (mz_set b 65 r65) 70 r70) 71 r71) 65 4 (16 * (w 4 J))) 65 5 (16 * (w 5 J))) 65 6 0) 65 7 xb) 65 8 0)) rfl ?_
    refine mz_do (R := mz_r156) (as := [.ref 65]) (rest := [.ref 65, .int s]) (r1 := some (.int (w 7 5))) (m1 := mz_up (mz_up (mz_up (mz_up (mz_up (mz_set (mz_set (mz_set b 65 r65) 70 r70) 71 r71) 65 4 (16 * (w 4 J))) 65 5 (16 * (w 5 J))) 65 6 0) 65 7 xb) 65 8 0) rfl ⟨?_, rfl⟩ ?_
    · refine mz_go 4 (c' := (7, [some (.ref 65)], [.int (b 66 15)], mz_up (mz_up (mz_up (mz_up (mz_up (mz_set (mz_set (mz_set b 65 r65) 70 r70) 71 r71) 65 4 (16 * (w 4 J))) 65 5 (16 * (w 5 J))) 65 6 0) 65 7 xb) 65 8 0)) rfl ?_
      rw [h6615]
      exact mz_ret rfl
    refine mz_do (R := mz_r154) (as := [.ref 65, .int (w 7 5)]) (rest := [.int s]) (r1 := some (.int (sm_end w (w 7 5) (w 4 J) (w 5 J) 0 xb))) (m1 := mz_set (mz_set (mz_set (mz_up (mz_up (mz_up (mz_up (mz_up (mz_set (mz_set (mz_set b 65 r65) 70 r70) 71 r71) 65 4 (16 * (w 4 J))) 65 5 (16 * (w 5 J))) 65 6 0) 65 7 xb) 65 8 0) 65 re1) 70 fe1) 71 ge1) rfl (Ee1.deep (by decide)) ?_
    refine mz_go 2 (c' := (if (sm_end w (w 7 5) (w 4 J) (w 5 J) 0 xb) = (nI J) then 104 else 108, [some (.ref 65), some (.int (nI J)), some (.int xb), some (.int s), some (.int 2), some (.int xb)], [.int s], mz_set (mz_set (mz_set (mz_up (mz_up (mz_up (mz_up (mz_up (mz_set (mz_set (mz_set b 65 r65) 70 r70) 71 r71) 65 4 (16 * (w 4 J))) 65 5 (16 * (w 5 J))) 65 6 0) 65 7 xb) 65 8 0) 65 re1) 70 fe1) 71 ge1)) rfl ?_
    refine mz_ifT q1 ?_
    refine mz_go 6 (c' := (30, [some (.ref 65), some (.int (nI J)), some (.int xb), some (.int (s + 1)), some (.int 3), some (.int xb)], [], mz_set (mz_set (mz_set (mz_up (mz_up (mz_up (mz_up (mz_up (mz_set (mz_set (mz_set b 65 r65) 70 r70) 71 r71) 65 4 (16 * (w 4 J))) 65 5 (16 * (w 5 J))) 65 6 0) 65 7 xb) 65 8 0) 65 re1) 70 fe1) 71 ge1)) rfl ?_
    exact hr
  · have hm : mz_set (mz_set (mz_set (mz_up (mz_up (mz_up (mz_up (mz_up (mz_set (mz_set (mz_set b 65 r65) 70 r70) 71 r71) 65 4 (16 * (w 4 J))) 65 5 (16 * (w 5 J))) 65 6 0) 65 7 xb) 65 8 0) 65 re1) 70 fe1) 71 ge1 = mz_set (mz_set (mz_set b 65 ((mz_set (mz_set (mz_set (mz_up (mz_up (mz_up (mz_up (mz_up (mz_set (mz_set (mz_set b 65 r65) 70 r70) 71 r71) 65 4 (16 * (w 4 J))) 65 5 (16 * (w 5 J))) 65 6 0) 65 7 xb) 65 8 0) 65 re1) 70 fe1) 71 ge1) 65)) 70 ((mz_set (mz_set (mz_set (mz_up (mz_up (mz_up (mz_up (mz_up (mz_set (mz_set (mz_set b 65 r65) 70 r70) 71 r71) 65 4 (16 * (w 4 J))) 65 5 (16 * (w 5 J))) 65 6 0) 65 7 xb) 65 8 0) 65 re1) 70 fe1) 71 ge1) 70)) 71 ((mz_set (mz_set (mz_set (mz_up (mz_up (mz_up (mz_up (mz_up (mz_set (mz_set (mz_set b 65 r65) 70 r70) 71 r71) 65 4 (16 * (w 4 J))) 65 5 (16 * (w 5 J))) 65 6 0) 65 7 xb) 65 8 0) 65 re1) 70 fe1) 71 ge1) 71) := sm_of3 (fun i h1 h2 h3 => by simp only [mz_set_ne h1, mz_set_ne h2, mz_set_ne h3, mz_up_ne h1])
    refine ⟨(some (.int xb)), ((mz_set (mz_set (mz_set (mz_up (mz_up (mz_up (mz_up (mz_up (mz_set (mz_set (mz_set b 65 r65) 70 r70) 71 r71) 65 4 (16 * (w 4 J))) 65 5 (16 * (w 5 J))) 65 6 0) 65 7 xb) 65 8 0) 65 re1) 70 fe1) 71 ge1) 65), ((mz_set (mz_set (mz_set (mz_up (mz_up (mz_up (mz_up (mz_up (mz_set (mz_set (mz_set b 65 r65) 70 r70) 71 r71) 65 4 (16 * (w 4 J))) 65 5 (16 * (w 5 J))) 65 6 0) 65 7 xb) 65 8 0) 65 re1) 70 fe1) 71 ge1) 70), ((mz_set (mz_set (mz_set (mz_up (mz_up (mz_up (mz_up (mz_up (mz_set (mz_set (mz_set b 65 r65) 70 r70) 71 r71) 65 4 (16 * (w 4 J))) 65 5 (16 * (w 5 J))) 65 6 0) 65 7 xb) 65 8 0) 65 re1) 70 fe1) 71 ge1) 71), (fun k hk => ((ke1 k hk).trans (by rw [mz_up_eq, if_neg (by omega), mz_up_eq, if_neg (by omega), mz_up_eq, if_neg (by omega), mz_up_eq, if_neg (by omega), mz_up_eq, if_neg (by omega)]; exact rfl)).trans (hkr k hk)), fun r hr => ?_⟩
    rw [show s + vh_h (sm_end w (w 7 5) (w 4 J) (w 5 J) 0 xb) (nI J) = s + 0 from vh_a0 q1] at hr
    rw [← hm] at hr
    refine mz_go 14 (c' := (55, [some (.ref 65), some (.int (nI J)), some (.int xb), some (.int s), some (.int 2), some (.int xb)], [.int 1, .int (nI J), .ref 65, .ref 65], mz_set (mz_set (mz_set b 65 r65) 70 r70) 71 r71)) rfl ?_
    refine mz_do (R := mz_r133) (as := [.ref 65, .int (nI J), .int 1]) (rest := [.ref 65]) (r1 := some (.int (w 4 J))) (m1 := mz_set (mz_set (mz_set b 65 r65) 70 r70) 71 r71) rfl ⟨?_, rfl⟩ ?_
    · refine mz_go 9 (c' := (12, [some (.ref 65), some (.int (nI J)), some (.int 1)], [.int ((30 + (4 * (nI J))) + 1), .ref 66], mz_set (mz_set (mz_set b 65 r65) 70 r70) 71 r71)) rfl ?_
      refine mz_arr (c' := (13, [some (.ref 65), some (.int (nI J)), some (.int 1)], [.int (b 66 (((30 + (4 * (nI J))) + 1).toNatClampNeg))], mz_set (mz_set (mz_set b 65 r65) 70 r70) 71 r71)) rfl (show mz_in ((30 + (4 * (nI J))) + 1) 650 = true from sm_inN (sm_addN (sm_addN rfl (sm_mulN rfl rfl)) rfl) (show ((30 + (4 * J)) + 1) < 650 by omega) (by decide)) ?_
      rw [show ((30 + (4 * (nI J))) + 1 : Int32).toNatClampNeg = ((30 + (4 * J)) + 1) from sm_clN (sm_addN (sm_addN rfl (sm_mulN rfl rfl)) rfl) (show ((30 + (4 * J)) + 1) < 2 ^ 31 by omega)]
      rw [(show b 66 ((30 + (4 * J)) + 1) = w 4 J from (hr2.2.1 J (by omega)).2.1)]
      exact mz_ret rfl
    refine mz_go 3 (c' := (61, [some (.ref 65), some (.int (nI J)), some (.int xb), some (.int s), some (.int 2), some (.int xb)], [.int 2, .int (nI J), .ref 65, .int (w 4 J), .ref 65], mz_set (mz_set (mz_set b 65 r65) 70 r70) 71 r71)) rfl ?_
    refine mz_do (R := mz_r133) (as := [.ref 65, .int (nI J), .int 2]) (rest := [.int (w 4 J), .ref 65]) (r1 := some (.int (w 5 J))) (m1 := mz_set (mz_set (mz_set b 65 r65) 70 r70) 71 r71) rfl ⟨?_, rfl⟩ ?_
    · refine mz_go 9 (c' := (12, [some (.ref 65), some (.int (nI J)), some (.int 2)], [.int ((30 + (4 * (nI J))) + 2), .ref 66], mz_set (mz_set (mz_set b 65 r65) 70 r70) 71 r71)) rfl ?_
      refine mz_arr (c' := (13, [some (.ref 65), some (.int (nI J)), some (.int 2)], [.int (b 66 (((30 + (4 * (nI J))) + 2).toNatClampNeg))], mz_set (mz_set (mz_set b 65 r65) 70 r70) 71 r71)) rfl (show mz_in ((30 + (4 * (nI J))) + 2) 650 = true from sm_inN (sm_addN (sm_addN rfl (sm_mulN rfl rfl)) rfl) (show ((30 + (4 * J)) + 2) < 650 by omega) (by decide)) ?_
      rw [show ((30 + (4 * (nI J))) + 2 : Int32).toNatClampNeg = ((30 + (4 * J)) + 2) from sm_clN (sm_addN (sm_addN rfl (sm_mulN rfl rfl)) rfl) (show ((30 + (4 * J)) + 2) < 2 ^ 31 by omega)]
      rw [(show b 66 ((30 + (4 * J)) + 2) = w 5 J from (hr2.2.1 J (by omega)).2.2.1)]
      exact mz_ret rfl
    refine mz_go 8 (c' := (88, [some (.ref 65), some (.int (nI J)), some (.int xb), some (.int s), some (.int 2), some (.int xb)], [.int xb, .int 0, .int (w 5 J), .int (w 4 J), .ref 65], mz_set (mz_set (mz_set b 65 r65) 70 r70) 71 r71)) rfl ?_
    refine mz_do (R := mz_r144) (as := [.ref 65, .int (w 4 J), .int (w 5 J), .int 0, .int xb]) (rest := []) (r1 := none) (m1 := mz_up (mz_up (mz_up (mz_up (mz_up (mz_set (mz_set (mz_set b 65 r65) 70 r70) 71 r71) 65 4 (16 * (w 4 J))) 65 5 (16 * (w 5 J))) 65 6 0) 65 7 xb) 65 8 0) rfl ⟨?_, rfl⟩ ?_
    · refine mz_go 19 (c' := (32, [some (.ref 65), some (.int (w 4 J)), some (.int (w 5 J)), some (.int 0), some (.int xb)], [], mz_up (mz_up (mz_up (mz_up (mz_up (mz_set (mz_set (mz_set b 65 r65) 70 r70) 71 r71) 65 4 (16 * (w 4 J))) 65 5 (16 * (w 5 J))) 65 6 0) 65 7 xb) 65 8 0)) rfl ?_
      exact mz_ret rfl
    refine mz_go 3 (c' := (94, [some (.ref 65), some (.int (nI J)), some (.int xb), some (.int s), some (.int 2), some (.int xb)], [.ref 65, .ref 65, .int s], mz_up (mz_up (mz_up (mz_up (mz_up (mz_set (mz_set (mz_set b 65 r65) 70 r70) 71 r71) 65 4 (16 * (w 4 J))) 65 5 (16 * (w 5 J))) 65 6 0) 65 7 xb) 65 8 0)) rfl ?_
    refine mz_do (R := mz_r156) (as := [.ref 65]) (rest := [.ref 65, .int s]) (r1 := some (.int (w 7 5))) (m1 := mz_up (mz_up (mz_up (mz_up (mz_up (mz_set (mz_set (mz_set b 65 r65) 70 r70) 71 r71) 65 4 (16 * (w 4 J))) 65 5 (16 * (w 5 J))) 65 6 0) 65 7 xb) 65 8 0) rfl ⟨?_, rfl⟩ ?_
    · refine mz_go 4 (c' := (7, [some (.ref 65)], [.int (b 66 15)], mz_up (mz_up (mz_up (mz_up (mz_up (mz_set (mz_set (mz_set b 65 r65) 70 r70) 71 r71) 65 4 (16 * (w 4 J))) 65 5 (16 * (w 5 J))) 65 6 0) 65 7 xb) 65 8 0)) rfl ?_
      rw [h6615]
      exact mz_ret rfl
    refine mz_do (R := mz_r154) (as := [.ref 65, .int (w 7 5)]) (rest := [.int s]) (r1 := some (.int (sm_end w (w 7 5) (w 4 J) (w 5 J) 0 xb))) (m1 := mz_set (mz_set (mz_set (mz_up (mz_up (mz_up (mz_up (mz_up (mz_set (mz_set (mz_set b 65 r65) 70 r70) 71 r71) 65 4 (16 * (w 4 J))) 65 5 (16 * (w 5 J))) 65 6 0) 65 7 xb) 65 8 0) 65 re1) 70 fe1) 71 ge1) rfl (Ee1.deep (by decide)) ?_
    refine mz_go 2 (c' := (if (sm_end w (w 7 5) (w 4 J) (w 5 J) 0 xb) = (nI J) then 104 else 108, [some (.ref 65), some (.int (nI J)), some (.int xb), some (.int s), some (.int 2), some (.int xb)], [.int s], mz_set (mz_set (mz_set (mz_up (mz_up (mz_up (mz_up (mz_up (mz_set (mz_set (mz_set b 65 r65) 70 r70) 71 r71) 65 4 (16 * (w 4 J))) 65 5 (16 * (w 5 J))) 65 6 0) 65 7 xb) 65 8 0) 65 re1) 70 fe1) 71 ge1)) rfl ?_
    refine mz_ifF q1 ?_
    refine mz_go 5 (c' := (30, [some (.ref 65), some (.int (nI J)), some (.int xb), some (.int (s + 0)), some (.int 3), some (.int xb)], [], mz_set (mz_set (mz_set (mz_up (mz_up (mz_up (mz_up (mz_up (mz_set (mz_set (mz_set b 65 r65) 70 r70) 71 r71) 65 4 (16 * (w 4 J))) 65 5 (16 * (w 5 J))) 65 6 0) 65 7 xb) 65 8 0) 65 re1) 70 fe1) 71 ge1)) rfl ?_
    exact hr
set_option maxHeartbeats 4000000 in
set_option maxRecDepth 100000 in
theorem vh_r3 {w b : mz_M} {N : Nat} (hw : sm_W w N) (hN : N ≤ 6) (hr5 : w 7 5 = 1 ∨ w 7 5 = 2) (hr80 : sm_N 80 (w 7 2)) (hr2 : sm_HR w (b 66)) (h6615 : b 66 15 = w 7 5) {J : Nat} (hJ : J < N) {xb : Int32} : ∀ (s : Int32) (o5 : Option Value) (r65 r70 r71 : Nat → Int32), (∀ k, k < 4 ∨ 8 < k → r65 k = b 65 k) → ∃ (p5 : Option Value), ∃ (s65 : Nat → Int32), ∃ (s70 : Nat → Int32), ∃ (s71 : Nat → Int32), (∀ k, k < 4 ∨ 8 < k → s65 k = b 65 k) ∧ ∀ r, mz_Ex 100 mz_k182 (30, [some (.ref 65), some (.int (nI J)), some (.int xb), some (.int (s + vh_h (sm_end w (w 7 5) (w 4 J) (w 5 J) 0 (-xb)) (nI J))), some (.int 4), p5], [], mz_set (mz_set (mz_set b 65 s65) 70 s70) 71 s71) r → mz_Ex 100 mz_k182 (30, [some (.ref 65), some (.int (nI J)), some (.int xb), some (.int s), some (.int 3), o5], [], mz_set (mz_set (mz_set b 65 r65) 70 r70) 71 r71) r := by
  have hw2 := hw
  obtain ⟨-, -, hpb, -, -⟩ := hw2
  intro s o5 r65 r70 r71 hkr
  obtain ⟨re1, fe1, ge1, le1, ke1, Ee1⟩ := ct_end (w := w) (m := mz_up (mz_up (mz_up (mz_up (mz_up (mz_set (mz_set (mz_set b 65 r65) 70 r70) 71 r71) 65 4 (16 * (w 4 J))) 65 5 (16 * (w 5 J))) 65 6 0) 65 7 (-xb)) 65 8 0) hw hr2 (hr5.imp id Or.inl) hr80 (hpb J (by omega)).2.1 (hpb J (by omega)).2.2.1 (show sm_like (fun k => (mz_up (mz_up (mz_up (mz_up (mz_up (mz_set (mz_set (mz_set b 65 r65) 70 r70) 71 r71) 65 4 (16 * (w 4 J))) 65 5 (16 * (w 5 J))) 65 6 0) 65 7 (-xb)) 65 8 0) 65 (4 + k)) (sm_go (w 4 J) (w 5 J) 0 (-xb)) from ⟨rfl, rfl, rfl, rfl, rfl⟩)
  by_cases q1 : (sm_end w (w 7 5) (w 4 J) (w 5 J) 0 (-xb)) = (nI J)
  · have hm : mz_set (mz_set (mz_set (mz_up (mz_up (mz_up (mz_up (mz_up (mz_set (mz_set (mz_set b 65 r65) 70 r70) 71 r71) 65 4 (16 * (w 4 J))) 65 5 (16 * (w 5 J))) 65 6 0) 65 7 (-xb)) 65 8 0) 65 re1) 70 fe1) 71 ge1 = mz_set (mz_set (mz_set b 65 ((mz_set (mz_set (mz_set (mz_up (mz_up (mz_up (mz_up (mz_up (mz_set (mz_set (mz_set b 65 r65) 70 r70) 71 r71) 65 4 (16 * (w 4 J))) 65 5 (16 * (w 5 J))) 65 6 0) 65 7 (-xb)) 65 8 0) 65 re1) 70 fe1) 71 ge1) 65)) 70 ((mz_set (mz_set (mz_set (mz_up (mz_up (mz_up (mz_up (mz_up (mz_set (mz_set (mz_set b 65 r65) 70 r70) 71 r71) 65 4 (16 * (w 4 J))) 65 5 (16 * (w 5 J))) 65 6 0) 65 7 (-xb)) 65 8 0) 65 re1) 70 fe1) 71 ge1) 70)) 71 ((mz_set (mz_set (mz_set (mz_up (mz_up (mz_up (mz_up (mz_up (mz_set (mz_set (mz_set b 65 r65) 70 r70) 71 r71) 65 4 (16 * (w 4 J))) 65 5 (16 * (w 5 J))) 65 6 0) 65 7 (-xb)) 65 8 0) 65 re1) 70 fe1) 71 ge1) 71) := sm_of3 (fun i h1 h2 h3 => by simp only [mz_set_ne h1, mz_set_ne h2, mz_set_ne h3, mz_up_ne h1])
    refine ⟨(some (.int (-xb))), ((mz_set (mz_set (mz_set (mz_up (mz_up (mz_up (mz_up (mz_up (mz_set (mz_set (mz_set b 65 r65) 70 r70) 71 r71) 65 4 (16 * (w 4 J))) 65 5 (16 * (w 5 J))) 65 6 0) 65 7 (-xb)) 65 8 0) 65 re1) 70 fe1) 71 ge1) 65), ((mz_set (mz_set (mz_set (mz_up (mz_up (mz_up (mz_up (mz_up (mz_set (mz_set (mz_set b 65 r65) 70 r70) 71 r71) 65 4 (16 * (w 4 J))) 65 5 (16 * (w 5 J))) 65 6 0) 65 7 (-xb)) 65 8 0) 65 re1) 70 fe1) 71 ge1) 70), ((mz_set (mz_set (mz_set (mz_up (mz_up (mz_up (mz_up (mz_up (mz_set (mz_set (mz_set b 65 r65) 70 r70) 71 r71) 65 4 (16 * (w 4 J))) 65 5 (16 * (w 5 J))) 65 6 0) 65 7 (-xb)) 65 8 0) 65 re1) 70 fe1) 71 ge1) 71), (fun k hk => ((ke1 k hk).trans (by rw [mz_up_eq, if_neg (by omega), mz_up_eq, if_neg (by omega), mz_up_eq, if_neg (by omega), mz_up_eq, if_neg (by omega), mz_up_eq, if_neg (by omega)]; exact rfl)).trans (hkr k hk)), fun r hr => ?_⟩
    rw [show s + vh_h (sm_end w (w 7 5) (w 4 J) (w 5 J) 0 (-xb)) (nI J) = s + 1 from vh_a1 q1] at hr
    rw [← hm] at hr
    refine mz_go 14 (c' := (55, [some (.ref 65), some (.int (nI J)), some (.int xb), some (.int s), some (.int 3), some (.int (-xb))], [.int 1, .int (nI J), .ref 65, .ref 65], mz_set (mz_set (mz_set b 65 r65) 70 r70) 71 r71)) rfl ?_
    refine mz_do (R := mz_r133) (as := [.ref 65, .int (nI J), .int 1]) (rest := [.ref 65]) (r1 := some (.int (w 4 J))) (m1 := mz_set (mz_set (mz_set b 65 r65) 70 r70) 71 r71) rfl ⟨?_, rfl⟩ ?_
    · refine mz_go 9 (c' := (12, [some (.ref 65), some (.int (nI J)), some (.int 1)], [.int ((30 + (4 * (nI J))) + 1), .ref 66], mz_set (mz_set (mz_set b 65 r65) 70 r70) 71 r71)) rfl ?_
      refine mz_arr (c' := (13, [some (.ref 65), some (.int (nI J)), some (.int 1)], [.int (b 66 (((30 + (4 * (nI J))) + 1).toNatClampNeg))], mz_set (mz_set (mz_set b 65 r65) 70 r70) 71 r71)) rfl (show mz_in ((30 + (4 * (nI J))) + 1) 650 = true from sm_inN (sm_addN (sm_addN rfl (sm_mulN rfl rfl)) rfl) (show ((30 + (4 * J)) + 1) < 650 by omega) (by decide)) ?_
      rw [show ((30 + (4 * (nI J))) + 1 : Int32).toNatClampNeg = ((30 + (4 * J)) + 1) from sm_clN (sm_addN (sm_addN rfl (sm_mulN rfl rfl)) rfl) (show ((30 + (4 * J)) + 1) < 2 ^ 31 by omega)]
      rw [(show b 66 ((30 + (4 * J)) + 1) = w 4 J from (hr2.2.1 J (by omega)).2.1)]
      exact mz_ret rfl
    refine mz_go 3 (c' := (61, [some (.ref 65), some (.int (nI J)), some (.int xb), some (.int s), some (.int 3), some (.int (-xb))], [.int 2, .int (nI J), .ref 65, .int (w 4 J), .ref 65], mz_set (mz_set (mz_set b 65 r65) 70 r70) 71 r71)) rfl ?_
    refine mz_do (R := mz_r133) (as := [.ref 65, .int (nI J), .int 2]) (rest := [.int (w 4 J), .ref 65]) (r1 := some (.int (w 5 J))) (m1 := mz_set (mz_set (mz_set b 65 r65) 70 r70) 71 r71) rfl ⟨?_, rfl⟩ ?_
    · refine mz_go 9 (c' := (12, [some (.ref 65), some (.int (nI J)), some (.int 2)], [.int ((30 + (4 * (nI J))) + 2), .ref 66], mz_set (mz_set (mz_set b 65 r65) 70 r70) 71 r71)) rfl ?_
      refine mz_arr (c' := (13, [some (.ref 65), some (.int (nI J)), some (.int 2)], [.int (b 66 (((30 + (4 * (nI J))) + 2).toNatClampNeg))], mz_set (mz_set (mz_set b 65 r65) 70 r70) 71 r71)) rfl (show mz_in ((30 + (4 * (nI J))) + 2) 650 = true from sm_inN (sm_addN (sm_addN rfl (sm_mulN rfl rfl)) rfl) (show ((30 + (4 * J)) + 2) < 650 by omega) (by decide)) ?_
      rw [show ((30 + (4 * (nI J))) + 2 : Int32).toNatClampNeg = ((30 + (4 * J)) + 2) from sm_clN (sm_addN (sm_addN rfl (sm_mulN rfl rfl)) rfl) (show ((30 + (4 * J)) + 2) < 2 ^ 31 by omega)]
      rw [(show b 66 ((30 + (4 * J)) + 2) = w 5 J from (hr2.2.1 J (by omega)).2.2.1)]
      exact mz_ret rfl
    refine mz_go 8 (c' := (88, [some (.ref 65), some (.int (nI J)), some (.int xb), some (.int s), some (.int 3), some (.int (-xb))], [.int (-xb), .int 0, .int (w 5 J), .int (w 4 J), .ref 65], mz_set (mz_set (mz_set b 65 r65) 70 r70) 71 r71)) rfl ?_
    refine mz_do (R := mz_r144) (as := [.ref 65, .int (w 4 J), .int (w 5 J), .int 0, .int (-xb)]) (rest := []) (r1 := none) (m1 := mz_up (mz_up (mz_up (mz_up (mz_up (mz_set (mz_set (mz_set b 65 r65) 70 r70) 71 r71) 65 4 (16 * (w 4 J))) 65 5 (16 * (w 5 J))) 65 6 0) 65 7 (-xb)) 65 8 0) rfl ⟨?_, rfl⟩ ?_
    · refine mz_go 19 (c' := (32, [some (.ref 65), some (.int (w 4 J)), some (.int (w 5 J)), some (.int 0), some (.int (-xb))], [], mz_up (mz_up (mz_up (mz_up (mz_up (mz_set (mz_set (mz_set b 65 r65) 70 r70) 71 r71) 65 4 (16 * (w 4 J))) 65 5 (16 * (w 5 J))) 65 6 0) 65 7 (-xb)) 65 8 0)) rfl ?_
      exact mz_ret rfl
    refine mz_go 3 (c' := (94, [some (.ref 65), some (.int (nI J)), some (.int xb), some (.int s), some (.int 3), some (.int (-xb))], [.ref 65, .ref 65, .int s], mz_up (mz_up (mz_up (mz_up (mz_up (mz_set (mz_set (mz_set b 65 r65) 70 r70) 71 r71) 65 4 (16 * (w 4 J))) 65 5 (16 * (w 5 J))) 65 6 0) 65 7 (-xb)) 65 8 0)) rfl ?_
    refine mz_do (R := mz_r156) (as := [.ref 65]) (rest := [.ref 65, .int s]) (r1 := some (.int (w 7 5))) (m1 := mz_up (mz_up (mz_up (mz_up (mz_up (mz_set (mz_set (mz_set b 65 r65) 70 r70) 71 r71) 65 4 (16 * (w 4 J))) 65 5 (16 * (w 5 J))) 65 6 0) 65 7 (-xb)) 65 8 0) rfl ⟨?_, rfl⟩ ?_
    · refine mz_go 4 (c' := (7, [some (.ref 65)], [.int (b 66 15)], mz_up (mz_up (mz_up (mz_up (mz_up (mz_set (mz_set (mz_set b 65 r65) 70 r70) 71 r71) 65 4 (16 * (w 4 J))) 65 5 (16 * (w 5 J))) 65 6 0) 65 7 (-xb)) 65 8 0)) rfl ?_
      rw [h6615]
      exact mz_ret rfl
    refine mz_do (R := mz_r154) (as := [.ref 65, .int (w 7 5)]) (rest := [.int s]) (r1 := some (.int (sm_end w (w 7 5) (w 4 J) (w 5 J) 0 (-xb)))) (m1 := mz_set (mz_set (mz_set (mz_up (mz_up (mz_up (mz_up (mz_up (mz_set (mz_set (mz_set b 65 r65) 70 r70) 71 r71) 65 4 (16 * (w 4 J))) 65 5 (16 * (w 5 J))) 65 6 0) 65 7 (-xb)) 65 8 0) 65 re1) 70 fe1) 71 ge1) rfl (Ee1.deep (by decide)) ?_
    refine mz_go 2 (c' := (if (sm_end w (w 7 5) (w 4 J) (w 5 J) 0 (-xb)) = (nI J) then 104 else 108, [some (.ref 65), some (.int (nI J)), some (.int xb), some (.int s), some (.int 3), some (.int (-xb))], [.int s], mz_set (mz_set (mz_set (mz_up (mz_up (mz_up (mz_up (mz_up (mz_set (mz_set (mz_set b 65 r65) 70 r70) 71 r71) 65 4 (16 * (w 4 J))) 65 5 (16 * (w 5 J))) 65 6 0) 65 7 (-xb)) 65 8 0) 65 re1) 70 fe1) 71 ge1)) rfl ?_
    refine mz_ifT q1 ?_
    refine mz_go 6 (c' := (30, [some (.ref 65), some (.int (nI J)), some (.int xb), some (.int (s + 1)), some (.int 4), some (.int (-xb))], [], mz_set (mz_set (mz_set (mz_up (mz_up (mz_up (mz_up (mz_up (mz_set (mz_set (mz_set b 65 r65) 70 r70) 71 r71) 65 4 (16 * (w 4 J))) 65 5 (16 * (w 5 J))) 65 6 0) 65 7 (-xb)) 65 8 0) 65 re1) 70 fe1) 71 ge1)) rfl ?_
    exact hr
  · have hm : mz_set (mz_set (mz_set (mz_up (mz_up (mz_up (mz_up (mz_up (mz_set (mz_set (mz_set b 65 r65) 70 r70) 71 r71) 65 4 (16 * (w 4 J))) 65 5 (16 * (w 5 J))) 65 6 0) 65 7 (-xb)) 65 8 0) 65 re1) 70 fe1) 71 ge1 = mz_set (mz_set (mz_set b 65 ((mz_set (mz_set (mz_set (mz_up (mz_up (mz_up (mz_up (mz_up (mz_set (mz_set (mz_set b 65 r65) 70 r70) 71 r71) 65 4 (16 * (w 4 J))) 65 5 (16 * (w 5 J))) 65 6 0) 65 7 (-xb)) 65 8 0) 65 re1) 70 fe1) 71 ge1) 65)) 70 ((mz_set (mz_set (mz_set (mz_up (mz_up (mz_up (mz_up (mz_up (mz_set (mz_set (mz_set b 65 r65) 70 r70) 71 r71) 65 4 (16 * (w 4 J))) 65 5 (16 * (w 5 J))) 65 6 0) 65 7 (-xb)) 65 8 0) 65 re1) 70 fe1) 71 ge1) 70)) 71 ((mz_set (mz_set (mz_set (mz_up (mz_up (mz_up (mz_up (mz_up (mz_set (mz_set (mz_set b 65 r65) 70 r70) 71 r71) 65 4 (16 * (w 4 J))) 65 5 (16 * (w 5 J))) 65 6 0) 65 7 (-xb)) 65 8 0) 65 re1) 70 fe1) 71 ge1) 71) := sm_of3 (fun i h1 h2 h3 => by simp only [mz_set_ne h1, mz_set_ne h2, mz_set_ne h3, mz_up_ne h1])
    refine ⟨(some (.int (-xb))), ((mz_set (mz_set (mz_set (mz_up (mz_up (mz_up (mz_up (mz_up (mz_set (mz_set (mz_set b 65 r65) 70 r70) 71 r71) 65 4 (16 * (w 4 J))) 65 5 (16 * (w 5 J))) 65 6 0) 65 7 (-xb)) 65 8 0) 65 re1) 70 fe1) 71 ge1) 65), ((mz_set (mz_set (mz_set (mz_up (mz_up (mz_up (mz_up (mz_up (mz_set (mz_set (mz_set b 65 r65) 70 r70) 71 r71) 65 4 (16 * (w 4 J))) 65 5 (16 * (w 5 J))) 65 6 0) 65 7 (-xb)) 65 8 0) 65 re1) 70 fe1) 71 ge1) 70), ((mz_set (mz_set (mz_set (mz_up (mz_up (mz_up (mz_up (mz_up (mz_set (mz_set (mz_set b 65 r65) 70 r70) 71 r71) 65 4 (16 * (w 4 J))) 65 5 (16 * (w 5 J))) 65 6 0) 65 7 (-xb)) 65 8 0) 65 re1) 70 fe1) 71 ge1) 71), (fun k hk => ((ke1 k hk).trans (by rw [mz_up_eq, if_neg (by omega), mz_up_eq, if_neg (by omega), mz_up_eq, if_neg (by omega), mz_up_eq, if_neg (by omega), mz_up_eq, if_neg (by omega)]; exact rfl)).trans (hkr k hk)), fun r hr => ?_⟩
    rw [show s + vh_h (sm_end w (w 7 5) (w 4 J) (w 5 J) 0 (-xb)) (nI J) = s + 0 from vh_a0 q1] at hr
    rw [← hm] at hr
    refine mz_go 14 (c' := (55, [some (.ref 65), some (.int (nI J)), some (.int xb), some (.int s), some (.int 3), some (.int (-xb))], [.int 1, .int (nI J), .ref 65, .ref 65], mz_set (mz_set (mz_set b 65 r65) 70 r70) 71 r71)) rfl ?_
    refine mz_do (R := mz_r133) (as := [.ref 65, .int (nI J), .int 1]) (rest := [.ref 65]) (r1 := some (.int (w 4 J))) (m1 := mz_set (mz_set (mz_set b 65 r65) 70 r70) 71 r71) rfl ⟨?_, rfl⟩ ?_
    · refine mz_go 9 (c' := (12, [some (.ref 65), some (.int (nI J)), some (.int 1)], [.int ((30 + (4 * (nI J))) + 1), .ref 66], mz_set (mz_set (mz_set b 65 r65) 70 r70) 71 r71)) rfl ?_
      refine mz_arr (c' := (13, [some (.ref 65), some (.int (nI J)), some (.int 1)], [.int (b 66 (((30 + (4 * (nI J))) + 1).toNatClampNeg))], mz_set (mz_set (mz_set b 65 r65) 70 r70) 71 r71)) rfl (show mz_in ((30 + (4 * (nI J))) + 1) 650 = true from sm_inN (sm_addN (sm_addN rfl (sm_mulN rfl rfl)) rfl) (show ((30 + (4 * J)) + 1) < 650 by omega) (by decide)) ?_
      rw [show ((30 + (4 * (nI J))) + 1 : Int32).toNatClampNeg = ((30 + (4 * J)) + 1) from sm_clN (sm_addN (sm_addN rfl (sm_mulN rfl rfl)) rfl) (show ((30 + (4 * J)) + 1) < 2 ^ 31 by omega)]
      rw [(show b 66 ((30 + (4 * J)) + 1) = w 4 J from (hr2.2.1 J (by omega)).2.1)]
      exact mz_ret rfl
    refine mz_go 3 (c' := (61, [some (.ref 65), some (.int (nI J)), some (.int xb), some (.int s), some (.int 3), some (.int (-xb))], [.int 2, .int (nI J), .ref 65, .int (w 4 J), .ref 65], mz_set (mz_set (mz_set b 65 r65) 70 r70) 71 r71)) rfl ?_
    refine mz_do (R := mz_r133) (as := [.ref 65, .int (nI J), .int 2]) (rest := [.int (w 4 J), .ref 65]) (r1 := some (.int (w 5 J))) (m1 := mz_set (mz_set (mz_set b 65 r65) 70 r70) 71 r71) rfl ⟨?_, rfl⟩ ?_
    · refine mz_go 9 (c' := (12, [some (.ref 65), some (.int (nI J)), some (.int 2)], [.int ((30 + (4 * (nI J))) + 2), .ref 66], mz_set (mz_set (mz_set b 65 r65) 70 r70) 71 r71)) rfl ?_
      refine mz_arr (c' := (13, [some (.ref 65), some (.int (nI J)), some (.int 2)], [.int (b 66 (((30 + (4 * (nI J))) + 2).toNatClampNeg))], mz_set (mz_set (mz_set b 65 r65) 70 r70) 71 r71)) rfl (show mz_in ((30 + (4 * (nI J))) + 2) 650 = true from sm_inN (sm_addN (sm_addN rfl (sm_mulN rfl rfl)) rfl) (show ((30 + (4 * J)) + 2) < 650 by omega) (by decide)) ?_
      rw [show ((30 + (4 * (nI J))) + 2 : Int32).toNatClampNeg = ((30 + (4 * J)) + 2) from sm_clN (sm_addN (sm_addN rfl (sm_mulN rfl rfl)) rfl) (show ((30 + (4 * J)) + 2) < 2 ^ 31 by omega)]
      rw [(show b 66 ((30 + (4 * J)) + 2) = w 5 J from (hr2.2.1 J (by omega)).2.2.1)]
      exact mz_ret rfl
    refine mz_go 8 (c' := (88, [some (.ref 65), some (.int (nI J)), some (.int xb), some (.int s), some (.int 3), some (.int (-xb))], [.int (-xb), .int 0, .int (w 5 J), .int (w 4 J), .ref 65], mz_set (mz_set (mz_set b 65 r65) 70 r70) 71 r71)) rfl ?_
    refine mz_do (R := mz_r144) (as := [.ref 65, .int (w 4 J), .int (w 5 J), .int 0, .int (-xb)]) (rest := []) (r1 := none) (m1 := mz_up (mz_up (mz_up (mz_up (mz_up (mz_set (mz_set (mz_set b 65 r65) 70 r70) 71 r71) 65 4 (16 * (w 4 J))) 65 5 (16 * (w 5 J))) 65 6 0) 65 7 (-xb)) 65 8 0) rfl ⟨?_, rfl⟩ ?_
    · refine mz_go 19 (c' := (32, [some (.ref 65), some (.int (w 4 J)), some (.int (w 5 J)), some (.int 0), some (.int (-xb))], [], mz_up (mz_up (mz_up (mz_up (mz_up (mz_set (mz_set (mz_set b 65 r65) 70 r70) 71 r71) 65 4 (16 * (w 4 J))) 65 5 (16 * (w 5 J))) 65 6 0) 65 7 (-xb)) 65 8 0)) rfl ?_
      exact mz_ret rfl
    refine mz_go 3 (c' := (94, [some (.ref 65), some (.int (nI J)), some (.int xb), some (.int s), some (.int 3), some (.int (-xb))], [.ref 65, .ref 65, .int s], mz_up (mz_up (mz_up (mz_up (mz_up (mz_set (mz_set (mz_set b 65 r65) 70 r70) 71 r71) 65 4 (16 * (w 4 J))) 65 5 (16 * (w 5 J))) 65 6 0) 65 7 (-xb)) 65 8 0)) rfl ?_
    refine mz_do (R := mz_r156) (as := [.ref 65]) (rest := [.ref 65, .int s]) (r1 := some (.int (w 7 5))) (m1 := mz_up (mz_up (mz_up (mz_up (mz_up (mz_set (mz_set (mz_set b 65 r65) 70 r70) 71 r71) 65 4 (16 * (w 4 J))) 65 5 (16 * (w 5 J))) 65 6 0) 65 7 (-xb)) 65 8 0) rfl ⟨?_, rfl⟩ ?_
    · refine mz_go 4 (c' := (7, [some (.ref 65)], [.int (b 66 15)], mz_up (mz_up (mz_up (mz_up (mz_up (mz_set (mz_set (mz_set b 65 r65) 70 r70) 71 r71) 65 4 (16 * (w 4 J))) 65 5 (16 * (w 5 J))) 65 6 0) 65 7 (-xb)) 65 8 0)) rfl ?_
      rw [h6615]
      exact mz_ret rfl
    refine mz_do (R := mz_r154) (as := [.ref 65, .int (w 7 5)]) (rest := [.int s]) (r1 := some (.int (sm_end w (w 7 5) (w 4 J) (w 5 J) 0 (-xb)))) (m1 := mz_set (mz_set (mz_set (mz_up (mz_up (mz_up (mz_up (mz_up (mz_set (mz_set (mz_set b 65 r65) 70 r70) 71 r71) 65 4 (16 * (w 4 J))) 65 5 (16 * (w 5 J))) 65 6 0) 65 7 (-xb)) 65 8 0) 65 re1) 70 fe1) 71 ge1) rfl (Ee1.deep (by decide)) ?_
    refine mz_go 2 (c' := (if (sm_end w (w 7 5) (w 4 J) (w 5 J) 0 (-xb)) = (nI J) then 104 else 108, [some (.ref 65), some (.int (nI J)), some (.int xb), some (.int s), some (.int 3), some (.int (-xb))], [.int s], mz_set (mz_set (mz_set (mz_up (mz_up (mz_up (mz_up (mz_up (mz_set (mz_set (mz_set b 65 r65) 70 r70) 71 r71) 65 4 (16 * (w 4 J))) 65 5 (16 * (w 5 J))) 65 6 0) 65 7 (-xb)) 65 8 0) 65 re1) 70 fe1) 71 ge1)) rfl ?_
    refine mz_ifF q1 ?_
    refine mz_go 5 (c' := (30, [some (.ref 65), some (.int (nI J)), some (.int xb), some (.int (s + 0)), some (.int 4), some (.int (-xb))], [], mz_set (mz_set (mz_set (mz_up (mz_up (mz_up (mz_up (mz_up (mz_set (mz_set (mz_set b 65 r65) 70 r70) 71 r71) 65 4 (16 * (w 4 J))) 65 5 (16 * (w 5 J))) 65 6 0) 65 7 (-xb)) 65 8 0) 65 re1) 70 fe1) 71 ge1)) rfl ?_
    exact hr
set_option maxHeartbeats 4000000 in
set_option maxRecDepth 100000 in
theorem sc_holds {n : Nat} (hn : n < 64) {w : mz_M} (hI : sm_I n w) (xa : Int32) (xb : Int32) : ∃ v1 v2 m1 m2, mz_Me 100 mz_r84 [.ref 0, .int xa, .int xb] w (some (.int v1)) m1 ∧ mz_Me 100 mz_r182 [.ref 65, .int xa, .int xb] m1 (some (.int v2)) m2 ∧ sm_I (n + 1) m2 ∧ v1 = v2 := by
  have hI2 := hI
  obtain ⟨hn0, ⟨-, ⟨hr80, hr5, hrr⟩, ⟨⟨TT, hTT, h81, h661⟩, htp⟩, ⟨⟨T0, hT0, hU0, hV0, -⟩, ⟨T1, hT1, hU1, hV1, -⟩, ⟨T2, hT2, hU2, hV2, -⟩⟩, ⟨hbx, hby, hbl⟩, ⟨⟨WW, HH, hWW, hHH, hWH, h202, h203, h6660, h6661⟩, h6662, h6663, h6664, hpc⟩, ⟨hth, h66160, hthr⟩, ⟨⟨AA, hAA, h111, h662⟩, h663, hwt⟩⟩, ⟨hsh, hsn⟩, ⟨hcb1, hcb2⟩, ⟨JJ, hJJ, h07, h652, hkept⟩⟩ := hI
  obtain ⟨N, hw, hr2, h660, -, -, h6615⟩ := sm_world hI2
  have hw2 := hw
  obtain ⟨hN, h4, hpb, -, -⟩ := hw2
  have hT60a := sm_T60 hV0
  have hT60b := sm_T60 hV1
  have hT60c := sm_T60 hV2
  obtain ⟨B1, hB1, e571⟩ := sm_Nof (by decide) hcb1
  obtain ⟨B2, hB2, e6519⟩ := sm_Nof (by decide) hcb2
  refine mz_two (fun _ => rfl) (fun _ => rfl) ?_
  by_cases q1 : xa < 0
  · refine mz_goP 4 (c' := (8, [some (.ref 0), some (.int xa), some (.int xb), none, none, none, none], [.int xa, .ref 2], w)) rfl ?_
    refine mz_doP (R := mz_r21) (as := [.ref 2, .int xa]) (rest := []) (r1 := some (.int 0)) (m1 := w) rfl ⟨?_, rfl⟩ ?_
    · refine mz_go 2 (c' := (if xa < 0 then 22 else 4, [some (.ref 2), some (.int xa)], [], w)) rfl ?_
      refine mz_ifT q1 ?_
      refine mz_go 1 (c' := (23, [some (.ref 2), some (.int xa)], [.int 0], w)) rfl ?_
      exact mz_ret rfl
    refine mz_goP 3 (c' := (27, [some (.ref 0), some (.int xa), some (.int xb), none, none, none, none], [.int 1, .ref 0], w)) rfl ?_
    refine mz_doP (R := mz_r109) (as := [.ref 0, .int 1]) (rest := []) (r1 := some (.int (-1000001))) (m1 := mz_up w 64 1 ((w 64 1) + 1)) rfl ((cs_err1 (m := w)).deep (by decide)) ?_
    refine mz_retP (r := (some (.int ((-1000001))), mz_up w 64 1 ((w 64 1) + 1))) rfl ⟨(-1000001), rfl, ?_⟩
    refine mz_goP 2 (c' := (2, [some (.ref 65), some (.int xa), some (.int xb), none, none, none], [.int xa, .ref 65], mz_up w 64 1 ((w 64 1) + 1))) rfl ?_
    by_cases q2 : N = 0
    · refine mz_doP (R := mz_r132) (as := [.ref 65, .int xa]) (rest := []) (r1 := some (.int 0)) (m1 := mz_up w 64 1 ((w 64 1) + 1)) rfl ⟨?_, rfl⟩ ?_
      · refine mz_go 6 (c' := (8, [some (.ref 65), some (.int xa)], [.int (w 66 0), .int 0, .int xa], mz_up w 64 1 ((w 64 1) + 1))) rfl ?_
        rw [h660]
        refine mz_go 2 (c' := (10, [some (.ref 65), some (.int xa)], [.int ((nI N) - 1), .int 0, .int xa], mz_up w 64 1 ((w 64 1) + 1))) rfl ?_
        rw [show nI N - 1 = -1 from by rw [show N = 0 by omega]; decide]
        refine mz_do (R := mz_r128) (as := [.int xa, .int 0, .int (-1)]) (rest := []) (r1 := some (.int 0)) (m1 := mz_up w 64 1 ((w 64 1) + 1)) rfl ((ct_inL (m := mz_up w 64 1 ((w 64 1) + 1)) (v := xa) (a := 0) (b := (-1)) q1).deep (by decide)) ?_
        exact mz_ret rfl
      refine mz_goP 3 (c' := (21, [some (.ref 65), some (.int xa), some (.int xb), none, none, none], [.int 1, .ref 65], mz_up w 64 1 ((w 64 1) + 1))) rfl ?_
      refine mz_doP (R := mz_r127) (as := [.ref 65, .int 1]) (rest := []) (r1 := some (.int (-1000001))) (m1 := mz_up (mz_up w 64 1 ((w 64 1) + 1)) 68 1 ((w 68 1) + 1)) rfl ((ct_err1 (m := mz_up w 64 1 ((w 64 1) + 1))).deep (by decide)) ?_
      refine mz_retP (r := (some (.int ((-1000001))), mz_up (mz_up w 64 1 ((w 64 1) + 1)) 68 1 ((w 68 1) + 1))) rfl ⟨(-1000001), rfl, ?_, rfl⟩
      show sm_I (n + 1) (mz_up (mz_up w 64 1 ((w 64 1) + 1)) 68 1 ((w 68 1) + 1))
      exact sm_I_scr hn hI2 (fun i hi => by
        have hne : ∀ r, sm_scr r = true → i ≠ r := fun r hr e => by
          rw [e, hr] at hi
          cases hi
        simp only [mz_up_ne (hne 64 rfl), mz_up_ne (hne 68 rfl)]) rfl rfl
    · refine mz_doP (R := mz_r132) (as := [.ref 65, .int xa]) (rest := []) (r1 := some (.int 0)) (m1 := mz_up w 64 1 ((w 64 1) + 1)) rfl ⟨?_, rfl⟩ ?_
      · refine mz_go 6 (c' := (8, [some (.ref 65), some (.int xa)], [.int (w 66 0), .int 0, .int xa], mz_up w 64 1 ((w 64 1) + 1))) rfl ?_
        rw [h660]
        refine mz_go 2 (c' := (10, [some (.ref 65), some (.int xa)], [.int ((nI N) - 1), .int 0, .int xa], mz_up w 64 1 ((w 64 1) + 1))) rfl ?_
        refine mz_do (R := mz_r128) (as := [.int xa, .int 0, .int ((nI N) - 1)]) (rest := []) (r1 := some (.int 0)) (m1 := mz_up w 64 1 ((w 64 1) + 1)) rfl ((ct_inL (m := mz_up w 64 1 ((w 64 1) + 1)) (v := xa) (a := 0) (b := (nI N) - 1) q1).deep (by decide)) ?_
        exact mz_ret rfl
      refine mz_goP 3 (c' := (21, [some (.ref 65), some (.int xa), some (.int xb), none, none, none], [.int 1, .ref 65], mz_up w 64 1 ((w 64 1) + 1))) rfl ?_
      refine mz_doP (R := mz_r127) (as := [.ref 65, .int 1]) (rest := []) (r1 := some (.int (-1000001))) (m1 := mz_up (mz_up w 64 1 ((w 64 1) + 1)) 68 1 ((w 68 1) + 1)) rfl ((ct_err1 (m := mz_up w 64 1 ((w 64 1) + 1))).deep (by decide)) ?_
      refine mz_retP (r := (some (.int ((-1000001))), mz_up (mz_up w 64 1 ((w 64 1) + 1)) 68 1 ((w 68 1) + 1))) rfl ⟨(-1000001), rfl, ?_, rfl⟩
      show sm_I (n + 1) (mz_up (mz_up w 64 1 ((w 64 1) + 1)) 68 1 ((w 68 1) + 1))
      exact sm_I_scr hn hI2 (fun i hi => by
        have hne : ∀ r, sm_scr r = true → i ≠ r := fun r hr e => by
          rw [e, hr] at hi
          cases hi
        simp only [mz_up_ne (hne 64 rfl), mz_up_ne (hne 68 rfl)]) rfl rfl
  · obtain ⟨jxa, hjxa, rfl⟩ := nI_of q1
    refine mz_goP 4 (c' := (8, [some (.ref 0), some (.int (nI jxa)), some (.int xb), none, none, none, none], [.int (nI jxa), .ref 2], w)) rfl ?_
    by_cases q3 : N ≤ jxa
    · refine mz_doP (R := mz_r21) (as := [.ref 2, .int (nI jxa)]) (rest := []) (r1 := some (.int 0)) (m1 := w) rfl ⟨?_, rfl⟩ ?_
      · refine mz_go 2 (c' := (if (nI jxa) < 0 then 22 else 4, [some (.ref 2), some (.int (nI jxa))], [], w)) rfl ?_
        refine mz_ifF q1 ?_
        refine mz_go 3 (c' := (9, [some (.ref 2), some (.int (nI jxa))], [.int (w 2 4), .int (nI jxa)], w)) rfl ?_
        rw [h4]
        refine mz_go 1 (c' := (if (nI N) ≤ (nI jxa) then 22 else 12, [some (.ref 2), some (.int (nI jxa))], [], w)) rfl ?_
        refine mz_ifT (show ((nI N) ≤ (nI jxa)) from (sm_leN rfl rfl (show N ≤ jxa by omega) (show jxa < 2 ^ 31 by omega))) ?_
        refine mz_go 1 (c' := (23, [some (.ref 2), some (.int (nI jxa))], [.int 0], w)) rfl ?_
        exact mz_ret rfl
      refine mz_goP 3 (c' := (27, [some (.ref 0), some (.int (nI jxa)), some (.int xb), none, none, none, none], [.int 1, .ref 0], w)) rfl ?_
      refine mz_doP (R := mz_r109) (as := [.ref 0, .int 1]) (rest := []) (r1 := some (.int (-1000001))) (m1 := mz_up w 64 1 ((w 64 1) + 1)) rfl ((cs_err1 (m := w)).deep (by decide)) ?_
      refine mz_retP (r := (some (.int ((-1000001))), mz_up w 64 1 ((w 64 1) + 1))) rfl ⟨(-1000001), rfl, ?_⟩
      refine mz_goP 2 (c' := (2, [some (.ref 65), some (.int (nI jxa)), some (.int xb), none, none, none], [.int (nI jxa), .ref 65], mz_up w 64 1 ((w 64 1) + 1))) rfl ?_
      by_cases q4 : N = 0
      · refine mz_doP (R := mz_r132) (as := [.ref 65, .int (nI jxa)]) (rest := []) (r1 := some (.int 0)) (m1 := mz_up w 64 1 ((w 64 1) + 1)) rfl ⟨?_, rfl⟩ ?_
        · refine mz_go 6 (c' := (8, [some (.ref 65), some (.int (nI jxa))], [.int (w 66 0), .int 0, .int (nI jxa)], mz_up w 64 1 ((w 64 1) + 1))) rfl ?_
          rw [h660]
          refine mz_go 2 (c' := (10, [some (.ref 65), some (.int (nI jxa))], [.int ((nI N) - 1), .int 0, .int (nI jxa)], mz_up w 64 1 ((w 64 1) + 1))) rfl ?_
          rw [show nI N - 1 = -1 from by rw [show N = 0 by omega]; decide]
          refine mz_do (R := mz_r128) (as := [.int (nI jxa), .int 0, .int (-1)]) (rest := []) (r1 := some (.int 0)) (m1 := mz_up w 64 1 ((w 64 1) + 1)) rfl ((ct_inG (m := mz_up w 64 1 ((w 64 1) + 1)) (v := nI jxa) (a := 0) (b := (-1)) q1 (show ((-1) < (nI jxa)) from (sm_m1lt rfl (show jxa < 2 ^ 31 by omega)))).deep (by decide)) ?_
          exact mz_ret rfl
        refine mz_goP 3 (c' := (21, [some (.ref 65), some (.int (nI jxa)), some (.int xb), none, none, none], [.int 1, .ref 65], mz_up w 64 1 ((w 64 1) + 1))) rfl ?_
        refine mz_doP (R := mz_r127) (as := [.ref 65, .int 1]) (rest := []) (r1 := some (.int (-1000001))) (m1 := mz_up (mz_up w 64 1 ((w 64 1) + 1)) 68 1 ((w 68 1) + 1)) rfl ((ct_err1 (m := mz_up w 64 1 ((w 64 1) + 1))).deep (by decide)) ?_
        refine mz_retP (r := (some (.int ((-1000001))), mz_up (mz_up w 64 1 ((w 64 1) + 1)) 68 1 ((w 68 1) + 1))) rfl ⟨(-1000001), rfl, ?_, rfl⟩
        show sm_I (n + 1) (mz_up (mz_up w 64 1 ((w 64 1) + 1)) 68 1 ((w 68 1) + 1))
        exact sm_I_scr hn hI2 (fun i hi => by
          have hne : ∀ r, sm_scr r = true → i ≠ r := fun r hr e => by
            rw [e, hr] at hi
            cases hi
          simp only [mz_up_ne (hne 64 rfl), mz_up_ne (hne 68 rfl)]) rfl rfl
      · refine mz_doP (R := mz_r132) (as := [.ref 65, .int (nI jxa)]) (rest := []) (r1 := some (.int 0)) (m1 := mz_up w 64 1 ((w 64 1) + 1)) rfl ⟨?_, rfl⟩ ?_
        · refine mz_go 6 (c' := (8, [some (.ref 65), some (.int (nI jxa))], [.int (w 66 0), .int 0, .int (nI jxa)], mz_up w 64 1 ((w 64 1) + 1))) rfl ?_
          rw [h660]
          refine mz_go 2 (c' := (10, [some (.ref 65), some (.int (nI jxa))], [.int ((nI N) - 1), .int 0, .int (nI jxa)], mz_up w 64 1 ((w 64 1) + 1))) rfl ?_
          refine mz_do (R := mz_r128) (as := [.int (nI jxa), .int 0, .int ((nI N) - 1)]) (rest := []) (r1 := some (.int 0)) (m1 := mz_up w 64 1 ((w 64 1) + 1)) rfl ((ct_inG (m := mz_up w 64 1 ((w 64 1) + 1)) (v := nI jxa) (a := 0) (b := (nI N) - 1) q1 (show (((nI N) - 1) < (nI jxa)) from (sm_ltN (sm_subN (a := N) (b := 1) rfl rfl (by omega)) rfl (show (N - 1) < jxa by omega) (show jxa < 2 ^ 31 by omega)))).deep (by decide)) ?_
          exact mz_ret rfl
        refine mz_goP 3 (c' := (21, [some (.ref 65), some (.int (nI jxa)), some (.int xb), none, none, none], [.int 1, .ref 65], mz_up w 64 1 ((w 64 1) + 1))) rfl ?_
        refine mz_doP (R := mz_r127) (as := [.ref 65, .int 1]) (rest := []) (r1 := some (.int (-1000001))) (m1 := mz_up (mz_up w 64 1 ((w 64 1) + 1)) 68 1 ((w 68 1) + 1)) rfl ((ct_err1 (m := mz_up w 64 1 ((w 64 1) + 1))).deep (by decide)) ?_
        refine mz_retP (r := (some (.int ((-1000001))), mz_up (mz_up w 64 1 ((w 64 1) + 1)) 68 1 ((w 68 1) + 1))) rfl ⟨(-1000001), rfl, ?_, rfl⟩
        show sm_I (n + 1) (mz_up (mz_up w 64 1 ((w 64 1) + 1)) 68 1 ((w 68 1) + 1))
        exact sm_I_scr hn hI2 (fun i hi => by
          have hne : ∀ r, sm_scr r = true → i ≠ r := fun r hr e => by
            rw [e, hr] at hi
            cases hi
          simp only [mz_up_ne (hne 64 rfl), mz_up_ne (hne 68 rfl)]) rfl rfl
    · refine mz_doP (R := mz_r21) (as := [.ref 2, .int (nI jxa)]) (rest := []) (r1 := some (.int 1)) (m1 := w) rfl ((cs_has hN (m := w) h4 (show jxa < N by omega)).deep (by decide)) ?_
      refine mz_goP 4 (c' := (19, [some (.ref 0), some (.int (nI jxa)), some (.int xb), none, none, none, none], [.int 999, .int 0, .int xb], w)) rfl ?_
      by_cases q5 : (sm_bI (sm_in xb 0 999)) = 0
      · refine mz_doP (R := mz_r121) (as := [.int xb, .int 0, .int 999]) (rest := []) (r1 := some (.int (sm_bI (sm_in xb 0 999)))) (m1 := w) rfl ((cs_in (m := w) xb 0 999).deep (by decide)) ?_
        refine mz_goP 1 (c' := (if (sm_bI (sm_in xb 0 999)) = 0 then 25 else 31, [some (.ref 0), some (.int (nI jxa)), some (.int xb), none, none, none, none], [], w)) rfl ?_
        refine mz_ifTP q5 ?_
        refine mz_goP 2 (c' := (27, [some (.ref 0), some (.int (nI jxa)), some (.int xb), none, none, none, none], [.int 1, .ref 0], w)) rfl ?_
        refine mz_doP (R := mz_r109) (as := [.ref 0, .int 1]) (rest := []) (r1 := some (.int (-1000001))) (m1 := mz_up w 64 1 ((w 64 1) + 1)) rfl ((cs_err1 (m := w)).deep (by decide)) ?_
        refine mz_retP (r := (some (.int ((-1000001))), mz_up w 64 1 ((w 64 1) + 1))) rfl ⟨(-1000001), rfl, ?_⟩
        refine mz_goP 2 (c' := (2, [some (.ref 65), some (.int (nI jxa)), some (.int xb), none, none, none], [.int (nI jxa), .ref 65], mz_up w 64 1 ((w 64 1) + 1))) rfl ?_
        refine mz_doP (R := mz_r132) (as := [.ref 65, .int (nI jxa)]) (rest := []) (r1 := some (.int 1)) (m1 := mz_up w 64 1 ((w 64 1) + 1)) rfl ⟨?_, rfl⟩ ?_
        · refine mz_go 6 (c' := (8, [some (.ref 65), some (.int (nI jxa))], [.int (w 66 0), .int 0, .int (nI jxa)], mz_up w 64 1 ((w 64 1) + 1))) rfl ?_
          rw [h660]
          refine mz_go 2 (c' := (10, [some (.ref 65), some (.int (nI jxa))], [.int ((nI N) - 1), .int 0, .int (nI jxa)], mz_up w 64 1 ((w 64 1) + 1))) rfl ?_
          refine mz_do (R := mz_r128) (as := [.int (nI jxa), .int 0, .int ((nI N) - 1)]) (rest := []) (r1 := some (.int 1)) (m1 := mz_up w 64 1 ((w 64 1) + 1)) rfl ((ct_in1 (m := mz_up w 64 1 ((w 64 1) + 1)) (v := nI jxa) (a := 0) (b := (nI N) - 1) q1 (show ¬ (((nI N) - 1) < (nI jxa)) from (sm_nltN (sm_subN (a := N) (b := 1) rfl rfl (by omega)) rfl (show jxa ≤ (N - 1) by omega) (show (N - 1) < 2 ^ 31 by omega)))).deep (by decide)) ?_
          exact mz_ret rfl
        refine mz_goP 4 (c' := (13, [some (.ref 65), some (.int (nI jxa)), some (.int xb), none, none, none], [.int 999, .int 0, .int xb], mz_up w 64 1 ((w 64 1) + 1))) rfl ?_
        refine mz_doP (R := mz_r128) (as := [.int xb, .int 0, .int 999]) (rest := []) (r1 := some (.int (sm_bI (sm_in xb 0 999)))) (m1 := mz_up w 64 1 ((w 64 1) + 1)) rfl ((ct_in (m := mz_up w 64 1 ((w 64 1) + 1)) xb 0 999).deep (by decide)) ?_
        refine mz_goP 1 (c' := (if (sm_bI (sm_in xb 0 999)) = 0 then 19 else 25, [some (.ref 65), some (.int (nI jxa)), some (.int xb), none, none, none], [], mz_up w 64 1 ((w 64 1) + 1))) rfl ?_
        refine mz_ifTP q5 ?_
        refine mz_goP 2 (c' := (21, [some (.ref 65), some (.int (nI jxa)), some (.int xb), none, none, none], [.int 1, .ref 65], mz_up w 64 1 ((w 64 1) + 1))) rfl ?_
        refine mz_doP (R := mz_r127) (as := [.ref 65, .int 1]) (rest := []) (r1 := some (.int (-1000001))) (m1 := mz_up (mz_up w 64 1 ((w 64 1) + 1)) 68 1 ((w 68 1) + 1)) rfl ((ct_err1 (m := mz_up w 64 1 ((w 64 1) + 1))).deep (by decide)) ?_
        refine mz_retP (r := (some (.int ((-1000001))), mz_up (mz_up w 64 1 ((w 64 1) + 1)) 68 1 ((w 68 1) + 1))) rfl ⟨(-1000001), rfl, ?_, rfl⟩
        show sm_I (n + 1) (mz_up (mz_up w 64 1 ((w 64 1) + 1)) 68 1 ((w 68 1) + 1))
        exact sm_I_scr hn hI2 (fun i hi => by
          have hne : ∀ r, sm_scr r = true → i ≠ r := fun r hr e => by
            rw [e, hr] at hi
            cases hi
          simp only [mz_up_ne (hne 64 rfl), mz_up_ne (hne 68 rfl)]) rfl rfl
      · refine mz_doP (R := mz_r121) (as := [.int xb, .int 0, .int 999]) (rest := []) (r1 := some (.int 1)) (m1 := w) rfl ((cs_in1 (m := w) (v := xb) (a := 0) (b := 999) (show ¬ (xb < 0) from (sm_in_lo q5)) (show ¬ (999 < xb) from (sm_in_hi q5))).deep (by decide)) ?_
        refine mz_goP 6 (c' := (42, [some (.ref 0), some (.int (nI jxa)), some (.int xb), none, none, none, none], [.int (nI jxa), .ref 4], w)) rfl ?_
        refine mz_arrP (c' := (43, [some (.ref 0), some (.int (nI jxa)), some (.int xb), none, none, none, none], [.int (w 4 ((nI jxa).toNatClampNeg))], w)) rfl (show mz_in (nI jxa) 6 = true from sm_inN rfl (show jxa < 6 by omega) (by decide)) ?_
        rw [show (nI jxa : Int32).toNatClampNeg = jxa from sm_clN rfl (show jxa < 2 ^ 31 by omega)]
        refine mz_goP 6 (c' := (55, [some (.ref 0), some (.int (nI jxa)), some (.int xb), some (.int (w 4 jxa)), none, none, none], [.int (nI jxa), .ref 5], w)) rfl ?_
        refine mz_arrP (c' := (56, [some (.ref 0), some (.int (nI jxa)), some (.int xb), some (.int (w 4 jxa)), none, none, none], [.int (w 5 ((nI jxa).toNatClampNeg))], w)) rfl (show mz_in (nI jxa) 6 = true from sm_inN rfl (show jxa < 6 by omega) (by decide)) ?_
        rw [show (nI jxa : Int32).toNatClampNeg = jxa from sm_clN rfl (show jxa < 2 ^ 31 by omega)]
        refine mz_goP 7 (c' := (69, [some (.ref 0), some (.int (nI jxa)), some (.int xb), some (.int (w 4 jxa)), some (.int (w 5 jxa)), some (.int (w 7 5)), none], [], w)) rfl ?_
        obtain ⟨s50hc0, s51hc0, s52hc0, Ehc0⟩ := vh_c0 hw hN hr5 hr80 (J := jxa) (by omega) (xb := xb) 0 none (w 50) (w 51) (w 52)
        rw [show mz_set (mz_set (mz_set w 50 (w 50)) 51 (w 51)) 52 (w 52) = w from by rw [sm_id, sm_id, sm_id]] at Ehc0
        obtain ⟨s50hc1, s51hc1, s52hc1, Ehc1⟩ := vh_c1 hw hN hr5 hr80 (J := jxa) (by omega) (xb := xb) (vh_h (sm_end w (w 7 5) (w 4 jxa) (w 5 jxa) xb 0) (nI jxa)) s50hc0 s51hc0 s52hc0
        obtain ⟨s50hc2, s51hc2, s52hc2, Ehc2⟩ := vh_c2 hw hN hr5 hr80 (J := jxa) (by omega) (xb := xb) (vh_h (sm_end w (w 7 5) (w 4 jxa) (w 5 jxa) xb 0) (nI jxa) + vh_h (sm_end w (w 7 5) (w 4 jxa) (w 5 jxa) (-xb) 0) (nI jxa)) s50hc1 s51hc1 s52hc1
        obtain ⟨s50hc3, s51hc3, s52hc3, Ehc3⟩ := vh_c3 hw hN hr5 hr80 (J := jxa) (by omega) (xb := xb) ((vh_h (sm_end w (w 7 5) (w 4 jxa) (w 5 jxa) xb 0) (nI jxa) + vh_h (sm_end w (w 7 5) (w 4 jxa) (w 5 jxa) (-xb) 0) (nI jxa)) + vh_h (sm_end w (w 7 5) (w 4 jxa) (w 5 jxa) 0 xb) (nI jxa)) s50hc2 s51hc2 s52hc2
        refine mz_hkP (fun r hr => Ehc0 r (Ehc1 r (Ehc2 r (Ehc3 r hr)))) ?_
        refine mz_goP 1 (c' := (182, [some (.ref 0), some (.int (nI jxa)), some (.int xb), some (.int (w 4 jxa)), some (.int (w 5 jxa)), some (.int (w 7 5)), some (.int (((vh_h (sm_end w (w 7 5) (w 4 jxa) (w 5 jxa) xb 0) (nI jxa) + vh_h (sm_end w (w 7 5) (w 4 jxa) (w 5 jxa) (-xb) 0) (nI jxa)) + vh_h (sm_end w (w 7 5) (w 4 jxa) (w 5 jxa) 0 xb) (nI jxa)) + vh_h (sm_end w (w 7 5) (w 4 jxa) (w 5 jxa) 0 (-xb)) (nI jxa)))], [.int (((vh_h (sm_end w (w 7 5) (w 4 jxa) (w 5 jxa) xb 0) (nI jxa) + vh_h (sm_end w (w 7 5) (w 4 jxa) (w 5 jxa) (-xb) 0) (nI jxa)) + vh_h (sm_end w (w 7 5) (w 4 jxa) (w 5 jxa) 0 xb) (nI jxa)) + vh_h (sm_end w (w 7 5) (w 4 jxa) (w 5 jxa) 0 (-xb)) (nI jxa))], mz_set (mz_set (mz_set w 50 s50hc3) 51 s51hc3) 52 s52hc3)) rfl ?_
        refine mz_retP (r := (some (.int (((vh_h (sm_end w (w 7 5) (w 4 jxa) (w 5 jxa) xb 0) (nI jxa) + vh_h (sm_end w (w 7 5) (w 4 jxa) (w 5 jxa) (-xb) 0) (nI jxa)) + vh_h (sm_end w (w 7 5) (w 4 jxa) (w 5 jxa) 0 xb) (nI jxa)) + vh_h (sm_end w (w 7 5) (w 4 jxa) (w 5 jxa) 0 (-xb)) (nI jxa))), mz_set (mz_set (mz_set w 50 s50hc3) 51 s51hc3) 52 s52hc3)) rfl ⟨((vh_h (sm_end w (w 7 5) (w 4 jxa) (w 5 jxa) xb 0) (nI jxa) + vh_h (sm_end w (w 7 5) (w 4 jxa) (w 5 jxa) (-xb) 0) (nI jxa)) + vh_h (sm_end w (w 7 5) (w 4 jxa) (w 5 jxa) 0 xb) (nI jxa)) + vh_h (sm_end w (w 7 5) (w 4 jxa) (w 5 jxa) 0 (-xb)) (nI jxa), rfl, ?_⟩
        refine mz_goP 2 (c' := (2, [some (.ref 65), some (.int (nI jxa)), some (.int xb), none, none, none], [.int (nI jxa), .ref 65], mz_set (mz_set (mz_set w 50 s50hc3) 51 s51hc3) 52 s52hc3)) rfl ?_
        refine mz_doP (R := mz_r132) (as := [.ref 65, .int (nI jxa)]) (rest := []) (r1 := some (.int 1)) (m1 := mz_set (mz_set (mz_set w 50 s50hc3) 51 s51hc3) 52 s52hc3) rfl ⟨?_, rfl⟩ ?_
        · refine mz_go 6 (c' := (8, [some (.ref 65), some (.int (nI jxa))], [.int (w 66 0), .int 0, .int (nI jxa)], mz_set (mz_set (mz_set w 50 s50hc3) 51 s51hc3) 52 s52hc3)) rfl ?_
          rw [h660]
          refine mz_go 2 (c' := (10, [some (.ref 65), some (.int (nI jxa))], [.int ((nI N) - 1), .int 0, .int (nI jxa)], mz_set (mz_set (mz_set w 50 s50hc3) 51 s51hc3) 52 s52hc3)) rfl ?_
          refine mz_do (R := mz_r128) (as := [.int (nI jxa), .int 0, .int ((nI N) - 1)]) (rest := []) (r1 := some (.int 1)) (m1 := mz_set (mz_set (mz_set w 50 s50hc3) 51 s51hc3) 52 s52hc3) rfl ((ct_in1 (m := mz_set (mz_set (mz_set w 50 s50hc3) 51 s51hc3) 52 s52hc3) (v := nI jxa) (a := 0) (b := (nI N) - 1) q1 (show ¬ (((nI N) - 1) < (nI jxa)) from (sm_nltN (sm_subN (a := N) (b := 1) rfl rfl (by omega)) rfl (show jxa ≤ (N - 1) by omega) (show (N - 1) < 2 ^ 31 by omega)))).deep (by decide)) ?_
          exact mz_ret rfl
        refine mz_goP 4 (c' := (13, [some (.ref 65), some (.int (nI jxa)), some (.int xb), none, none, none], [.int 999, .int 0, .int xb], mz_set (mz_set (mz_set w 50 s50hc3) 51 s51hc3) 52 s52hc3)) rfl ?_
        refine mz_doP (R := mz_r128) (as := [.int xb, .int 0, .int 999]) (rest := []) (r1 := some (.int 1)) (m1 := mz_set (mz_set (mz_set w 50 s50hc3) 51 s51hc3) 52 s52hc3) rfl ((ct_in1 (m := mz_set (mz_set (mz_set w 50 s50hc3) 51 s51hc3) 52 s52hc3) (v := xb) (a := 0) (b := 999) (show ¬ (xb < 0) from (sm_in_lo q5)) (show ¬ (999 < xb) from (sm_in_hi q5))).deep (by decide)) ?_
        refine mz_goP 5 (c' := (30, [some (.ref 65), some (.int (nI jxa)), some (.int xb), some (.int 0), some (.int 0), none], [], mz_set (mz_set (mz_set w 50 s50hc3) 51 s51hc3) 52 s52hc3)) rfl ?_
        obtain ⟨p5hr0, s65hr0, s70hr0, s71hr0, khr0, Ehr0⟩ := vh_r0 (w := w) (b := mz_set (mz_set (mz_set w 50 s50hc3) 51 s51hc3) 52 s52hc3) hw hN hr5 hr80 (show sm_HR w ((mz_set (mz_set (mz_set w 50 s50hc3) 51 s51hc3) 52 s52hc3) 66) from hr2) h6615 (J := jxa) (by omega) (xb := xb) 0 none ((mz_set (mz_set (mz_set w 50 s50hc3) 51 s51hc3) 52 s52hc3) 65) ((mz_set (mz_set (mz_set w 50 s50hc3) 51 s51hc3) 52 s52hc3) 70) ((mz_set (mz_set (mz_set w 50 s50hc3) 51 s51hc3) 52 s52hc3) 71) (fun _ _ => rfl)
        rw [show mz_set (mz_set (mz_set (mz_set (mz_set (mz_set w 50 s50hc3) 51 s51hc3) 52 s52hc3) 65 ((mz_set (mz_set (mz_set w 50 s50hc3) 51 s51hc3) 52 s52hc3) 65)) 70 ((mz_set (mz_set (mz_set w 50 s50hc3) 51 s51hc3) 52 s52hc3) 70)) 71 ((mz_set (mz_set (mz_set w 50 s50hc3) 51 s51hc3) 52 s52hc3) 71) = mz_set (mz_set (mz_set w 50 s50hc3) 51 s51hc3) 52 s52hc3 from by rw [sm_id, sm_id, sm_id]] at Ehr0
        obtain ⟨p5hr1, s65hr1, s70hr1, s71hr1, khr1, Ehr1⟩ := vh_r1 (w := w) (b := mz_set (mz_set (mz_set w 50 s50hc3) 51 s51hc3) 52 s52hc3) hw hN hr5 hr80 (show sm_HR w ((mz_set (mz_set (mz_set w 50 s50hc3) 51 s51hc3) 52 s52hc3) 66) from hr2) h6615 (J := jxa) (by omega) (xb := xb) (0 + vh_h (sm_end w (w 7 5) (w 4 jxa) (w 5 jxa) xb 0) (nI jxa)) p5hr0 s65hr0 s70hr0 s71hr0 khr0
        obtain ⟨p5hr2, s65hr2, s70hr2, s71hr2, khr2, Ehr2⟩ := vh_r2 (w := w) (b := mz_set (mz_set (mz_set w 50 s50hc3) 51 s51hc3) 52 s52hc3) hw hN hr5 hr80 (show sm_HR w ((mz_set (mz_set (mz_set w 50 s50hc3) 51 s51hc3) 52 s52hc3) 66) from hr2) h6615 (J := jxa) (by omega) (xb := xb) ((0 + vh_h (sm_end w (w 7 5) (w 4 jxa) (w 5 jxa) xb 0) (nI jxa)) + vh_h (sm_end w (w 7 5) (w 4 jxa) (w 5 jxa) (-xb) 0) (nI jxa)) p5hr1 s65hr1 s70hr1 s71hr1 khr1
        obtain ⟨p5hr3, s65hr3, s70hr3, s71hr3, khr3, Ehr3⟩ := vh_r3 (w := w) (b := mz_set (mz_set (mz_set w 50 s50hc3) 51 s51hc3) 52 s52hc3) hw hN hr5 hr80 (show sm_HR w ((mz_set (mz_set (mz_set w 50 s50hc3) 51 s51hc3) 52 s52hc3) 66) from hr2) h6615 (J := jxa) (by omega) (xb := xb) (((0 + vh_h (sm_end w (w 7 5) (w 4 jxa) (w 5 jxa) xb 0) (nI jxa)) + vh_h (sm_end w (w 7 5) (w 4 jxa) (w 5 jxa) (-xb) 0) (nI jxa)) + vh_h (sm_end w (w 7 5) (w 4 jxa) (w 5 jxa) 0 xb) (nI jxa)) p5hr2 s65hr2 s70hr2 s71hr2 khr2
        rw [show 0 + vh_h (sm_end w (w 7 5) (w 4 jxa) (w 5 jxa) xb 0) (nI jxa) = vh_h (sm_end w (w 7 5) (w 4 jxa) (w 5 jxa) xb 0) (nI jxa) from Int32.zero_add _] at Ehr1 Ehr2 Ehr3
        rw [show 0 + vh_h (sm_end w (w 7 5) (w 4 jxa) (w 5 jxa) xb 0) (nI jxa) = vh_h (sm_end w (w 7 5) (w 4 jxa) (w 5 jxa) xb 0) (nI jxa) from Int32.zero_add _] at Ehr0
        refine mz_hkP (fun r hr => Ehr0 r (Ehr1 r (Ehr2 r (Ehr3 r hr)))) ?_
        refine mz_goP 4 (c' := (118, [some (.ref 65), some (.int (nI jxa)), some (.int xb), some (.int (((vh_h (sm_end w (w 7 5) (w 4 jxa) (w 5 jxa) xb 0) (nI jxa) + vh_h (sm_end w (w 7 5) (w 4 jxa) (w 5 jxa) (-xb) 0) (nI jxa)) + vh_h (sm_end w (w 7 5) (w 4 jxa) (w 5 jxa) 0 xb) (nI jxa)) + vh_h (sm_end w (w 7 5) (w 4 jxa) (w 5 jxa) 0 (-xb)) (nI jxa))), some (.int 4), p5hr3], [.int (((vh_h (sm_end w (w 7 5) (w 4 jxa) (w 5 jxa) xb 0) (nI jxa) + vh_h (sm_end w (w 7 5) (w 4 jxa) (w 5 jxa) (-xb) 0) (nI jxa)) + vh_h (sm_end w (w 7 5) (w 4 jxa) (w 5 jxa) 0 xb) (nI jxa)) + vh_h (sm_end w (w 7 5) (w 4 jxa) (w 5 jxa) 0 (-xb)) (nI jxa))], mz_set (mz_set (mz_set (mz_set (mz_set (mz_set w 50 s50hc3) 51 s51hc3) 52 s52hc3) 65 s65hr3) 70 s70hr3) 71 s71hr3)) rfl ?_
        refine mz_retP (r := (some (.int (((vh_h (sm_end w (w 7 5) (w 4 jxa) (w 5 jxa) xb 0) (nI jxa) + vh_h (sm_end w (w 7 5) (w 4 jxa) (w 5 jxa) (-xb) 0) (nI jxa)) + vh_h (sm_end w (w 7 5) (w 4 jxa) (w 5 jxa) 0 xb) (nI jxa)) + vh_h (sm_end w (w 7 5) (w 4 jxa) (w 5 jxa) 0 (-xb)) (nI jxa))), mz_set (mz_set (mz_set (mz_set (mz_set (mz_set w 50 s50hc3) 51 s51hc3) 52 s52hc3) 65 s65hr3) 70 s70hr3) 71 s71hr3)) rfl ⟨((vh_h (sm_end w (w 7 5) (w 4 jxa) (w 5 jxa) xb 0) (nI jxa) + vh_h (sm_end w (w 7 5) (w 4 jxa) (w 5 jxa) (-xb) 0) (nI jxa)) + vh_h (sm_end w (w 7 5) (w 4 jxa) (w 5 jxa) 0 xb) (nI jxa)) + vh_h (sm_end w (w 7 5) (w 4 jxa) (w 5 jxa) 0 (-xb)) (nI jxa), rfl, ?_, rfl⟩
        show sm_I (n + 1) (mz_set (mz_set (mz_set (mz_set (mz_set (mz_set w 50 s50hc3) 51 s51hc3) 52 s52hc3) 65 s65hr3) 70 s70hr3) 71 s71hr3)
        exact sm_I_scr hn hI2 (fun i hi => by
          have hne : ∀ r, sm_scr r = true → i ≠ r := fun r hr e => by
            rw [e, hr] at hi
            cases hi
          simp only [mz_set_ne (hne 50 rfl), mz_set_ne (hne 51 rfl), mz_set_ne (hne 52 rfl), mz_set_ne (hne 65 rfl), mz_set_ne (hne 70 rfl), mz_set_ne (hne 71 rfl)]) ((khr3 2 (by omega)).trans rfl) ((khr3 19 (by omega)).trans rfl)
