set_option maxHeartbeats 4000000 in
set_option maxRecDepth 100000 in
theorem cz_loop_1 (x y u v : Int32) : ∀ n k : Nat, k + n = 60 → ∀ m, Zf m → m 50 4 = nI k → ∃ m', (∀ i, i ≠ 50 → m' i = m i) ∧ m' 50 4 = 60 ∧ mz_Ex 60 mz_k36 (39, [some (.ref 49), some (.int x), some (.int y), some (.int u), some (.int v), some (.int 1), some (.int 60), some (.int 9), some (.int (nI k))], [], m) (some (.int 9), m') := by
  intro n
  induction n with
  | zero =>
    intro k hk m hz h4
    have hk2 : k = 60 := by omega
    subst hk2
    refine ⟨m, fun _ _ => rfl, h4, ?_⟩
    refine mz_go 3 (c' := (if (60 : Int32) ≤ nI 60 then 79 else 46, [some (.ref 49), some (.int x), some (.int y), some (.int u), some (.int v), some (.int 1), some (.int 60), some (.int 9), some (.int (nI 60))], [], m)) rfl ?_
    refine mz_ifT (by decide) ?_
    refine mz_go 1 (c' := (81, [some (.ref 49), some (.int x), some (.int y), some (.int u), some (.int v), some (.int 1), some (.int 60), some (.int 9), some (.int (nI 60))], [.int 9], m)) rfl ?_
    exact mz_ret rfl
  | succ n ih =>
    intro k hk m hz h4
    obtain ⟨m1, e1, g1, s1⟩ := cz_step_50_1 m
    have z1 : Zf m1 := zf_row (zf_z m) rfl e1
    have r1 := cz_rest m1
    rw [zf_eq z1] at r1
    rw [zf_eq hz] at e1 g1 s1
    obtain ⟨m2, e2, g2, s2⟩ := ih (k + 1) (by omega) m1 z1 (by rw [g1, h4, nI_succ])
    rw [nI_succ] at s2
    refine ⟨m2, fun i hi => (e2 i hi).trans (e1 i hi), g2, ?_⟩
    refine mz_go 3 (c' := (if (60 : Int32) ≤ nI k then 79 else 46, [some (.ref 49), some (.int x), some (.int y), some (.int u), some (.int v), some (.int 1), some (.int 60), some (.int 9), some (.int (nI k))], [], m)) rfl ?_
    refine mz_ifF (nI_ge (show k < 60 by omega) (by decide)) ?_
    refine mz_go 7 (c' := (60, [some (.ref 49), some (.int x), some (.int y), some (.int u), some (.int v), some (.int 1), some (.int 60), some (.int 9), some (.int (nI k))], [.int 1, .ref 50, .ref 49], m)) rfl ?_
    refine mz_do (R := mz_r38) (as := [.ref 49, .ref 50, .int 1]) (rest := []) (r1 := none) (m1 := m1) rfl (mz_Me.deep s1 (by decide)) ?_
    refine mz_go 3 (c' := (68, [some (.ref 49), some (.int x), some (.int y), some (.int u), some (.int v), some (.int 1), some (.int 60), some (.int 9), some (.int (nI k))], [.ref 50, .ref 49], m1)) rfl ?_
    refine mz_do (R := mz_r37) (as := [.ref 49, .ref 50]) (rest := []) (r1 := some (.int 9)) (m1 := m1) rfl (mz_Me.deep r1 (by decide)) ?_
    refine mz_go 3 (c' := (39, [some (.ref 49), some (.int x), some (.int y), some (.int u), some (.int v), some (.int 1), some (.int 60), some (.int 9), some (.int (nI k + 1))], [], m1)) rfl ?_
    exact s2
set_option maxHeartbeats 4000000 in
set_option maxRecDepth 100000 in
theorem cz_end_1 (m : mz_M) (hz : Zf m) (x y u v : Int32) : ∃ m', (∀ i, i ≠ 50 → m' i = m i) ∧ m' 50 4 = 60 ∧ mz_Me 60 mz_r36 [.ref 49, .int x, .int y, .int u, .int v, .int 1] m (some (.int 9)) m' := by
  have key : ∃ m', (∀ i, i ≠ 50 → m' i = mz_z m i) ∧ m' 50 4 = 60 ∧ mz_Me 60 mz_r36 [.ref 49, .int x, .int y, .int u, .int v, .int 1] (mz_z m) (some (.int 9)) m' := by
    obtain ⟨M, hM⟩ : ∃ M : mz_M, M = mz_up (mz_up (mz_up (mz_up (mz_up (mz_z m) 50 0 (x * 16)) 50 1 (y * 16)) 50 2 u) 50 3 v) 50 4 0 := ⟨_, rfl⟩
    have z1 : Zf M := by rw [hM]; rfl
    have r1 := cz_rest M
    rw [zf_eq z1] at r1
    have h7 : M 7 2 = 60 := by rw [hM]; rfl
    obtain ⟨m2, e2, g2, s2⟩ := cz_loop_1 x y u v 60 0 (by omega) M z1 (by rw [hM]; rfl)
    refine ⟨m2, fun i hi => ?_, g2, ⟨?_, rfl⟩⟩
    · rw [e2 i hi, hM]
      simp only [mz_up_ne hi]
    refine mz_go 6 (c' := (9, [some (.ref 49), some (.int x), some (.int y), some (.int u), some (.int v), some (.int 1), none, none, none], [.int v, .int u, .int y, .int x, .ref 50], mz_z m)) rfl ?_
    refine mz_do (R := mz_r0) (as := [.ref 50, .int x, .int y, .int u, .int v]) (rest := []) (r1 := none) (m1 := mz_up (mz_up (mz_up (mz_up (mz_up (mz_z m) 50 0 (x * 16)) 50 1 (y * 16)) 50 2 u) 50 3 v) 50 4 0) rfl ⟨?_, rfl⟩ ?_
    · refine mz_go 19 (c' := (32, [some (.ref 50), some (.int x), some (.int y), some (.int u), some (.int v)], [], mz_up (mz_up (mz_up (mz_up (mz_up (mz_z m) 50 0 (x * 16)) 50 1 (y * 16)) 50 2 u) 50 3 v) 50 4 0)) rfl ?_
      exact mz_ret rfl
    refine mz_go 9 (c' := (26, [some (.ref 49), some (.int x), some (.int y), some (.int u), some (.int v), some (.int 1), some (.int 60), none, none], [], mz_up (mz_up (mz_up (mz_up (mz_up (mz_z m) 50 0 (x * 16)) 50 1 (y * 16)) 50 2 u) 50 3 v) 50 4 0)) rfl ?_
    rw [← hM]
    refine mz_go 3 (c' := (31, [some (.ref 49), some (.int x), some (.int y), some (.int u), some (.int v), some (.int 1), some (.int 60), none, none], [.ref 50, .ref 49], M)) rfl ?_
    refine mz_do (R := mz_r37) (as := [.ref 49, .ref 50]) (rest := []) (r1 := some (.int 9)) (m1 := M) rfl (mz_Me.deep r1 (by decide)) ?_
    refine mz_go 3 (c' := (39, [some (.ref 49), some (.int x), some (.int y), some (.int u), some (.int v), some (.int 1), some (.int 60), some (.int 9), some (.int (nI 0))], [], M)) rfl ?_
    exact s2
  rw [zf_eq hz] at key
  exact key
set_option maxHeartbeats 4000000 in
set_option maxRecDepth 100000 in
theorem cz_loop_2 (x y u v : Int32) : ∀ n k : Nat, k + n = 120 → ∀ m, Zf m → m 50 4 = nI k → ∃ m', (∀ i, i ≠ 50 → m' i = m i) ∧ m' 50 4 = 120 ∧ mz_Ex 60 mz_k36 (39, [some (.ref 49), some (.int x), some (.int y), some (.int u), some (.int v), some (.int 2), some (.int 120), some (.int 9), some (.int (nI k))], [], m) (some (.int 9), m') := by
  intro n
  induction n with
  | zero =>
    intro k hk m hz h4
    have hk2 : k = 120 := by omega
    subst hk2
    refine ⟨m, fun _ _ => rfl, h4, ?_⟩
    refine mz_go 3 (c' := (if (120 : Int32) ≤ nI 120 then 79 else 46, [some (.ref 49), some (.int x), some (.int y), some (.int u), some (.int v), some (.int 2), some (.int 120), some (.int 9), some (.int (nI 120))], [], m)) rfl ?_
    refine mz_ifT (by decide) ?_
    refine mz_go 1 (c' := (81, [some (.ref 49), some (.int x), some (.int y), some (.int u), some (.int v), some (.int 2), some (.int 120), some (.int 9), some (.int (nI 120))], [.int 9], m)) rfl ?_
    exact mz_ret rfl
  | succ n ih =>
    intro k hk m hz h4
    obtain ⟨m1, e1, g1, s1⟩ := cz_step_50_2 m
    have z1 : Zf m1 := zf_row (zf_z m) rfl e1
    have r1 := cz_rest m1
    rw [zf_eq z1] at r1
    rw [zf_eq hz] at e1 g1 s1
    obtain ⟨m2, e2, g2, s2⟩ := ih (k + 1) (by omega) m1 z1 (by rw [g1, h4, nI_succ])
    rw [nI_succ] at s2
    refine ⟨m2, fun i hi => (e2 i hi).trans (e1 i hi), g2, ?_⟩
    refine mz_go 3 (c' := (if (120 : Int32) ≤ nI k then 79 else 46, [some (.ref 49), some (.int x), some (.int y), some (.int u), some (.int v), some (.int 2), some (.int 120), some (.int 9), some (.int (nI k))], [], m)) rfl ?_
    refine mz_ifF (nI_ge (show k < 120 by omega) (by decide)) ?_
    refine mz_go 7 (c' := (60, [some (.ref 49), some (.int x), some (.int y), some (.int u), some (.int v), some (.int 2), some (.int 120), some (.int 9), some (.int (nI k))], [.int 2, .ref 50, .ref 49], m)) rfl ?_
    refine mz_do (R := mz_r38) (as := [.ref 49, .ref 50, .int 2]) (rest := []) (r1 := none) (m1 := m1) rfl (mz_Me.deep s1 (by decide)) ?_
    refine mz_go 3 (c' := (68, [some (.ref 49), some (.int x), some (.int y), some (.int u), some (.int v), some (.int 2), some (.int 120), some (.int 9), some (.int (nI k))], [.ref 50, .ref 49], m1)) rfl ?_
    refine mz_do (R := mz_r37) (as := [.ref 49, .ref 50]) (rest := []) (r1 := some (.int 9)) (m1 := m1) rfl (mz_Me.deep r1 (by decide)) ?_
    refine mz_go 3 (c' := (39, [some (.ref 49), some (.int x), some (.int y), some (.int u), some (.int v), some (.int 2), some (.int 120), some (.int 9), some (.int (nI k + 1))], [], m1)) rfl ?_
    exact s2
set_option maxHeartbeats 4000000 in
set_option maxRecDepth 100000 in
theorem cz_end_2 (m : mz_M) (hz : Zf m) (x y u v : Int32) : ∃ m', (∀ i, i ≠ 50 → m' i = m i) ∧ m' 50 4 = 120 ∧ mz_Me 60 mz_r36 [.ref 49, .int x, .int y, .int u, .int v, .int 2] m (some (.int 9)) m' := by
  have key : ∃ m', (∀ i, i ≠ 50 → m' i = mz_z m i) ∧ m' 50 4 = 120 ∧ mz_Me 60 mz_r36 [.ref 49, .int x, .int y, .int u, .int v, .int 2] (mz_z m) (some (.int 9)) m' := by
    obtain ⟨M, hM⟩ : ∃ M : mz_M, M = mz_up (mz_up (mz_up (mz_up (mz_up (mz_z m) 50 0 (x * 16)) 50 1 (y * 16)) 50 2 u) 50 3 v) 50 4 0 := ⟨_, rfl⟩
    have z1 : Zf M := by rw [hM]; rfl
    have r1 := cz_rest M
    rw [zf_eq z1] at r1
    have h7 : M 7 2 = 60 := by rw [hM]; rfl
    obtain ⟨m2, e2, g2, s2⟩ := cz_loop_2 x y u v 120 0 (by omega) M z1 (by rw [hM]; rfl)
    refine ⟨m2, fun i hi => ?_, g2, ⟨?_, rfl⟩⟩
    · rw [e2 i hi, hM]
      simp only [mz_up_ne hi]
    refine mz_go 6 (c' := (9, [some (.ref 49), some (.int x), some (.int y), some (.int u), some (.int v), some (.int 2), none, none, none], [.int v, .int u, .int y, .int x, .ref 50], mz_z m)) rfl ?_
    refine mz_do (R := mz_r0) (as := [.ref 50, .int x, .int y, .int u, .int v]) (rest := []) (r1 := none) (m1 := mz_up (mz_up (mz_up (mz_up (mz_up (mz_z m) 50 0 (x * 16)) 50 1 (y * 16)) 50 2 u) 50 3 v) 50 4 0) rfl ⟨?_, rfl⟩ ?_
    · refine mz_go 19 (c' := (32, [some (.ref 50), some (.int x), some (.int y), some (.int u), some (.int v)], [], mz_up (mz_up (mz_up (mz_up (mz_up (mz_z m) 50 0 (x * 16)) 50 1 (y * 16)) 50 2 u) 50 3 v) 50 4 0)) rfl ?_
      exact mz_ret rfl
    refine mz_go 9 (c' := (26, [some (.ref 49), some (.int x), some (.int y), some (.int u), some (.int v), some (.int 2), some (.int 120), none, none], [], mz_up (mz_up (mz_up (mz_up (mz_up (mz_z m) 50 0 (x * 16)) 50 1 (y * 16)) 50 2 u) 50 3 v) 50 4 0)) rfl ?_
    rw [← hM]
    refine mz_go 3 (c' := (31, [some (.ref 49), some (.int x), some (.int y), some (.int u), some (.int v), some (.int 2), some (.int 120), none, none], [.ref 50, .ref 49], M)) rfl ?_
    refine mz_do (R := mz_r37) (as := [.ref 49, .ref 50]) (rest := []) (r1 := some (.int 9)) (m1 := M) rfl (mz_Me.deep r1 (by decide)) ?_
    refine mz_go 3 (c' := (39, [some (.ref 49), some (.int x), some (.int y), some (.int u), some (.int v), some (.int 2), some (.int 120), some (.int 9), some (.int (nI 0))], [], M)) rfl ?_
    exact s2
  rw [zf_eq hz] at key
  exact key
set_option maxHeartbeats 4000000 in
set_option maxRecDepth 100000 in
theorem rz_loop_1 : ∀ n k : Nat, k + n = 60 → ∀ m, Zf m → m 65 8 = nI k → ∃ m', (∀ i, i ≠ 65 → m' i = m i) ∧ m' 65 8 = 60 ∧ mz_Ex 60 mz_k154 (15, [some (.ref 65), some (.int 1), some (.int 60), some (.int 9)], [], m) (some (.int 9), m') := by
  intro n
  induction n with
  | zero =>
    intro k hk m hz h4
    have hk2 : k = 60 := by omega
    subst hk2
    refine ⟨m, fun _ _ => rfl, h4, ?_⟩
    refine mz_go 7 (c' := (if (60 : Int32) ≤ m 65 8 then 42 else 29, [some (.ref 65), some (.int 1), some (.int 60), some (.int 9)], [], m)) rfl ?_
    refine mz_ifT (by rw [h4]; decide) ?_
    refine mz_go 1 (c' := (43, [some (.ref 65), some (.int 1), some (.int 60), some (.int 9)], [.int 9], m)) rfl ?_
    exact mz_ret rfl
  | succ n ih =>
    intro k hk m hz h4
    obtain ⟨m1, e1, g1, s1⟩ := rz_tick_1 m
    have z1 : Zf m1 := zf_row (zf_z m) rfl e1
    have r1 := rz_rest m1
    rw [zf_eq z1] at r1
    rw [zf_eq hz] at e1 g1 s1
    obtain ⟨m2, e2, g2, s2⟩ := ih (k + 1) (by omega) m1 z1 (by rw [g1, h4, nI_succ])
    refine ⟨m2, fun i hi => (e2 i hi).trans (e1 i hi), g2, ?_⟩
    refine mz_go 7 (c' := (if (60 : Int32) ≤ m 65 8 then 42 else 29, [some (.ref 65), some (.int 1), some (.int 60), some (.int 9)], [], m)) rfl ?_
    refine mz_ifF (by rw [h4]; exact nI_ge (show k < 60 by omega) (by decide)) ?_
    refine mz_go 2 (c' := (31, [some (.ref 65), some (.int 1), some (.int 60), some (.int 9)], [.int 1, .ref 65], m)) rfl ?_
    refine mz_do (R := mz_r152) (as := [.ref 65, .int 1]) (rest := []) (r1 := none) (m1 := m1) rfl (mz_Me.deep s1 (by decide)) ?_
    refine mz_go 1 (c' := (35, [some (.ref 65), some (.int 1), some (.int 60), some (.int 9)], [.ref 65], m1)) rfl ?_
    refine mz_do (R := mz_r153) (as := [.ref 65]) (rest := []) (r1 := some (.int 9)) (m1 := m1) rfl (mz_Me.deep r1 (by decide)) ?_
    refine mz_go 2 (c' := (15, [some (.ref 65), some (.int 1), some (.int 60), some (.int 9)], [], m1)) rfl ?_
    exact s2
set_option maxHeartbeats 4000000 in
set_option maxRecDepth 100000 in
theorem rz_runs_1 (m : mz_M) (hz : Zf m) (h0 : m 65 8 = 0) : ∃ m', (∀ i, i ≠ 65 → m' i = m i) ∧ m' 65 8 = 60 ∧ mz_Me 60 mz_r154 [.ref 65, .int 1] m (some (.int 9)) m' := by
  have r1 := rz_rest m
  have hz2 := zf_eq hz
  rw [hz2] at r1
  obtain ⟨m2, e2, g2, s2⟩ := rz_loop_1 60 0 (by omega) m hz h0
  refine ⟨m2, e2, g2, ⟨?_, rfl⟩⟩
  rw [← hz2]
  refine mz_go 7 (c' := (10, [some (.ref 65), some (.int 1), some (.int 60), none], [], mz_z m)) rfl ?_
  rw [hz2]
  refine mz_go 1 (c' := (11, [some (.ref 65), some (.int 1), some (.int 60), none], [.ref 65], m)) rfl ?_
  refine mz_do (R := mz_r153) (as := [.ref 65]) (rest := []) (r1 := some (.int 9)) (m1 := m) rfl (mz_Me.deep r1 (by decide)) ?_
  refine mz_go 1 (c' := (15, [some (.ref 65), some (.int 1), some (.int 60), some (.int 9)], [], m)) rfl ?_
  exact s2
set_option maxHeartbeats 4000000 in
set_option maxRecDepth 100000 in
theorem rz_loop_2 : ∀ n k : Nat, k + n = 120 → ∀ m, Zf m → m 65 8 = nI k → ∃ m', (∀ i, i ≠ 65 → m' i = m i) ∧ m' 65 8 = 120 ∧ mz_Ex 60 mz_k154 (15, [some (.ref 65), some (.int 2), some (.int 120), some (.int 9)], [], m) (some (.int 9), m') := by
  intro n
  induction n with
  | zero =>
    intro k hk m hz h4
    have hk2 : k = 120 := by omega
    subst hk2
    refine ⟨m, fun _ _ => rfl, h4, ?_⟩
    refine mz_go 7 (c' := (if (120 : Int32) ≤ m 65 8 then 42 else 29, [some (.ref 65), some (.int 2), some (.int 120), some (.int 9)], [], m)) rfl ?_
    refine mz_ifT (by rw [h4]; decide) ?_
    refine mz_go 1 (c' := (43, [some (.ref 65), some (.int 2), some (.int 120), some (.int 9)], [.int 9], m)) rfl ?_
    exact mz_ret rfl
  | succ n ih =>
    intro k hk m hz h4
    obtain ⟨m1, e1, g1, s1⟩ := rz_tick_2 m
    have z1 : Zf m1 := zf_row (zf_z m) rfl e1
    have r1 := rz_rest m1
    rw [zf_eq z1] at r1
    rw [zf_eq hz] at e1 g1 s1
    obtain ⟨m2, e2, g2, s2⟩ := ih (k + 1) (by omega) m1 z1 (by rw [g1, h4, nI_succ])
    refine ⟨m2, fun i hi => (e2 i hi).trans (e1 i hi), g2, ?_⟩
    refine mz_go 7 (c' := (if (120 : Int32) ≤ m 65 8 then 42 else 29, [some (.ref 65), some (.int 2), some (.int 120), some (.int 9)], [], m)) rfl ?_
    refine mz_ifF (by rw [h4]; exact nI_ge (show k < 120 by omega) (by decide)) ?_
    refine mz_go 2 (c' := (31, [some (.ref 65), some (.int 2), some (.int 120), some (.int 9)], [.int 2, .ref 65], m)) rfl ?_
    refine mz_do (R := mz_r152) (as := [.ref 65, .int 2]) (rest := []) (r1 := none) (m1 := m1) rfl (mz_Me.deep s1 (by decide)) ?_
    refine mz_go 1 (c' := (35, [some (.ref 65), some (.int 2), some (.int 120), some (.int 9)], [.ref 65], m1)) rfl ?_
    refine mz_do (R := mz_r153) (as := [.ref 65]) (rest := []) (r1 := some (.int 9)) (m1 := m1) rfl (mz_Me.deep r1 (by decide)) ?_
    refine mz_go 2 (c' := (15, [some (.ref 65), some (.int 2), some (.int 120), some (.int 9)], [], m1)) rfl ?_
    exact s2
set_option maxHeartbeats 4000000 in
set_option maxRecDepth 100000 in
theorem rz_runs_2 (m : mz_M) (hz : Zf m) (h0 : m 65 8 = 0) : ∃ m', (∀ i, i ≠ 65 → m' i = m i) ∧ m' 65 8 = 120 ∧ mz_Me 60 mz_r154 [.ref 65, .int 2] m (some (.int 9)) m' := by
  have r1 := rz_rest m
  have hz2 := zf_eq hz
  rw [hz2] at r1
  obtain ⟨m2, e2, g2, s2⟩ := rz_loop_2 120 0 (by omega) m hz h0
  refine ⟨m2, e2, g2, ⟨?_, rfl⟩⟩
  rw [← hz2]
  refine mz_go 7 (c' := (10, [some (.ref 65), some (.int 2), some (.int 120), none], [], mz_z m)) rfl ?_
  rw [hz2]
  refine mz_go 1 (c' := (11, [some (.ref 65), some (.int 2), some (.int 120), none], [.ref 65], m)) rfl ?_
  refine mz_do (R := mz_r153) (as := [.ref 65]) (rest := []) (r1 := some (.int 9)) (m1 := m) rfl (mz_Me.deep r1 (by decide)) ?_
  refine mz_go 1 (c' := (15, [some (.ref 65), some (.int 2), some (.int 120), some (.int 9)], [], m)) rfl ?_
  exact s2
set_option maxHeartbeats 4000000 in
set_option maxRecDepth 100000 in
theorem cz_ticks (N : Nat) (hN : N < 2 ^ 31) : ∀ n k : Nat, k + n = N → ∀ m, Zf m → m 19 4 = nI k → ∃ m', (∀ i, i ≠ 19 → m' i = m i) ∧ mz_Ex 60 mz_k79 (43, [some (.ref 0), some (.int (nI N)), some (.int (nI k))], [], m) (some (.int (nI N)), m') := by
  intro n
  induction n with
  | zero =>
    intro k hk m hz h4
    have hk2 : k = N := by omega
    subst hk2
    refine ⟨m, fun _ _ => rfl, ?_⟩
    refine mz_go 3 (c' := (if nI k ≤ nI k then 77 else 48, [some (.ref 0), some (.int (nI k)), some (.int (nI k))], [], m)) rfl ?_
    refine mz_ifT (Int32.le_refl _) ?_
    refine mz_go 4 (c' := (87, [some (.ref 0), some (.int (nI k)), some (.int (nI k))], [.int (m 19 4)], m)) rfl ?_
    rw [h4]
    exact mz_ret rfl
  | succ n ih =>
    intro k hk m hz h4
    obtain ⟨m1, e1, g1, s1⟩ := cz_step_19_1 m
    have z1 : Zf m1 := zf_row (zf_z m) rfl e1
    rw [zf_eq hz] at e1 g1
    obtain ⟨m2, e2, s2⟩ := ih (k + 1) (by omega) m1 z1 (by rw [g1, h4, nI_succ])
    rw [nI_succ] at s2
    refine ⟨m2, fun i hi => (e2 i hi).trans (e1 i hi), ?_⟩
    refine mz_go 3 (c' := (if nI N ≤ nI k then 77 else 48, [some (.ref 0), some (.int (nI N)), some (.int (nI k))], [], m)) rfl ?_
    refine mz_ifF (nI_ge (show k < N by omega) hN) ?_
    rw [← zf_eq hz]
    refine mz_go 10 (c' := (68, [some (.ref 0), some (.int (nI N)), some (.int (nI k))], [.int 1, .ref 19, .ref 49], mz_z m)) rfl ?_
    refine mz_do (R := mz_r38) (as := [.ref 49, .ref 19, .int 1]) (rest := []) (r1 := none) (m1 := m1) rfl (mz_Me.deep s1 (by decide)) ?_
    refine mz_go 2 (c' := (43, [some (.ref 0), some (.int (nI N)), some (.int (nI k + 1))], [], m1)) rfl ?_
    exact s2
theorem cz_ticked (a : Int32) (ha : ¬ a < 1) (m : mz_M) (hz : Zf m) (h0 : m 19 4 = 0) : ∃ m', (∀ i, i ≠ 19 → m' i = m i) ∧ mz_Ex 60 mz_k79 (43, [some (.ref 0), some (.int a), some (.int 0)], [], m) (some (.int a), m') := by
  obtain ⟨N, hN, rfl⟩ := nI_of (fun h => ha (Int32.lt_trans h (by decide)))
  exact cz_ticks N hN N 0 (by omega) m hz h0
set_option maxHeartbeats 4000000 in
set_option maxRecDepth 100000 in
theorem rz_ticks (N : Nat) (hN : N < 2 ^ 31) : ∀ n k : Nat, k + n = N → ∀ m, Zf m → m 65 8 = nI k → ∃ m', mz_Ex 60 mz_k177 (44, [some (.ref 65), some (.int (nI N)), some (.int (nI k))], [], m) (some (.int (nI N)), m') := by
  intro n
  induction n with
  | zero =>
    intro k hk m hz h4
    have hk2 : k = N := by omega
    subst hk2
    refine ⟨mz_up (mz_up (mz_up (mz_up (mz_up m 66 20 (m 65 4)) 66 21 (m 65 5)) 66 22 (m 65 6)) 66 23 (m 65 7)) 66 24 (m 65 8), ?_⟩
    refine mz_go 3 (c' := (if nI k ≤ nI k then 63 else 49, [some (.ref 65), some (.int (nI k)), some (.int (nI k))], [], m)) rfl ?_
    refine mz_ifT (Int32.le_refl _) ?_
    refine mz_go 1 (c' := (64, [some (.ref 65), some (.int (nI k)), some (.int (nI k))], [.ref 65], m)) rfl ?_
    refine mz_do (R := mz_r146) (as := [.ref 65]) (rest := []) (r1 := none) (m1 := mz_up (mz_up (mz_up (mz_up (mz_up m 66 20 (m 65 4)) 66 21 (m 65 5)) 66 22 (m 65 6)) 66 23 (m 65 7)) 66 24 (m 65 8)) rfl ⟨?_, rfl⟩ ?_
    · refine mz_go 24 (c' := (44, [some (.ref 65)], [], mz_up (mz_up (mz_up (mz_up m 66 20 (m 65 4)) 66 21 (m 65 5)) 66 22 (m 65 6)) 66 23 (m 65 7))) rfl ?_
      refine mz_go 6 (c' := (55, [some (.ref 65)], [], mz_up (mz_up (mz_up (mz_up (mz_up m 66 20 (m 65 4)) 66 21 (m 65 5)) 66 22 (m 65 6)) 66 23 (m 65 7)) 66 24 (m 65 8))) rfl ?_
      exact mz_ret rfl
    refine mz_go 2 (c' := (71, [some (.ref 65), some (.int (nI k)), some (.int (nI k))], [.int (m 65 8)], mz_up (mz_up (mz_up (mz_up (mz_up m 66 20 (m 65 4)) 66 21 (m 65 5)) 66 22 (m 65 6)) 66 23 (m 65 7)) 66 24 (m 65 8))) rfl ?_
    rw [h4]
    exact mz_ret rfl
  | succ n ih =>
    intro k hk m hz h4
    obtain ⟨m1, e1, g1, s1⟩ := rz_tick_1 m
    have z1 : Zf m1 := zf_row (zf_z m) rfl e1
    rw [zf_eq hz] at g1
    obtain ⟨m2, s2⟩ := ih (k + 1) (by omega) m1 z1 (by rw [g1, h4, nI_succ])
    rw [nI_succ] at s2
    refine ⟨m2, ?_⟩
    refine mz_go 3 (c' := (if nI N ≤ nI k then 63 else 49, [some (.ref 65), some (.int (nI N)), some (.int (nI k))], [], m)) rfl ?_
    refine mz_ifF (nI_ge (show k < N by omega) hN) ?_
    rw [← zf_eq hz]
    refine mz_go 2 (c' := (51, [some (.ref 65), some (.int (nI N)), some (.int (nI k))], [.ref 65, .ref 65], mz_z m)) rfl ?_
    refine mz_do (R := mz_r156) (as := [.ref 65]) (rest := [.ref 65]) (r1 := some (.int 1)) (m1 := mz_z m) rfl ⟨?_, rfl⟩ ?_
    · refine mz_go 4 (c' := (7, [some (.ref 65)], [.int 1], (mz_z m))) rfl ?_
      exact mz_ret rfl
    refine mz_do (R := mz_r152) (as := [.ref 65, .int 1]) (rest := []) (r1 := none) (m1 := m1) rfl (mz_Me.deep s1 (by decide)) ?_
    refine mz_go 2 (c' := (44, [some (.ref 65), some (.int (nI N)), some (.int (nI k + 1))], [], m1)) rfl ?_
    exact s2
theorem rz_ticked (a : Int32) (ha : ¬ a < 1) (m : mz_M) (hz : Zf m) (h0 : m 65 8 = 0) : ∃ m', mz_Ex 60 mz_k177 (44, [some (.ref 65), some (.int a), some (.int 0)], [], m) (some (.int a), m') := by
  obtain ⟨N, hN, rfl⟩ := nI_of (fun h => ha (Int32.lt_trans h (by decide)))
  exact rz_ticks N hN N 0 (by omega) m hz h0
