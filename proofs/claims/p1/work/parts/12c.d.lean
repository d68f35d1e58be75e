set_option maxHeartbeats 4000000 in
set_option maxRecDepth 100000 in
theorem cz_loop_1 (x y u v : Int32) : ∀ n k : Nat, k + n = 60 → ∀ m, Zf m → m 50 4 = nI k → ∃ m', (∀ i, i ≠ 50 → m' i = m i) ∧ m' 50 4 = 60 ∧ mz_Ex 60 mz_k36 (39, [some (.ref 49), some (.int x), some (.int y), some (.int u), some (.int v), some (.int 1), some (.int 60), some (.int 9), some (.int (nI k))], [], m) (some (.int 9), m') := by
  intro n
  induction n with
  | zero =>
    intro k hk m hz h4
    have hk2 : k = 60 := by omega
    subst hk2
    refine ⟨m, fun _ _ => rfl, h4, ?_⟩
    refine mz_go 3 (c' := (if (60 : Int32) ≤ nI 60 then 79 else 46, [some (.ref 49), some (.int x), some (.int y), some (.int u), some (.int v), some (.int 1), some (.int 60), some (.int 9), some (.int (nI 60))], [], m)) rfl ?_
    refine mz_ifT (by decide) ?_
    refine mz_go 1 (c' := (81, [some (.ref 49), some (.int x), some (.int y), some (.int u), some (.int v), some (.int 1), some (.int 60), some (.int 9), some (.int (nI 60))], [.int 9], m)) rfl ?_
    exact mz_ret rfl
  | succ n ih =>
    intro k hk m hz h4
    obtain ⟨m1, e1, g1, s1⟩ := cz_step_50_1 m
    have z1 : Zf m1 := zf_row (zf_z m) rfl e1
    have r1 := cz_rest m1
    rw [zf_eq z1] at r1
    rw [zf_eq hz] at e1 g1 s1
    obtain ⟨m2, e2, g2, s2⟩ := ih (k + 1) (by omega) m1 z1 (by rw [g1, h4, nI_succ])
    rw [nI_succ] at s2
    refine ⟨m2, fun i hi => (e2 i hi).trans (e1 i hi), g2, ?_⟩
    refine mz_go 3 (c' := (if (60 : Int32) ≤ nI k then 79 else 46, [some (.ref 49), some (.int x), some (.int y), some (.int u), some (.int v), some (.int 1), some (.int 60), some (.int 9), some (.int (nI k))], [], m)) rfl ?_
    refine mz_ifF (nI_ge (show k < 60 by omega) (by decide)) ?_
    refine mz_go 7 (c' := (60, [some (.ref 49), some (.int x), some (.int y), some (.int u), some (.int v), some (.int 1), some (.int 60), some (.int 9), some (.int (nI k))], [.int 1, .ref 50, .ref 49], m)) rfl ?_
    refine mz_do (R := mz_r38) (as := [.ref 49, .ref 50, .int 1]) (rest := []) (r1 := none) (m1 := m1) rfl (mz_Me.deep s1 (by decide)) ?_
    refine mz_go 3 (c' := (68, [some (.ref 49), some (.int x), some (.int y), some (.int u), some (.int v), some (.int 1), some (.int 60), some (.int 9), some (.int (nI k))], [.ref 50, .ref 49], m1)) rfl ?_
    refine mz_do (R := mz_r37) (as := [.ref 49, .ref 50]) (rest := []) (r1 := some (.int 9)) (m1 := m1) rfl (mz_Me.deep r1 (by decide)) ?_
    refine mz_go 3 (c' := (39, [some (.ref 49), some (.int x), some (.int y), some (.int u), some (.int v), some (.int 1), some (.int 60), some (.int 9), some (.int (nI k + 1))], [], m1)) rfl ?_
    exact s2
set_option maxHeartbeats 4000000 in
set_option maxRecDepth 100000 in
theorem cz_end_1 (m : mz_M) (hz : Zf m) (x y u v : Int32) : ∃ m', (∀ i, i ≠ 50 → m' i = m i) ∧ m' 50 4 = 60 ∧ mz_Me 60 mz_r36 [.ref 49, .int x, .int y, .int u, .int v, .int 1] m (some (.int 9)) m' := by
  have key : ∃ m', (∀ i, i ≠ 50 → m' i = mz_z m i) ∧ m' 50 4 = 60 ∧ mz_Me 60 mz_r36 [.ref 49, .int x, .int y, .int u, .int v, .int 1] (mz_z m) (some (.int 9)) m' := by
    obtain ⟨M, hM⟩ : ∃ M : mz_M, M = mz_up (mz_up (mz_up (mz_up (mz_up (mz_z m) 50 0 (x * 16)) 50 1 (y * 16)) 50 2 u) 50 3 v) 50 4 0 := ⟨_, rfl⟩
    have z1 : Zf M := by rw [hM]; rfl
    have r1 := cz_rest M
    rw [zf_eq z1] at r1
    have h7 : M 7 2 = 60 := by rw [hM]; rfl
    obtain ⟨m2, e2, g2, s2⟩ := cz_loop_1 x y u v 60 0 (by omega) M z1 (by rw [hM]; rfl)
    refine ⟨m2, fun i hi => ?_, g2, ⟨?_, rfl⟩⟩
    · rw [e2 i hi, hM]
      simp only [mz_up_ne hi]
    refine mz_go 6 (c' := (9, [some (.ref 49), some (.int x), some (.int y), some (.int u), some (.int v), some (.int 1), none, none, none], [.int v, .int u, .int y, .int x, .ref 50], mz_z m)) rfl ?_
    refine mz_do (R := mz_r0) (as := [.ref 50, .int x, .int y, .int u, .int v]) (rest := []) (r1 := none) (m1 := mz_up (mz_up (mz_up (mz_up (mz_up (mz_z m) 50 0 (x * 16)) 50 1 (y * 16)) 50 2 u) 50 3 v) 50 4 0) rfl ⟨?_, rfl⟩ ?_
    · refine mz_go 19 (c' := (32, [some (.ref 50), some (.int x), some (.int y), some (.int u), some (.int v)], [], mz_up (mz_up (mz_up (mz_up (mz_up (mz_z m) 50 0 (x * 16)) 50 1 (y * 16)) 50 2 u) 50 3 v) 50 4 0)) rfl ?_
      exact mz_ret rfl
    refine mz_go 8 (c' := (26, [some (.ref 49), some (.int x), some (.int y), some (.int u), some (.int v), some (.int 1), some (.int 60), none, none], [], mz_up (mz_up (mz_up (mz_up (mz_up (mz_z m) 50 0 (x * 16)) 50 1 (y * 16)) 50 2 u) 50 3 v) 50 4 0)) rfl ?_
    rw [← hM]
    refine mz_go 3 (c' := (31, [some (.ref 49), some (.int x), some (.int y), some (.int u), some (.int v), some (.int 1), some (.int 60), none, none], [.ref 50, .ref 49], M)) rfl ?_
    refine mz_do (R := mz_r37) (as := [.ref 49, .ref 50]) (rest := []) (r1 := some (.int 9)) (m1 := M) rfl (mz_Me.deep r1 (by decide)) ?_
    refine mz_go 3 (c' := (39, [some (.ref 49), some (.int x), some (.int y), some (.int u), some (.int v), some (.int 1), some (.int 60), some (.int 9), some (.int (nI 0))], [], M)) rfl ?_
    exact s2
  rw [zf_eq hz] at key
  exact key
set_option maxHeartbeats 4000000 in
set_option maxRecDepth 100000 in
theorem cz_loop_2 (x y u v : Int32) : ∀ n k : Nat, k + n = 120 → ∀ m, Zf m → m 50 4 = nI k → ∃ m', (∀ i, i ≠ 50 → m' i = m i) ∧ m' 50 4 = 120 ∧ mz_Ex 60 mz_k36 (39, [some (.ref 49), some (.int x), some (.int y), some (.int u), some (.int v), some (.int 2), some (.int 120), some (.int 9), some (.int (nI k))], [], m) (some (.int 9), m') := by
  intro n
  induction n with
  | zero =>
    intro k hk m hz h4
    have hk2 : k = 120 := by omega
    subst hk2
    refine ⟨m, fun _ _ => rfl, h4, ?_⟩
    refine mz_go 3 (c' := (if (120 : Int32) ≤ nI 120 then 79 else 46, [some (.ref 49), some (.int x), some (.int y), some (.int u), some (.int v), some (.int 2), some (.int 120), some (.int 9), some (.int (nI 120))], [], m)) rfl ?_
    refine mz_ifT (by decide) ?_
    refine mz_go 1 (c' := (81, [some (.ref 49), some (.int x), some (.int y), some (.int u), some (.int v), some (.int 2), some (.int 120), some (.int 9), some (.int (nI 120))], [.int 9], m)) rfl ?_
    exact mz_ret rfl
  | succ n ih =>
    intro k hk m hz h4
    obtain ⟨m1, e1, g1, s1⟩ := cz_step_50_2 m
    have z1 : Zf m1 := zf_row (zf_z m) rfl e1
    have r1 := cz_rest m1
    rw [zf_eq z1] at r1
    rw [zf_eq hz] at e1 g1 s1
    obtain ⟨m2, e2, g2, s2⟩ := ih (k + 1) (by omega) m1 z1 (by rw [g1, h4, nI_succ])
    rw [nI_succ] at s2
    refine ⟨m2, fun i hi => (e2 i hi).trans (e1 i hi), g2, ?_⟩
    refine mz_go 3 (c' := (if (120 : Int32) ≤ nI k then 79 else 46, [some (.ref 49), some (.int x), some (.int y), some (.int u), some (.int v), some (.int 2), some (.int 120), some (.int 9), some (.int (nI k))], [], m)) rfl ?_
    refine mz_ifF (nI_ge (show k < 120 by omega) (by decide)) ?_
    refine mz_go 7 (c' := (60, [some (.ref 49), some (.int x), some (.int y), some (.int u), some (.int v), some (.int 2), some (.int 120), some (.int 9), some (.int (nI k))], [.int 2, .ref 50, .ref 49], m)) rfl ?_
    refine mz_do (R := mz_r38) (as := [.ref 49, .ref 50, .int 2]) (rest := []) (r1 := none) (m1 := m1) rfl (mz_Me.deep s1 (by decide)) ?_
    refine mz_go 3 (c' := (68, [some (.ref 49), some (.int x), some (.int y), some (.int u), some (.int v), some (.int 2), some (.int 120), some (.int 9), some (.int (nI k))], [.ref 50, .ref 49], m1)) rfl ?_
    refine mz_do (R := mz_r37) (as := [.ref 49, .ref 50]) (rest := []) (r1 := some (.int 9)) (m1 := m1) rfl (mz_Me.deep r1 (by decide)) ?_
    refine mz_go 3 (c' := (39, [some (.ref 49), some (.int x), some (.int y), some (.int u), some (.int v), some (.int 2), some (.int 120), some (.int 9), some (.int (nI k + 1))], [], m1)) rfl ?_
    exact s2
set_option maxHeartbeats 4000000 in
set_option maxRecDepth 100000 in
theorem cz_end_2 (m : mz_M) (hz : Zf m) (x y u v : Int32) : ∃ m', (∀ i, i ≠ 50 → m' i = m i) ∧ m' 50 4 = 120 ∧ mz_Me 60 mz_r36 [.ref 49, .int x, .int y, .int u, .int v, .int 2] m (some (.int 9)) m' := by
  have key : ∃ m', (∀ i, i ≠ 50 → m' i = mz_z m i) ∧ m' 50 4 = 120 ∧ mz_Me 60 mz_r36 [.ref 49, .int x, .int y, .int u, .int v, .int 2] (mz_z m) (some (.int 9)) m' := by
    obtain ⟨M, hM⟩ : ∃ M : mz_M, M = mz_up (mz_up (mz_up (mz_up (mz_up (mz_z m) 50 0 (x * 16)) 50 1 (y * 16)) 50 2 u) 50 3 v) 50 4 0 := ⟨_, rfl⟩
    have z1 : Zf M := by rw [hM]; rfl
    have r1 := cz_rest M
    rw [zf_eq z1] at r1
    have h7 : M 7 2 = 60 := by rw [hM]; rfl
    obtain ⟨m2, e2, g2, s2⟩ := cz_loop_2 x y u v 120 0 (by omega) M z1 (by rw [hM]; rfl)
    refine ⟨m2, fun i hi => ?_, g2, ⟨?_, rfl⟩⟩
    · rw [e2 i hi, hM]
      simp only [mz_up_ne hi]
    refine mz_go 6 (c' := (9, [some (.ref 49), some (.int x), some (.int y), some (.int u), some (.int v), some (.int 2), none, none, none], [.int v, .int u, .int y, .int x, .ref 50], mz_z m)) rfl ?_
    refine mz_do (R := mz_r0) (as := [.ref 50, .int x, .int y, .int u, .int v]) (rest := []) (r1 := none) (m1 := mz_up (mz_up (mz_up (mz_up (mz_up (mz_z m) 50 0 (x * 16)) 50 1 (y * 16)) 50 2 u) 50 3 v) 50 4 0) rfl ⟨?_, rfl⟩ ?_
    · refine mz_go 19 (c' := (32, [some (.ref 50), some (.int x), some (.int y), some (.int u), some (.int v)], [], mz_up (mz_up (mz_up (mz_up (mz_up (mz_z m) 50 0 (x * 16)) 50 1 (y * 16)) 50 2 u) 50 3 v) 50 4 0)) rfl ?_
      exact mz_ret rfl
    refine mz_go 8 (c' := (26, [some (.ref 49), some (.int x), some (.int y), some (.int u), some (.int v), some (.int 2), some (.int 120), none, none], [], mz_up (mz_up (mz_up (mz_up (mz_up (mz_z m) 50 0 (x * 16)) 50 1 (y * 16)) 50 2 u) 50 3 v) 50 4 0)) rfl ?_
    rw [← hM]
    refine mz_go 3 (c' := (31, [some (.ref 49), some (.int x), some (.int y), some (.int u), some (.int v), some (.int 2), some (.int 120), none, none], [.ref 50, .ref 49], M)) rfl ?_
    refine mz_do (R := mz_r37) (as := [.ref 49, .ref 50]) (rest := []) (r1 := some (.int 9)) (m1 := M) rfl (mz_Me.deep r1 (by decide)) ?_
    refine mz_go 3 (c' := (39, [some (.ref 49), some (.int x), some (.int y), some (.int u), some (.int v), some (.int 2), some (.int 120), some (.int 9), some (.int (nI 0))], [], M)) rfl ?_
    exact s2
  rw [zf_eq hz] at key
  exact key
set_option maxHeartbeats 4000000 in
set_option maxRecDepth 100000 in
theorem rz_loop_1 : ∀ n k : Nat, k + n = 60 → ∀ m, Zf m → m 65 8 = nI k → ∃ m', (∀ i, i ≠ 65 → m' i = m i) ∧ m' 65 8 = 60 ∧ mz_Ex 60 mz_k154 (15, [some (.ref 65), some (.int 1), some (.int 60), some (.int 9)], [], m) (some (.int 9), m') := by
  intro n
  induction n with
  | zero =>
    intro k hk m hz h4
    have hk2 : k = 60 := by omega
    subst hk2
    refine ⟨m, fun _ _ => rfl, h4, ?_⟩
    refine mz_go 7 (c' := (if (60 : Int32) ≤ m 65 8 then 42 else 29, [some (.ref 65), some (.int 1), some (.int 60), some (.int 9)], [], m)) rfl ?_
    refine mz_ifT (by rw [h4]; decide) ?_
    refine mz_go 1 (c' := (43, [some (.ref 65), some (.int 1), some (.int 60), some (.int 9)], [.int 9], m)) rfl ?_
    exact mz_ret rfl
  | succ n ih =>
    intro k hk m hz h4
    obtain ⟨m1, e1, g1, s1⟩ := rz_tick_1 m
    have z1 : Zf m1 := zf_row (zf_z m) rfl e1
    have r1 := rz_rest m1
    rw [zf_eq z1] at r1
    rw [zf_eq hz] at e1 g1 s1
    obtain ⟨m2, e2, g2, s2⟩ := ih (k + 1) (by omega) m1 z1 (by rw [g1, h4, nI_succ])
    refine ⟨m2, fun i hi => (e2 i hi).trans (e1 i hi), g2, ?_⟩
    refine mz_go 7 (c' := (if (60 : Int32) ≤ m 65 8 then 42 else 29, [some (.ref 65), some (.int 1), some (.int 60), some (.int 9)], [], m)) rfl ?_
    refine mz_ifF (by rw [h4]; exact nI_ge (show k < 60 by omega) (by decide)) ?_
    refine mz_go 2 (c' := (31, [some (.ref 65), some (.int 1), some (.int 60), some (.int 9)], [.int 1, .ref 65], m)) rfl ?_
    refine mz_do (R := mz_r152) (as := [.ref 65, .int 1]) (rest := []) (r1 := none) (m1 := m1) rfl (mz_Me.deep s1 (by decide)) ?_
    refine mz_go 1 (c' := (35, [some (.ref 65), some (.int 1), some (.int 60), some (.int 9)], [.ref 65], m1)) rfl ?_
    refine mz_do (R := mz_r153) (as := [.ref 65]) (rest := []) (r1 := some (.int 9)) (m1 := m1) rfl (mz_Me.deep r1 (by decide)) ?_
    refine mz_go 2 (c' := (15, [some (.ref 65), some (.int 1), some (.int 60), some (.int 9)], [], m1)) rfl ?_
    exact s2
set_option maxHeartbeats 4000000 in
set_option maxRecDepth 100000 in
theorem rz_runs_1 (m : mz_M) (hz : Zf m) (h0 : m 65 8 = 0) : ∃ m', (∀ i, i ≠ 65 → m' i = m i) ∧ m' 65 8 = 60 ∧ mz_Me 60 mz_r154 [.ref 65, .int 1] m (some (.int 9)) m' := by
  have r1 := rz_rest m
  have hz2 := zf_eq hz
  rw [hz2] at r1
  obtain ⟨m2, e2, g2, s2⟩ := rz_loop_1 60 0 (by omega) m hz h0
  refine ⟨m2, e2, g2, ⟨?_, rfl⟩⟩
  rw [← hz2]
  refine mz_go 7 (c' := (10, [some (.ref 65), some (.int 1), some (.int 60), none], [], mz_z m)) rfl ?_
  rw [hz2]
  refine mz_go 1 (c' := (11, [some (.ref 65), some (.int 1), some (.int 60), none], [.ref 65], m)) rfl ?_
  refine mz_do (R := mz_r153) (as := [.ref 65]) (rest := []) (r1 := some (.int 9)) (m1 := m) rfl (mz_Me.deep r1 (by decide)) ?_
  refine mz_go 1 (c' := (15, [some (.ref 65), some (.int 1), some (.int 60), some (.int 9)], [], m)) rfl ?_
  exact s2
set_option maxHeartbeats 4000000 in
set_option maxRecDepth 100000 in
theorem rz_loop_2 : ∀ n k : Nat, k + n = 120 → ∀ m, Zf m → m 65 8 = nI k → ∃ m', (∀ i, i ≠ 65 → m' i = m i) ∧ m' 65 8 = 120 ∧ mz_Ex 60 mz_k154 (15, [some (.ref 65), some (.int 2), some (.int 120), some (.int 9)], [], m) (some (.int 9), m') := by
  intro n
  induction n with
  | zero =>
    intro k hk m hz h4
    have hk2 : k = 120 := by omega
    subst hk2
    refine ⟨m, fun _ _ => rfl, h4, ?_⟩
    refine mz_go 7 (c' := (if (120 : Int32) ≤ m 65 8 then 42 else 29, [some (.ref 65), some (.int 2), some (.int 120), some (.int 9)], [], m)) rfl ?_
    refine mz_ifT (by rw [h4]; decide) ?_
    refine mz_go 1 (c' := (43, [some (.ref 65), some (.int 2), some (.int 120), some (.int 9)], [.int 9], m)) rfl ?_
    exact mz_ret rfl
  | succ n ih =>
    intro k hk m hz h4
    obtain ⟨m1, e1, g1, s1⟩ := rz_tick_2 m
    have z1 : Zf m1 := zf_row (zf_z m) rfl e1
    have r1 := rz_rest m1
    rw [zf_eq z1] at r1
    rw [zf_eq hz] at e1 g1 s1
    obtain ⟨m2, e2, g2, s2⟩ := ih (k + 1) (by omega) m1 z1 (by rw [g1, h4, nI_succ])
    refine ⟨m2, fun i hi => (e2 i hi).trans (e1 i hi), g2, ?_⟩
    refine mz_go 7 (c' := (if (120 : Int32) ≤ m 65 8 then 42 else 29, [some (.ref 65), some (.int 2), some (.int 120), some (.int 9)], [], m)) rfl ?_
    refine mz_ifF (by rw [h4]; exact nI_ge (show k < 120 by omega) (by decide)) ?_
    refine mz_go 2 (c' := (31, [some (.ref 65), some (.int 2), some (.int 120), some (.int 9)], [.int 2, .ref 65], m)) rfl ?_
    refine mz_do (R := mz_r152) (as := [.ref 65, .int 2]) (rest := []) (r1 := none) (m1 := m1) rfl (mz_Me.deep s1 (by decide)) ?_
    refine mz_go 1 (c' := (35, [some (.ref 65), some (.int 2), some (.int 120), some (.int 9)], [.ref 65], m1)) rfl ?_
    refine mz_do (R := mz_r153) (as := [.ref 65]) (rest := []) (r1 := some (.int 9)) (m1 := m1) rfl (mz_Me.deep r1 (by decide)) ?_
    refine mz_go 2 (c' := (15, [some (.ref 65), some (.int 2), some (.int 120), some (.int 9)], [], m1)) rfl ?_
    exact s2
set_option maxHeartbeats 4000000 in
set_option maxRecDepth 100000 in
theorem rz_runs_2 (m : mz_M) (hz : Zf m) (h0 : m 65 8 = 0) : ∃ m', (∀ i, i ≠ 65 → m' i = m i) ∧ m' 65 8 = 120 ∧ mz_Me 60 mz_r154 [.ref 65, .int 2] m (some (.int 9)) m' := by
  have r1 := rz_rest m
  have hz2 := zf_eq hz
  rw [hz2] at r1
  obtain ⟨m2, e2, g2, s2⟩ := rz_loop_2 120 0 (by omega) m hz h0
  refine ⟨m2, e2, g2, ⟨?_, rfl⟩⟩
  rw [← hz2]
  refine mz_go 7 (c' := (10, [some (.ref 65), some (.int 2), some (.int 120), none], [], mz_z m)) rfl ?_
  rw [hz2]
  refine mz_go 1 (c' := (11, [some (.ref 65), some (.int 2), some (.int 120), none], [.ref 65], m)) rfl ?_
  refine mz_do (R := mz_r153) (as := [.ref 65]) (rest := []) (r1 := some (.int 9)) (m1 := m) rfl (mz_Me.deep r1 (by decide)) ?_
  refine mz_go 1 (c' := (15, [some (.ref 65), some (.int 2), some (.int 120), some (.int 9)], [], m)) rfl ?_
  exact s2
set_option maxHeartbeats 4000000 in
set_option maxRecDepth 100000 in
theorem cz_ticks (N : Nat) (hN : N < 2 ^ 31) : ∀ n k : Nat, k + n = N → ∀ m, Zf m → m 19 4 = nI k → ∃ m', (∀ i, i ≠ 19 → m' i = m i) ∧ mz_Ex 60 mz_k79 (43, [some (.ref 0), some (.int (nI N)), some (.int (nI k))], [], m) (some (.int (nI N)), m') := by
  intro n
  induction n with
  | zero =>
    intro k hk m hz h4
    have hk2 : k = N := by omega
    subst hk2
    refine ⟨m, fun _ _ => rfl, ?_⟩
    refine mz_go 3 (c' := (if nI k ≤ nI k then 77 else 48, [some (.ref 0), some (.int (nI k)), some (.int (nI k))], [], m)) rfl ?_
    refine mz_ifT (Int32.le_refl _) ?_
    refine mz_go 4 (c' := (87, [some (.ref 0), some (.int (nI k)), some (.int (nI k))], [.int (m 19 4)], m)) rfl ?_
    rw [h4]
    exact mz_ret rfl
  | succ n ih =>
    intro k hk m hz h4
    obtain ⟨m1, e1, g1, s1⟩ := cz_step_19_1 m
    have z1 : Zf m1 := zf_row (zf_z m) rfl e1
    rw [zf_eq hz] at e1 g1
    obtain ⟨m2, e2, s2⟩ := ih (k + 1) (by omega) m1 z1 (by rw [g1, h4, nI_succ])
    rw [nI_succ] at s2
    refine ⟨m2, fun i hi => (e2 i hi).trans (e1 i hi), ?_⟩
    refine mz_go 3 (c' := (if nI N ≤ nI k then 77 else 48, [some (.ref 0), some (.int (nI N)), some (.int (nI k))], [], m)) rfl ?_
    refine mz_ifF (nI_ge (show k < N by omega) hN) ?_
    rw [← zf_eq hz]
    refine mz_go 10 (c' := (68, [some (.ref 0), some (.int (nI N)), some (.int (nI k))], [.int 1, .ref 19, .ref 49], mz_z m)) rfl ?_
    refine mz_do (R := mz_r38) (as := [.ref 49, .ref 19, .int 1]) (rest := []) (r1 := none) (m1 := m1) rfl (mz_Me.deep s1 (by decide)) ?_
    refine mz_go 2 (c' := (43, [some (.ref 0), some (.int (nI N)), some (.int (nI k + 1))], [], m1)) rfl ?_
    exact s2
theorem cz_ticked (a : Int32) (ha : ¬ a < 1) (m : mz_M) (hz : Zf m) (h0 : m 19 4 = 0) : ∃ m', (∀ i, i ≠ 19 → m' i = m i) ∧ mz_Ex 60 mz_k79 (43, [some (.ref 0), some (.int a), some (.int 0)], [], m) (some (.int a), m') := by
  obtain ⟨N, hN, rfl⟩ := nI_of (fun h => ha (Int32.lt_trans h (by decide)))
  exact cz_ticks N hN N 0 (by omega) m hz h0
set_option maxHeartbeats 4000000 in
set_option maxRecDepth 100000 in
theorem rz_ticks (N : Nat) (hN : N < 2 ^ 31) : ∀ n k : Nat, k + n = N → ∀ m, Zf m → m 65 8 = nI k → ∃ m', mz_Ex 60 mz_k177 (44, [some (.ref 65), some (.int (nI N)), some (.int (nI k))], [], m) (some (.int (nI N)), m') := by
  intro n
  induction n with
  | zero =>
    intro k hk m hz h4
    have hk2 : k = N := by omega
    subst hk2
    refine ⟨mz_up (mz_up (mz_up (mz_up (mz_up m 66 20 (m 65 4)) 66 21 (m 65 5)) 66 22 (m 65 6)) 66 23 (m 65 7)) 66 24 (m 65 8), ?_⟩
    refine mz_go 3 (c' := (if nI k ≤ nI k then 63 else 49, [some (.ref 65), some (.int (nI k)), some (.int (nI k))], [], m)) rfl ?_
    refine mz_ifT (Int32.le_refl _) ?_
    refine mz_go 1 (c' := (64, [some (.ref 65), some (.int (nI k)), some (.int (nI k))], [.ref 65], m)) rfl ?_
    refine mz_do (R := mz_r146) (as := [.ref 65]) (rest := []) (r1 := none) (m1 := mz_up (mz_up (mz_up (mz_up (mz_up m 66 20 (m 65 4)) 66 21 (m 65 5)) 66 22 (m 65 6)) 66 23 (m 65 7)) 66 24 (m 65 8)) rfl ⟨?_, rfl⟩ ?_
    · refine mz_go 24 (c' := (44, [some (.ref 65)], [], mz_up (mz_up (mz_up (mz_up m 66 20 (m 65 4)) 66 21 (m 65 5)) 66 22 (m 65 6)) 66 23 (m 65 7))) rfl ?_
      refine mz_go 6 (c' := (55, [some (.ref 65)], [], mz_up (mz_up (mz_up (mz_up (mz_up m 66 20 (m 65 4)) 66 21 (m 65 5)) 66 22 (m 65 6)) 66 23 (m 65 7)) 66 24 (m 65 8))) rfl ?_
      exact mz_ret rfl
    refine mz_go 2 (c' := (71, [some (.ref 65), some (.int (nI k)), some (.int (nI k))], [.int (m 65 8)], mz_up (mz_up (mz_up (mz_up (mz_up m 66 20 (m 65 4)) 66 21 (m 65 5)) 66 22 (m 65 6)) 66 23 (m 65 7)) 66 24 (m 65 8))) rfl ?_
    rw [h4]
    exact mz_ret rfl
  | succ n ih =>
    intro k hk m hz h4
    obtain ⟨m1, e1, g1, s1⟩ := rz_tick_1 m
    have z1 : Zf m1 := zf_row (zf_z m) rfl e1
    rw [zf_eq hz] at g1
    obtain ⟨m2, s2⟩ := ih (k + 1) (by omega) m1 z1 (by rw [g1, h4, nI_succ])
    rw [nI_succ] at s2
    refine ⟨m2, ?_⟩
    refine mz_go 3 (c' := (if nI N ≤ nI k then 63 else 49, [some (.ref 65), some (.int (nI N)), some (.int (nI k))], [], m)) rfl ?_
    refine mz_ifF (nI_ge (show k < N by omega) hN) ?_
    rw [← zf_eq hz]
    refine mz_go 2 (c' := (51, [some (.ref 65), some (.int (nI N)), some (.int (nI k))], [.ref 65, .ref 65], mz_z m)) rfl ?_
    refine mz_do (R := mz_r156) (as := [.ref 65]) (rest := [.ref 65]) (r1 := some (.int 1)) (m1 := mz_z m) rfl ⟨?_, rfl⟩ ?_
    · refine mz_go 4 (c' := (7, [some (.ref 65)], [.int 1], (mz_z m))) rfl ?_
      exact mz_ret rfl
    refine mz_do (R := mz_r152) (as := [.ref 65, .int 1]) (rest := []) (r1 := none) (m1 := m1) rfl (mz_Me.deep s1 (by decide)) ?_
    refine mz_go 2 (c' := (44, [some (.ref 65), some (.int (nI N)), some (.int (nI k + 1))], [], m1)) rfl ?_
    exact s2
theorem rz_ticked (a : Int32) (ha : ¬ a < 1) (m : mz_M) (hz : Zf m) (h0 : m 65 8 = 0) : ∃ m', mz_Ex 60 mz_k177 (44, [some (.ref 65), some (.int a), some (.int 0)], [], m) (some (.int a), m') := by
  obtain ⟨N, hN, rfl⟩ := nI_of (fun h => ha (Int32.lt_trans h (by decide)))
  exact rz_ticks N hN N 0 (by omega) m hz h0
set_option maxHeartbeats 4000000 in
set_option maxRecDepth 100000 in
theorem rz_image : ∀ n k : Nat, k + n = 650 → ∀ m, ∃ m', (∀ i, i ≠ 67 → m' i = m i) ∧ ∀ r, mz_Ex 60 mz_k224 (27, [some (.ref 65), some (.int (nI 650))], [], m') r → mz_Ex 60 mz_k224 (2, [some (.ref 65), some (.int (nI k))], [], m) r := by
  intro n
  induction n with
  | zero =>
    intro k hk m
    have hk2 : k = 650 := by omega
    subst hk2
    refine ⟨m, fun _ _ => rfl, fun r hr => ?_⟩
    refine mz_go 3 (c' := (if (650 : Int32) ≤ nI 650 then 27 else 9, [some (.ref 65), some (.int (nI 650))], [], m)) rfl ?_
    exact mz_ifT (by decide) hr
  | succ n ih =>
    intro k hk m
    have hin : mz_in (nI k) 650 = true := mz_inH (nI_pos (show k < 2 ^ 31 by omega)) (nI_lt (show k < 650 by omega) (by decide)) (by decide)
    obtain ⟨m1, e1, f1⟩ := ih (k + 1) (by omega) (mz_up m 67 (nI k).toNatClampNeg (m 66 (nI k).toNatClampNeg))
    rw [nI_succ k] at f1
    refine ⟨m1, fun i hi => (e1 i hi).trans (mz_up_ne hi), fun r hr => ?_⟩
    refine mz_go 3 (c' := (if (650 : Int32) ≤ nI k then 27 else 9, [some (.ref 65), some (.int (nI k))], [], m)) rfl ?_
    refine mz_ifF (nI_ge (show k < 650 by omega) (by decide)) ?_
    refine mz_go 6 (c' := (19, [some (.ref 65), some (.int (nI k))], [.int (nI k), .ref 66, .int (nI k), .ref 67], m)) rfl ?_
    refine mz_arr (c' := (20, [some (.ref 65), some (.int (nI k))], [.int (m 66 (nI k).toNatClampNeg), .int (nI k), .ref 67], m)) rfl hin ?_
    refine mz_arr (c' := (21, [some (.ref 65), some (.int (nI k))], [], mz_up m 67 (nI k).toNatClampNeg (m 66 (nI k).toNatClampNeg))) rfl hin ?_
    refine mz_go 2 (c' := (2, [some (.ref 65), some (.int (nI k + 1))], [], mz_up m 67 (nI k).toNatClampNeg (m 66 (nI k).toNatClampNeg))) rfl ?_
    exact f1 r hr
set_option maxHeartbeats 4000000 in
set_option maxRecDepth 100000 in
theorem rz_imaged (m : mz_M) (h0 : m 65 2 = 0) : ∃ m', mz_Me 60 mz_r224 [.ref 65] m (some (.int 1)) m' := by
  obtain ⟨m1, e1, f1⟩ := rz_image 650 0 (by omega) m
  have h2 : m1 65 2 = 0 := by rw [e1 65 (by decide)]; exact h0
  refine ⟨mz_up m1 65 2 1, ⟨?_, rfl⟩⟩
  refine mz_go 2 (c' := (2, [some (.ref 65), some (.int (nI 0))], [], m)) rfl ?_
  refine f1 _ ?_
  refine mz_go 3 (c' := (32, [some (.ref 65), some (.int (nI 650))], [.int (m1 65 2), .ref 65], m1)) rfl ?_
  rw [h2]
  refine mz_go 5 (c' := (41, [some (.ref 65), some (.int (nI 650))], [.int 1], mz_up m1 65 2 1)) rfl ?_
  exact mz_ret rfl
set_option maxHeartbeats 4000000 in
set_option maxRecDepth 100000 in
theorem cz_throw (x y d n k : Int32) (hk : ¬ n ≤ k) (l7 l8 l9 : Option Value) (m : mz_M) : ∃ (m' : mz_M) (a7 a8 a9 : Int32), Zf m' ∧ m' 23 9 = mz_z m 23 9 + 1 ∧ ∀ r, mz_Ex 70 mz_k94 (60, [some (.ref 0), some (.int x), some (.int y), some (.int d), some (.int n), some (.ref 23), some (.int (k + 1)), some (.int a7), some (.int a8), some (.int a9)], [], m') r → mz_Ex 70 mz_k94 (60, [some (.ref 0), some (.int x), some (.int y), some (.int d), some (.int n), some (.ref 23), some (.int k), l7, l8, l9], [], mz_z m) r := by
  let t1 : Int32 := if (-100) < (if (x + 0) < 100 then (x + 0) else 100) then (if (x + 0) < 100 then (x + 0) else 100) else (-100)
  let t2 : Int32 := (((((mz_z m) 1 12) * 1103515245) + 12345) * 1103515245) + 12345
  let t3 : Int32 := if (-100) < (if (y + 0) < 100 then (y + 0) else 100) then (if (y + 0) < 100 then (y + 0) else 100) else (-100)
  let t4 : Int32 := (((((mz_z m) 1 12) * 1103515245) + 12345 : Int32).toUInt32 >>> ((8 : Int32).toUInt32 &&& Int32.toUInt32 31)).toInt32
  let t5 : Int32 := if (x + ((t4 - t4 / ((2 * d) + 1) * ((2 * d) + 1)) - d)) < 100 then (x + ((t4 - t4 / ((2 * d) + 1) * ((2 * d) + 1)) - d)) else 100
  let t6 : Int32 := ((t2 : Int32).toUInt32 >>> ((8 : Int32).toUInt32 &&& Int32.toUInt32 31)).toInt32
  let t7 : Int32 := if (y + ((t6 - t6 / ((2 * d) + 1) * ((2 * d) + 1)) - d)) < 100 then (y + ((t6 - t6 / ((2 * d) + 1) * ((2 * d) + 1)) - d)) else 100
  by_cases h1 : ((2 * d) + 1) ≤ 0
  · obtain ⟨mm1, me1, mg1, ms1⟩ := cz_end_1 (mz_up (mz_up (mz_z m) 1 12 ((((mz_z m) 1 12) * 1103515245) + 12345)) 1 12 t2) rfl t1 t3 0 0
    have mw1 : Zf mm1 := zf_row (show Zf (mz_up (mz_up (mz_z m) 1 12 ((((mz_z m) 1 12) * 1103515245) + 12345)) 1 12 t2) from rfl) rfl me1
    have ms1 : mz_Me 60 mz_r36 [.ref 49, .int t1, .int t3, .int 0, .int 0, .int 1] (mz_up (mz_up (mz_z m) 1 12 ((((mz_z m) 1 12) * 1103515245) + 12345)) 1 12 t2) (some (.int 9)) (mz_up (mz_z mm1) 50 4 60) := by rw [zf_eq mw1, mz_up_id mg1]; exact ms1
    refine ⟨mz_up (mz_up (mz_z mm1) 50 4 60) 23 9 (((mz_z mm1) 23 9) + 1), t1, t3, 9, rfl, (by show (mz_z mm1) 23 9 + 1 = _; rw [zf_eq mw1, me1 23 (by decide)]; rfl), fun r hr => ?_⟩
    refine mz_go 3 (c' := (if n ≤ k then 149 else 67, [some (.ref 0), some (.int x), some (.int y), some (.int d), some (.int n), some (.ref 23), some (.int k), l7, l8, l9], [], (mz_z m))) rfl ?_
    refine mz_ifF hk ?_
    refine mz_go 3 (c' := (70, [some (.ref 0), some (.int x), some (.int y), some (.int d), some (.int n), some (.ref 23), some (.int k), l7, l8, l9], [.int d, .ref 0, .int x], (mz_z m))) rfl ?_
    refine mz_do (R := mz_r111) (as := [.ref 0, .int d]) (rest := [.int x]) (r1 := some (.int 0)) (m1 := mz_up (mz_z m) 1 12 ((((mz_z m) 1 12) * 1103515245) + 12345)) rfl ⟨?_, rfl⟩ ?_
    · refine mz_go 18 (c' := (if ((2 * d) + 1) ≤ 0 then 49 else 32, [some (.ref 0), some (.int d), some (.int ((2 * d) + 1))], [], mz_up (mz_z m) 1 12 ((((mz_z m) 1 12) * 1103515245) + 12345))) rfl ?_
      refine mz_ifT h1 ?_
      refine mz_go 1 (c' := (50, [some (.ref 0), some (.int d), some (.int ((2 * d) + 1))], [.int 0], mz_up (mz_z m) 1 12 ((((mz_z m) 1 12) * 1103515245) + 12345))) rfl ?_
      exact mz_ret rfl
    refine mz_go 3 (c' := (78, [some (.ref 0), some (.int x), some (.int y), some (.int d), some (.int n), some (.ref 23), some (.int k), l7, l8, l9], [.int 100, .int (-100), .int (x + 0)], mz_up (mz_z m) 1 12 ((((mz_z m) 1 12) * 1103515245) + 12345))) rfl ?_
    refine mz_do (R := mz_r122) (as := [.int (x + 0), .int (-100), .int 100]) (rest := []) (r1 := some (.int t1)) (m1 := mz_up (mz_z m) 1 12 ((((mz_z m) 1 12) * 1103515245) + 12345)) rfl ⟨?_, rfl⟩ ?_
    · refine mz_go 5 (c' := (9, [some (.int (x + 0)), some (.int (-100)), some (.int 100)], [.int t1], mz_up (mz_z m) 1 12 ((((mz_z m) 1 12) * 1103515245) + 12345))) rfl ?_
      exact mz_ret rfl
    refine mz_go 4 (c' := (86, [some (.ref 0), some (.int x), some (.int y), some (.int d), some (.int n), some (.ref 23), some (.int k), some (.int t1), l8, l9], [.int d, .ref 0, .int y], mz_up (mz_z m) 1 12 ((((mz_z m) 1 12) * 1103515245) + 12345))) rfl ?_
    refine mz_do (R := mz_r111) (as := [.ref 0, .int d]) (rest := [.int y]) (r1 := some (.int 0)) (m1 := mz_up (mz_up (mz_z m) 1 12 ((((mz_z m) 1 12) * 1103515245) + 12345)) 1 12 t2) rfl ⟨?_, rfl⟩ ?_
    · refine mz_go 18 (c' := (if ((2 * d) + 1) ≤ 0 then 49 else 32, [some (.ref 0), some (.int d), some (.int ((2 * d) + 1))], [], mz_up (mz_up (mz_z m) 1 12 ((((mz_z m) 1 12) * 1103515245) + 12345)) 1 12 t2)) rfl ?_
      refine mz_ifT h1 ?_
      refine mz_go 1 (c' := (50, [some (.ref 0), some (.int d), some (.int ((2 * d) + 1))], [.int 0], mz_up (mz_up (mz_z m) 1 12 ((((mz_z m) 1 12) * 1103515245) + 12345)) 1 12 t2)) rfl ?_
      exact mz_ret rfl
    refine mz_go 3 (c' := (94, [some (.ref 0), some (.int x), some (.int y), some (.int d), some (.int n), some (.ref 23), some (.int k), some (.int t1), l8, l9], [.int 100, .int (-100), .int (y + 0)], mz_up (mz_up (mz_z m) 1 12 ((((mz_z m) 1 12) * 1103515245) + 12345)) 1 12 t2)) rfl ?_
    refine mz_do (R := mz_r122) (as := [.int (y + 0), .int (-100), .int 100]) (rest := []) (r1 := some (.int t3)) (m1 := mz_up (mz_up (mz_z m) 1 12 ((((mz_z m) 1 12) * 1103515245) + 12345)) 1 12 t2) rfl ⟨?_, rfl⟩ ?_
    · refine mz_go 5 (c' := (9, [some (.int (y + 0)), some (.int (-100)), some (.int 100)], [.int t3], mz_up (mz_up (mz_z m) 1 12 ((((mz_z m) 1 12) * 1103515245) + 12345)) 1 12 t2)) rfl ?_
      exact mz_ret rfl
    refine mz_go 12 (c' := (118, [some (.ref 0), some (.int x), some (.int y), some (.int d), some (.int n), some (.ref 23), some (.int k), some (.int t1), some (.int t3), l9], [.int 1, .int 0, .int 0, .int t3, .int t1, .ref 49], mz_up (mz_up (mz_z m) 1 12 ((((mz_z m) 1 12) * 1103515245) + 12345)) 1 12 t2)) rfl ?_
    refine mz_do (R := mz_r36) (as := [.ref 49, .int t1, .int t3, .int 0, .int 0, .int 1]) (rest := []) (r1 := some (.int 9)) (m1 := mz_up (mz_z mm1) 50 4 60) rfl (mz_Me.deep ms1 (by decide)) ?_
    refine mz_go 4 (c' := (128, [some (.ref 0), some (.int x), some (.int y), some (.int d), some (.int n), some (.ref 23), some (.int k), some (.int t1), some (.int t3), some (.int 9)], [.int 9, .int 0, .int 9], mz_up (mz_z mm1) 50 4 60)) rfl ?_
    refine mz_do (R := mz_r121) (as := [.int 9, .int 0, .int 9]) (rest := []) (r1 := some (.int 1)) (m1 := mz_up (mz_z mm1) 50 4 60) rfl ⟨?_, rfl⟩ ?_
    · refine mz_go 8 (c' := (15, [some (.int 9), some (.int 0), some (.int 9)], [.int 1], mz_up (mz_z mm1) 50 4 60)) rfl ?_
      exact mz_ret rfl
    refine mz_go 10 (c' := (60, [some (.ref 0), some (.int x), some (.int y), some (.int d), some (.int n), some (.ref 23), some (.int (k + 1)), some (.int t1), some (.int t3), some (.int 9)], [], mz_up (mz_up (mz_z mm1) 50 4 60) 23 9 (((mz_z mm1) 23 9) + 1))) rfl ?_
    exact hr
  · obtain ⟨mm1, me1, mg1, ms1⟩ := cz_end_1 (mz_up (mz_up (mz_z m) 1 12 ((((mz_z m) 1 12) * 1103515245) + 12345)) 1 12 t2) rfl (if (-100) < t5 then t5 else (-100)) (if (-100) < t7 then t7 else (-100)) 0 0
    have mw1 : Zf mm1 := zf_row (show Zf (mz_up (mz_up (mz_z m) 1 12 ((((mz_z m) 1 12) * 1103515245) + 12345)) 1 12 t2) from rfl) rfl me1
    have ms1 : mz_Me 60 mz_r36 [.ref 49, .int (if (-100) < t5 then t5 else (-100)), .int (if (-100) < t7 then t7 else (-100)), .int 0, .int 0, .int 1] (mz_up (mz_up (mz_z m) 1 12 ((((mz_z m) 1 12) * 1103515245) + 12345)) 1 12 t2) (some (.int 9)) (mz_up (mz_z mm1) 50 4 60) := by rw [zf_eq mw1, mz_up_id mg1]; exact ms1
    refine ⟨mz_up (mz_up (mz_z mm1) 50 4 60) 23 9 (((mz_z mm1) 23 9) + 1), if (-100) < t5 then t5 else (-100), if (-100) < t7 then t7 else (-100), 9, rfl, (by show (mz_z mm1) 23 9 + 1 = _; rw [zf_eq mw1, me1 23 (by decide)]; rfl), fun r hr => ?_⟩
    refine mz_go 3 (c' := (if n ≤ k then 149 else 67, [some (.ref 0), some (.int x), some (.int y), some (.int d), some (.int n), some (.ref 23), some (.int k), l7, l8, l9], [], (mz_z m))) rfl ?_
    refine mz_ifF hk ?_
    refine mz_go 3 (c' := (70, [some (.ref 0), some (.int x), some (.int y), some (.int d), some (.int n), some (.ref 23), some (.int k), l7, l8, l9], [.int d, .ref 0, .int x], (mz_z m))) rfl ?_
    refine mz_do (R := mz_r111) (as := [.ref 0, .int d]) (rest := [.int x]) (r1 := some (.int ((t4 - t4 / ((2 * d) + 1) * ((2 * d) + 1)) - d))) (m1 := mz_up (mz_z m) 1 12 ((((mz_z m) 1 12) * 1103515245) + 12345)) rfl ⟨?_, rfl⟩ ?_
    · refine mz_go 18 (c' := (if ((2 * d) + 1) ≤ 0 then 49 else 32, [some (.ref 0), some (.int d), some (.int ((2 * d) + 1))], [], mz_up (mz_z m) 1 12 ((((mz_z m) 1 12) * 1103515245) + 12345))) rfl ?_
      refine mz_ifF h1 ?_
      refine mz_go 6 (c' := (43, [some (.ref 0), some (.int d), some (.int ((2 * d) + 1))], [.int ((2 * d) + 1), .int t4], mz_up (mz_z m) 1 12 ((((mz_z m) 1 12) * 1103515245) + 12345))) rfl ?_
      refine mz_div (c' := (44, [some (.ref 0), some (.int d), some (.int ((2 * d) + 1))], [.int (t4 - t4 / ((2 * d) + 1) * ((2 * d) + 1))], mz_up (mz_z m) 1 12 ((((mz_z m) 1 12) * 1103515245) + 12345))) rfl (fun he => h1 (by rw [he]; exact Int32.le_refl 0)) ?_
      refine mz_go 3 (c' := (50, [some (.ref 0), some (.int d), some (.int ((2 * d) + 1))], [.int ((t4 - t4 / ((2 * d) + 1) * ((2 * d) + 1)) - d)], mz_up (mz_z m) 1 12 ((((mz_z m) 1 12) * 1103515245) + 12345))) rfl ?_
      exact mz_ret rfl
    refine mz_go 3 (c' := (78, [some (.ref 0), some (.int x), some (.int y), some (.int d), some (.int n), some (.ref 23), some (.int k), l7, l8, l9], [.int 100, .int (-100), .int (x + ((t4 - t4 / ((2 * d) + 1) * ((2 * d) + 1)) - d))], mz_up (mz_z m) 1 12 ((((mz_z m) 1 12) * 1103515245) + 12345))) rfl ?_
    refine mz_do (R := mz_r122) (as := [.int (x + ((t4 - t4 / ((2 * d) + 1) * ((2 * d) + 1)) - d)), .int (-100), .int 100]) (rest := []) (r1 := some (.int (if (-100) < t5 then t5 else (-100)))) (m1 := mz_up (mz_z m) 1 12 ((((mz_z m) 1 12) * 1103515245) + 12345)) rfl ⟨?_, rfl⟩ ?_
    · refine mz_go 5 (c' := (9, [some (.int (x + ((t4 - t4 / ((2 * d) + 1) * ((2 * d) + 1)) - d))), some (.int (-100)), some (.int 100)], [.int (if (-100) < t5 then t5 else (-100))], mz_up (mz_z m) 1 12 ((((mz_z m) 1 12) * 1103515245) + 12345))) rfl ?_
      exact mz_ret rfl
    refine mz_go 4 (c' := (86, [some (.ref 0), some (.int x), some (.int y), some (.int d), some (.int n), some (.ref 23), some (.int k), some (.int (if (-100) < t5 then t5 else (-100))), l8, l9], [.int d, .ref 0, .int y], mz_up (mz_z m) 1 12 ((((mz_z m) 1 12) * 1103515245) + 12345))) rfl ?_
    refine mz_do (R := mz_r111) (as := [.ref 0, .int d]) (rest := [.int y]) (r1 := some (.int ((t6 - t6 / ((2 * d) + 1) * ((2 * d) + 1)) - d))) (m1 := mz_up (mz_up (mz_z m) 1 12 ((((mz_z m) 1 12) * 1103515245) + 12345)) 1 12 t2) rfl ⟨?_, rfl⟩ ?_
    · refine mz_go 18 (c' := (if ((2 * d) + 1) ≤ 0 then 49 else 32, [some (.ref 0), some (.int d), some (.int ((2 * d) + 1))], [], mz_up (mz_up (mz_z m) 1 12 ((((mz_z m) 1 12) * 1103515245) + 12345)) 1 12 t2)) rfl ?_
      refine mz_ifF h1 ?_
      refine mz_go 6 (c' := (43, [some (.ref 0), some (.int d), some (.int ((2 * d) + 1))], [.int ((2 * d) + 1), .int t6], mz_up (mz_up (mz_z m) 1 12 ((((mz_z m) 1 12) * 1103515245) + 12345)) 1 12 t2)) rfl ?_
      refine mz_div (c' := (44, [some (.ref 0), some (.int d), some (.int ((2 * d) + 1))], [.int (t6 - t6 / ((2 * d) + 1) * ((2 * d) + 1))], mz_up (mz_up (mz_z m) 1 12 ((((mz_z m) 1 12) * 1103515245) + 12345)) 1 12 t2)) rfl (fun he => h1 (by rw [he]; exact Int32.le_refl 0)) ?_
      refine mz_go 3 (c' := (50, [some (.ref 0), some (.int d), some (.int ((2 * d) + 1))], [.int ((t6 - t6 / ((2 * d) + 1) * ((2 * d) + 1)) - d)], mz_up (mz_up (mz_z m) 1 12 ((((mz_z m) 1 12) * 1103515245) + 12345)) 1 12 t2)) rfl ?_
      exact mz_ret rfl
    refine mz_go 3 (c' := (94, [some (.ref 0), some (.int x), some (.int y), some (.int d), some (.int n), some (.ref 23), some (.int k), some (.int (if (-100) < t5 then t5 else (-100))), l8, l9], [.int 100, .int (-100), .int (y + ((t6 - t6 / ((2 * d) + 1) * ((2 * d) + 1)) - d))], mz_up (mz_up (mz_z m) 1 12 ((((mz_z m) 1 12) * 1103515245) + 12345)) 1 12 t2)) rfl ?_
    refine mz_do (R := mz_r122) (as := [.int (y + ((t6 - t6 / ((2 * d) + 1) * ((2 * d) + 1)) - d)), .int (-100), .int 100]) (rest := []) (r1 := some (.int (if (-100) < t7 then t7 else (-100)))) (m1 := mz_up (mz_up (mz_z m) 1 12 ((((mz_z m) 1 12) * 1103515245) + 12345)) 1 12 t2) rfl ⟨?_, rfl⟩ ?_
    · refine mz_go 5 (c' := (9, [some (.int (y + ((t6 - t6 / ((2 * d) + 1) * ((2 * d) + 1)) - d))), some (.int (-100)), some (.int 100)], [.int (if (-100) < t7 then t7 else (-100))], mz_up (mz_up (mz_z m) 1 12 ((((mz_z m) 1 12) * 1103515245) + 12345)) 1 12 t2)) rfl ?_
      exact mz_ret rfl
    refine mz_go 12 (c' := (118, [some (.ref 0), some (.int x), some (.int y), some (.int d), some (.int n), some (.ref 23), some (.int k), some (.int (if (-100) < t5 then t5 else (-100))), some (.int (if (-100) < t7 then t7 else (-100))), l9], [.int 1, .int 0, .int 0, .int (if (-100) < t7 then t7 else (-100)), .int (if (-100) < t5 then t5 else (-100)), .ref 49], mz_up (mz_up (mz_z m) 1 12 ((((mz_z m) 1 12) * 1103515245) + 12345)) 1 12 t2)) rfl ?_
    refine mz_do (R := mz_r36) (as := [.ref 49, .int (if (-100) < t5 then t5 else (-100)), .int (if (-100) < t7 then t7 else (-100)), .int 0, .int 0, .int 1]) (rest := []) (r1 := some (.int 9)) (m1 := mz_up (mz_z mm1) 50 4 60) rfl (mz_Me.deep ms1 (by decide)) ?_
    refine mz_go 4 (c' := (128, [some (.ref 0), some (.int x), some (.int y), some (.int d), some (.int n), some (.ref 23), some (.int k), some (.int (if (-100) < t5 then t5 else (-100))), some (.int (if (-100) < t7 then t7 else (-100))), some (.int 9)], [.int 9, .int 0, .int 9], mz_up (mz_z mm1) 50 4 60)) rfl ?_
    refine mz_do (R := mz_r121) (as := [.int 9, .int 0, .int 9]) (rest := []) (r1 := some (.int 1)) (m1 := mz_up (mz_z mm1) 50 4 60) rfl ⟨?_, rfl⟩ ?_
    · refine mz_go 8 (c' := (15, [some (.int 9), some (.int 0), some (.int 9)], [.int 1], mz_up (mz_z mm1) 50 4 60)) rfl ?_
      exact mz_ret rfl
    refine mz_go 10 (c' := (60, [some (.ref 0), some (.int x), some (.int y), some (.int d), some (.int n), some (.ref 23), some (.int (k + 1)), some (.int (if (-100) < t5 then t5 else (-100))), some (.int (if (-100) < t7 then t7 else (-100))), some (.int 9)], [], mz_up (mz_up (mz_z mm1) 50 4 60) 23 9 (((mz_z mm1) 23 9) + 1))) rfl ?_
    exact hr
set_option maxHeartbeats 4000000 in
set_option maxRecDepth 100000 in
theorem rz_throw (x y d n k : Int32) (hd : ¬ 2 * d + 1 = 0) (hk : ¬ n ≤ k) (l7 l8 l9 : Option Value) (m : mz_M) : ∃ (m' : mz_M) (a7 a8 a9 : Int32), Zf m' ∧ True ∧ ∀ r, mz_Ex 70 mz_k206 (78, [some (.ref 65), some (.int x), some (.int y), some (.int d), some (.int n), some (.int 0), some (.int (k + 1)), some (.int a7), some (.int a8), some (.int a9)], [], m') r → mz_Ex 70 mz_k206 (78, [some (.ref 65), some (.int x), some (.int y), some (.int d), some (.int n), some (.int 0), some (.int k), l7, l8, l9], [], mz_z m) r := by
  let t1 : Int32 := (((((mz_z m) 66 3) * 1103515245) + 12345 : Int32).toUInt32 >>> ((8 : Int32).toUInt32 &&& Int32.toUInt32 31)).toInt32
  let t2 : Int32 := (((((mz_z m) 66 3) * 1103515245) + 12345) * 1103515245) + 12345
  let t3 : Int32 := ((t2 : Int32).toUInt32 >>> ((8 : Int32).toUInt32 &&& Int32.toUInt32 31)).toInt32
  by_cases h1 : (-100) ≤ ((x + (t1 - t1 / ((2 * d) + 1) * ((2 * d) + 1))) - d)
  · by_cases h2 : ((x + (t1 - t1 / ((2 * d) + 1) * ((2 * d) + 1))) - d) ≤ 100
    · by_cases h3 : (-100) ≤ ((y + (t3 - t3 / ((2 * d) + 1) * ((2 * d) + 1))) - d)
      · by_cases h4 : ((y + (t3 - t3 / ((2 * d) + 1) * ((2 * d) + 1))) - d) ≤ 100
        · obtain ⟨mm1, me1, mg1, ms1⟩ := rz_runs_1 (mz_up (mz_up (mz_up (mz_up (mz_up (mz_up (mz_up (mz_z m) 66 3 ((((mz_z m) 66 3) * 1103515245) + 12345)) 66 3 t2) 65 4 (16 * ((x + (t1 - t1 / ((2 * d) + 1) * ((2 * d) + 1))) - d))) 65 5 (16 * ((y + (t3 - t3 / ((2 * d) + 1) * ((2 * d) + 1))) - d))) 65 6 0) 65 7 0) 65 8 0) rfl rfl
          have mw1 : Zf mm1 := zf_row (show Zf (mz_up (mz_up (mz_up (mz_up (mz_up (mz_up (mz_up (mz_z m) 66 3 ((((mz_z m) 66 3) * 1103515245) + 12345)) 66 3 t2) 65 4 (16 * ((x + (t1 - t1 / ((2 * d) + 1) * ((2 * d) + 1))) - d))) 65 5 (16 * ((y + (t3 - t3 / ((2 * d) + 1) * ((2 * d) + 1))) - d))) 65 6 0) 65 7 0) 65 8 0) from rfl) rfl me1
          have ms1 : mz_Me 60 mz_r154 [.ref 65, .int 1] (mz_up (mz_up (mz_up (mz_up (mz_up (mz_up (mz_up (mz_z m) 66 3 ((((mz_z m) 66 3) * 1103515245) + 12345)) 66 3 t2) 65 4 (16 * ((x + (t1 - t1 / ((2 * d) + 1) * ((2 * d) + 1))) - d))) 65 5 (16 * ((y + (t3 - t3 / ((2 * d) + 1) * ((2 * d) + 1))) - d))) 65 6 0) 65 7 0) 65 8 0) (some (.int 9)) (mz_up (mz_z mm1) 65 8 60) := by rw [zf_eq mw1, mz_up_id mg1]; exact ms1
          refine ⟨mz_up (mz_up (mz_z mm1) 65 8 60) 66 159 (((mz_z mm1) 66 159) + 1), (x + (t1 - t1 / ((2 * d) + 1) * ((2 * d) + 1))) - d, (y + (t3 - t3 / ((2 * d) + 1) * ((2 * d) + 1))) - d, 9, rfl, trivial, fun r hr => ?_⟩
          refine mz_go 3 (c' := (if n ≤ k then 183 else 85, [some (.ref 65), some (.int x), some (.int y), some (.int d), some (.int n), some (.int 0), some (.int k), l7, l8, l9], [], (mz_z m))) rfl ?_
          refine mz_ifF hk ?_
          refine mz_go 2 (c' := (87, [some (.ref 65), some (.int x), some (.int y), some (.int d), some (.int n), some (.int 0), some (.int k), l7, l8, l9], [.ref 65, .int x], (mz_z m))) rfl ?_
          refine mz_do (R := mz_r205) (as := [.ref 65]) (rest := [.int x]) (r1 := some (.int t1)) (m1 := mz_up (mz_z m) 66 3 ((((mz_z m) 66 3) * 1103515245) + 12345)) rfl ⟨?_, rfl⟩ ?_
          · refine mz_go 18 (c' := (28, [some (.ref 65)], [.int t1], mz_up (mz_z m) 66 3 ((((mz_z m) 66 3) * 1103515245) + 12345))) rfl ?_
            exact mz_ret rfl
          refine mz_go 5 (c' := (95, [some (.ref 65), some (.int x), some (.int y), some (.int d), some (.int n), some (.int 0), some (.int k), l7, l8, l9], [.int ((2 * d) + 1), .int t1, .int x], mz_up (mz_z m) 66 3 ((((mz_z m) 66 3) * 1103515245) + 12345))) rfl ?_
          refine mz_div (c' := (96, [some (.ref 65), some (.int x), some (.int y), some (.int d), some (.int n), some (.int 0), some (.int k), l7, l8, l9], [.int (t1 - t1 / ((2 * d) + 1) * ((2 * d) + 1)), .int x], mz_up (mz_z m) 66 3 ((((mz_z m) 66 3) * 1103515245) + 12345))) rfl hd ?_
          refine mz_go 6 (c' := (103, [some (.ref 65), some (.int x), some (.int y), some (.int d), some (.int n), some (.int 0), some (.int k), some (.int ((x + (t1 - t1 / ((2 * d) + 1) * ((2 * d) + 1))) - d)), l8, l9], [.ref 65, .int y], mz_up (mz_z m) 66 3 ((((mz_z m) 66 3) * 1103515245) + 12345))) rfl ?_
          refine mz_do (R := mz_r205) (as := [.ref 65]) (rest := [.int y]) (r1 := some (.int t3)) (m1 := mz_up (mz_up (mz_z m) 66 3 ((((mz_z m) 66 3) * 1103515245) + 12345)) 66 3 t2) rfl ⟨?_, rfl⟩ ?_
          · refine mz_go 18 (c' := (28, [some (.ref 65)], [.int t3], mz_up (mz_up (mz_z m) 66 3 ((((mz_z m) 66 3) * 1103515245) + 12345)) 66 3 t2)) rfl ?_
            exact mz_ret rfl
          refine mz_go 5 (c' := (111, [some (.ref 65), some (.int x), some (.int y), some (.int d), some (.int n), some (.int 0), some (.int k), some (.int ((x + (t1 - t1 / ((2 * d) + 1) * ((2 * d) + 1))) - d)), l8, l9], [.int ((2 * d) + 1), .int t3, .int y], mz_up (mz_up (mz_z m) 66 3 ((((mz_z m) 66 3) * 1103515245) + 12345)) 66 3 t2)) rfl ?_
          refine mz_div (c' := (112, [some (.ref 65), some (.int x), some (.int y), some (.int d), some (.int n), some (.int 0), some (.int k), some (.int ((x + (t1 - t1 / ((2 * d) + 1) * ((2 * d) + 1))) - d)), l8, l9], [.int (t3 - t3 / ((2 * d) + 1) * ((2 * d) + 1)), .int y], mz_up (mz_up (mz_z m) 66 3 ((((mz_z m) 66 3) * 1103515245) + 12345)) 66 3 t2)) rfl hd ?_
          refine mz_go 8 (c' := (124, [some (.ref 65), some (.int x), some (.int y), some (.int d), some (.int n), some (.int 0), some (.int k), some (.int ((x + (t1 - t1 / ((2 * d) + 1) * ((2 * d) + 1))) - d)), some (.int ((y + (t3 - t3 / ((2 * d) + 1) * ((2 * d) + 1))) - d)), l9], [.int 100, .int (-100), .int ((x + (t1 - t1 / ((2 * d) + 1) * ((2 * d) + 1))) - d), .ref 65], mz_up (mz_up (mz_z m) 66 3 ((((mz_z m) 66 3) * 1103515245) + 12345)) 66 3 t2)) rfl ?_
          refine mz_do (R := mz_r130) (as := [.int ((x + (t1 - t1 / ((2 * d) + 1) * ((2 * d) + 1))) - d), .int (-100), .int 100]) (rest := [.ref 65]) (r1 := some (.int ((x + (t1 - t1 / ((2 * d) + 1) * ((2 * d) + 1))) - d))) (m1 := mz_up (mz_up (mz_z m) 66 3 ((((mz_z m) 66 3) * 1103515245) + 12345)) 66 3 t2) rfl ⟨?_, rfl⟩ ?_
          · refine mz_go 3 (c' := (if (-100) ≤ ((x + (t1 - t1 / ((2 * d) + 1) * ((2 * d) + 1))) - d) then 9 else 5, [some (.int ((x + (t1 - t1 / ((2 * d) + 1) * ((2 * d) + 1))) - d)), some (.int (-100)), some (.int 100)], [], mz_up (mz_up (mz_z m) 66 3 ((((mz_z m) 66 3) * 1103515245) + 12345)) 66 3 t2)) rfl ?_
            refine mz_ifT h1 ?_
            refine mz_go 3 (c' := (if ((x + (t1 - t1 / ((2 * d) + 1) * ((2 * d) + 1))) - d) ≤ 100 then 18 else 14, [some (.int ((x + (t1 - t1 / ((2 * d) + 1) * ((2 * d) + 1))) - d)), some (.int (-100)), some (.int 100)], [], mz_up (mz_up (mz_z m) 66 3 ((((mz_z m) 66 3) * 1103515245) + 12345)) 66 3 t2)) rfl ?_
            refine mz_ifT h2 ?_
            refine mz_go 1 (c' := (19, [some (.int ((x + (t1 - t1 / ((2 * d) + 1) * ((2 * d) + 1))) - d)), some (.int (-100)), some (.int 100)], [.int ((x + (t1 - t1 / ((2 * d) + 1) * ((2 * d) + 1))) - d)], mz_up (mz_up (mz_z m) 66 3 ((((mz_z m) 66 3) * 1103515245) + 12345)) 66 3 t2)) rfl ?_
            exact mz_ret rfl
          refine mz_go 3 (c' := (133, [some (.ref 65), some (.int x), some (.int y), some (.int d), some (.int n), some (.int 0), some (.int k), some (.int ((x + (t1 - t1 / ((2 * d) + 1) * ((2 * d) + 1))) - d)), some (.int ((y + (t3 - t3 / ((2 * d) + 1) * ((2 * d) + 1))) - d)), l9], [.int 100, .int (-100), .int ((y + (t3 - t3 / ((2 * d) + 1) * ((2 * d) + 1))) - d), .int ((x + (t1 - t1 / ((2 * d) + 1) * ((2 * d) + 1))) - d), .ref 65], mz_up (mz_up (mz_z m) 66 3 ((((mz_z m) 66 3) * 1103515245) + 12345)) 66 3 t2)) rfl ?_
          refine mz_do (R := mz_r130) (as := [.int ((y + (t3 - t3 / ((2 * d) + 1) * ((2 * d) + 1))) - d), .int (-100), .int 100]) (rest := [.int ((x + (t1 - t1 / ((2 * d) + 1) * ((2 * d) + 1))) - d), .ref 65]) (r1 := some (.int ((y + (t3 - t3 / ((2 * d) + 1) * ((2 * d) + 1))) - d))) (m1 := mz_up (mz_up (mz_z m) 66 3 ((((mz_z m) 66 3) * 1103515245) + 12345)) 66 3 t2) rfl ⟨?_, rfl⟩ ?_
          · refine mz_go 3 (c' := (if (-100) ≤ ((y + (t3 - t3 / ((2 * d) + 1) * ((2 * d) + 1))) - d) then 9 else 5, [some (.int ((y + (t3 - t3 / ((2 * d) + 1) * ((2 * d) + 1))) - d)), some (.int (-100)), some (.int 100)], [], mz_up (mz_up (mz_z m) 66 3 ((((mz_z m) 66 3) * 1103515245) + 12345)) 66 3 t2)) rfl ?_
            refine mz_ifT h3 ?_
            refine mz_go 3 (c' := (if ((y + (t3 - t3 / ((2 * d) + 1) * ((2 * d) + 1))) - d) ≤ 100 then 18 else 14, [some (.int ((y + (t3 - t3 / ((2 * d) + 1) * ((2 * d) + 1))) - d)), some (.int (-100)), some (.int 100)], [], mz_up (mz_up (mz_z m) 66 3 ((((mz_z m) 66 3) * 1103515245) + 12345)) 66 3 t2)) rfl ?_
            refine mz_ifT h4 ?_
            refine mz_go 1 (c' := (19, [some (.int ((y + (t3 - t3 / ((2 * d) + 1) * ((2 * d) + 1))) - d)), some (.int (-100)), some (.int 100)], [.int ((y + (t3 - t3 / ((2 * d) + 1) * ((2 * d) + 1))) - d)], mz_up (mz_up (mz_z m) 66 3 ((((mz_z m) 66 3) * 1103515245) + 12345)) 66 3 t2)) rfl ?_
            exact mz_ret rfl
          refine mz_go 1 (c' := (137, [some (.ref 65), some (.int x), some (.int y), some (.int d), some (.int n), some (.int 0), some (.int k), some (.int ((x + (t1 - t1 / ((2 * d) + 1) * ((2 * d) + 1))) - d)), some (.int ((y + (t3 - t3 / ((2 * d) + 1) * ((2 * d) + 1))) - d)), l9], [.ref 65, .int ((y + (t3 - t3 / ((2 * d) + 1) * ((2 * d) + 1))) - d), .int ((x + (t1 - t1 / ((2 * d) + 1) * ((2 * d) + 1))) - d), .ref 65], mz_up (mz_up (mz_z m) 66 3 ((((mz_z m) 66 3) * 1103515245) + 12345)) 66 3 t2)) rfl ?_
          refine mz_do (R := mz_r156) (as := [.ref 65]) (rest := [.int ((y + (t3 - t3 / ((2 * d) + 1) * ((2 * d) + 1))) - d), .int ((x + (t1 - t1 / ((2 * d) + 1) * ((2 * d) + 1))) - d), .ref 65]) (r1 := some (.int 1)) (m1 := mz_up (mz_up (mz_z m) 66 3 ((((mz_z m) 66 3) * 1103515245) + 12345)) 66 3 t2) rfl ⟨?_, rfl⟩ ?_
          · refine mz_go 4 (c' := (7, [some (.ref 65)], [.int 1], mz_up (mz_up (mz_z m) 66 3 ((((mz_z m) 66 3) * 1103515245) + 12345)) 66 3 t2)) rfl ?_
            exact mz_ret rfl
          refine mz_do (R := mz_r155) (as := [.ref 65, .int ((x + (t1 - t1 / ((2 * d) + 1) * ((2 * d) + 1))) - d), .int ((y + (t3 - t3 / ((2 * d) + 1) * ((2 * d) + 1))) - d), .int 1]) (rest := []) (r1 := some (.int 9)) (m1 := mz_up (mz_z mm1) 65 8 60) rfl ⟨?_, rfl⟩ ?_
          · refine mz_go 5 (c' := (5, [some (.ref 65), some (.int ((x + (t1 - t1 / ((2 * d) + 1) * ((2 * d) + 1))) - d)), some (.int ((y + (t3 - t3 / ((2 * d) + 1) * ((2 * d) + 1))) - d)), some (.int 1)], [.int 0, .int 0, .int ((y + (t3 - t3 / ((2 * d) + 1) * ((2 * d) + 1))) - d), .int ((x + (t1 - t1 / ((2 * d) + 1) * ((2 * d) + 1))) - d), .ref 65], mz_up (mz_up (mz_z m) 66 3 ((((mz_z m) 66 3) * 1103515245) + 12345)) 66 3 t2)) rfl ?_
            refine mz_do (R := mz_r144) (as := [.ref 65, .int ((x + (t1 - t1 / ((2 * d) + 1) * ((2 * d) + 1))) - d), .int ((y + (t3 - t3 / ((2 * d) + 1) * ((2 * d) + 1))) - d), .int 0, .int 0]) (rest := []) (r1 := none) (m1 := mz_up (mz_up (mz_up (mz_up (mz_up (mz_up (mz_up (mz_z m) 66 3 ((((mz_z m) 66 3) * 1103515245) + 12345)) 66 3 t2) 65 4 (16 * ((x + (t1 - t1 / ((2 * d) + 1) * ((2 * d) + 1))) - d))) 65 5 (16 * ((y + (t3 - t3 / ((2 * d) + 1) * ((2 * d) + 1))) - d))) 65 6 0) 65 7 0) 65 8 0) rfl ⟨?_, rfl⟩ ?_
            · refine mz_go 19 (c' := (32, [some (.ref 65), some (.int ((x + (t1 - t1 / ((2 * d) + 1) * ((2 * d) + 1))) - d)), some (.int ((y + (t3 - t3 / ((2 * d) + 1) * ((2 * d) + 1))) - d)), some (.int 0), some (.int 0)], [], mz_up (mz_up (mz_up (mz_up (mz_up (mz_up (mz_up (mz_z m) 66 3 ((((mz_z m) 66 3) * 1103515245) + 12345)) 66 3 t2) 65 4 (16 * ((x + (t1 - t1 / ((2 * d) + 1) * ((2 * d) + 1))) - d))) 65 5 (16 * ((y + (t3 - t3 / ((2 * d) + 1) * ((2 * d) + 1))) - d))) 65 6 0) 65 7 0) 65 8 0)) rfl ?_
              exact mz_ret rfl
            refine mz_go 2 (c' := (10, [some (.ref 65), some (.int ((x + (t1 - t1 / ((2 * d) + 1) * ((2 * d) + 1))) - d)), some (.int ((y + (t3 - t3 / ((2 * d) + 1) * ((2 * d) + 1))) - d)), some (.int 1)], [.int 1, .ref 65], mz_up (mz_up (mz_up (mz_up (mz_up (mz_up (mz_up (mz_z m) 66 3 ((((mz_z m) 66 3) * 1103515245) + 12345)) 66 3 t2) 65 4 (16 * ((x + (t1 - t1 / ((2 * d) + 1) * ((2 * d) + 1))) - d))) 65 5 (16 * ((y + (t3 - t3 / ((2 * d) + 1) * ((2 * d) + 1))) - d))) 65 6 0) 65 7 0) 65 8 0)) rfl ?_
            refine mz_do (R := mz_r154) (as := [.ref 65, .int 1]) (rest := []) (r1 := some (.int 9)) (m1 := mz_up (mz_z mm1) 65 8 60) rfl (mz_Me.deep ms1 (by decide)) ?_
            exact mz_ret rfl
          refine mz_go 21 (c' := (78, [some (.ref 65), some (.int x), some (.int y), some (.int d), some (.int n), some (.int 0), some (.int (k + 1)), some (.int ((x + (t1 - t1 / ((2 * d) + 1) * ((2 * d) + 1))) - d)), some (.int ((y + (t3 - t3 / ((2 * d) + 1) * ((2 * d) + 1))) - d)), some (.int 9)], [], mz_up (mz_up (mz_z mm1) 65 8 60) 66 159 (((mz_z mm1) 66 159) + 1))) rfl ?_
          exact hr
        · obtain ⟨mm1, me1, mg1, ms1⟩ := rz_runs_1 (mz_up (mz_up (mz_up (mz_up (mz_up (mz_up (mz_up (mz_z m) 66 3 ((((mz_z m) 66 3) * 1103515245) + 12345)) 66 3 t2) 65 4 (16 * ((x + (t1 - t1 / ((2 * d) + 1) * ((2 * d) + 1))) - d))) 65 5 1600) 65 6 0) 65 7 0) 65 8 0) rfl rfl
          have mw1 : Zf mm1 := zf_row (show Zf (mz_up (mz_up (mz_up (mz_up (mz_up (mz_up (mz_up (mz_z m) 66 3 ((((mz_z m) 66 3) * 1103515245) + 12345)) 66 3 t2) 65 4 (16 * ((x + (t1 - t1 / ((2 * d) + 1) * ((2 * d) + 1))) - d))) 65 5 1600) 65 6 0) 65 7 0) 65 8 0) from rfl) rfl me1
          have ms1 : mz_Me 60 mz_r154 [.ref 65, .int 1] (mz_up (mz_up (mz_up (mz_up (mz_up (mz_up (mz_up (mz_z m) 66 3 ((((mz_z m) 66 3) * 1103515245) + 12345)) 66 3 t2) 65 4 (16 * ((x + (t1 - t1 / ((2 * d) + 1) * ((2 * d) + 1))) - d))) 65 5 1600) 65 6 0) 65 7 0) 65 8 0) (some (.int 9)) (mz_up (mz_z mm1) 65 8 60) := by rw [zf_eq mw1, mz_up_id mg1]; exact ms1
          refine ⟨mz_up (mz_up (mz_z mm1) 65 8 60) 66 159 (((mz_z mm1) 66 159) + 1), (x + (t1 - t1 / ((2 * d) + 1) * ((2 * d) + 1))) - d, (y + (t3 - t3 / ((2 * d) + 1) * ((2 * d) + 1))) - d, 9, rfl, trivial, fun r hr => ?_⟩
          refine mz_go 3 (c' := (if n ≤ k then 183 else 85, [some (.ref 65), some (.int x), some (.int y), some (.int d), some (.int n), some (.int 0), some (.int k), l7, l8, l9], [], (mz_z m))) rfl ?_
          refine mz_ifF hk ?_
          refine mz_go 2 (c' := (87, [some (.ref 65), some (.int x), some (.int y), some (.int d), some (.int n), some (.int 0), some (.int k), l7, l8, l9], [.ref 65, .int x], (mz_z m))) rfl ?_
          refine mz_do (R := mz_r205) (as := [.ref 65]) (rest := [.int x]) (r1 := some (.int t1)) (m1 := mz_up (mz_z m) 66 3 ((((mz_z m) 66 3) * 1103515245) + 12345)) rfl ⟨?_, rfl⟩ ?_
          · refine mz_go 18 (c' := (28, [some (.ref 65)], [.int t1], mz_up (mz_z m) 66 3 ((((mz_z m) 66 3) * 1103515245) + 12345))) rfl ?_
            exact mz_ret rfl
          refine mz_go 5 (c' := (95, [some (.ref 65), some (.int x), some (.int y), some (.int d), some (.int n), some (.int 0), some (.int k), l7, l8, l9], [.int ((2 * d) + 1), .int t1, .int x], mz_up (mz_z m) 66 3 ((((mz_z m) 66 3) * 1103515245) + 12345))) rfl ?_
          refine mz_div (c' := (96, [some (.ref 65), some (.int x), some (.int y), some (.int d), some (.int n), some (.int 0), some (.int k), l7, l8, l9], [.int (t1 - t1 / ((2 * d) + 1) * ((2 * d) + 1)), .int x], mz_up (mz_z m) 66 3 ((((mz_z m) 66 3) * 1103515245) + 12345))) rfl hd ?_
          refine mz_go 6 (c' := (103, [some (.ref 65), some (.int x), some (.int y), some (.int d), some (.int n), some (.int 0), some (.int k), some (.int ((x + (t1 - t1 / ((2 * d) + 1) * ((2 * d) + 1))) - d)), l8, l9], [.ref 65, .int y], mz_up (mz_z m) 66 3 ((((mz_z m) 66 3) * 1103515245) + 12345))) rfl ?_
          refine mz_do (R := mz_r205) (as := [.ref 65]) (rest := [.int y]) (r1 := some (.int t3)) (m1 := mz_up (mz_up (mz_z m) 66 3 ((((mz_z m) 66 3) * 1103515245) + 12345)) 66 3 t2) rfl ⟨?_, rfl⟩ ?_
          · refine mz_go 18 (c' := (28, [some (.ref 65)], [.int t3], mz_up (mz_up (mz_z m) 66 3 ((((mz_z m) 66 3) * 1103515245) + 12345)) 66 3 t2)) rfl ?_
            exact mz_ret rfl
          refine mz_go 5 (c' := (111, [some (.ref 65), some (.int x), some (.int y), some (.int d), some (.int n), some (.int 0), some (.int k), some (.int ((x + (t1 - t1 / ((2 * d) + 1) * ((2 * d) + 1))) - d)), l8, l9], [.int ((2 * d) + 1), .int t3, .int y], mz_up (mz_up (mz_z m) 66 3 ((((mz_z m) 66 3) * 1103515245) + 12345)) 66 3 t2)) rfl ?_
          refine mz_div (c' := (112, [some (.ref 65), some (.int x), some (.int y), some (.int d), some (.int n), some (.int 0), some (.int k), some (.int ((x + (t1 - t1 / ((2 * d) + 1) * ((2 * d) + 1))) - d)), l8, l9], [.int (t3 - t3 / ((2 * d) + 1) * ((2 * d) + 1)), .int y], mz_up (mz_up (mz_z m) 66 3 ((((mz_z m) 66 3) * 1103515245) + 12345)) 66 3 t2)) rfl hd ?_
          refine mz_go 8 (c' := (124, [some (.ref 65), some (.int x), some (.int y), some (.int d), some (.int n), some (.int 0), some (.int k), some (.int ((x + (t1 - t1 / ((2 * d) + 1) * ((2 * d) + 1))) - d)), some (.int ((y + (t3 - t3 / ((2 * d) + 1) * ((2 * d) + 1))) - d)), l9], [.int 100, .int (-100), .int ((x + (t1 - t1 / ((2 * d) + 1) * ((2 * d) + 1))) - d), .ref 65], mz_up (mz_up (mz_z m) 66 3 ((((mz_z m) 66 3) * 1103515245) + 12345)) 66 3 t2)) rfl ?_
          refine mz_do (R := mz_r130) (as := [.int ((x + (t1 - t1 / ((2 * d) + 1) * ((2 * d) + 1))) - d), .int (-100), .int 100]) (rest := [.ref 65]) (r1 := some (.int ((x + (t1 - t1 / ((2 * d) + 1) * ((2 * d) + 1))) - d))) (m1 := mz_up (mz_up (mz_z m) 66 3 ((((mz_z m) 66 3) * 1103515245) + 12345)) 66 3 t2) rfl ⟨?_, rfl⟩ ?_
          · refine mz_go 3 (c' := (if (-100) ≤ ((x + (t1 - t1 / ((2 * d) + 1) * ((2 * d) + 1))) - d) then 9 else 5, [some (.int ((x + (t1 - t1 / ((2 * d) + 1) * ((2 * d) + 1))) - d)), some (.int (-100)), some (.int 100)], [], mz_up (mz_up (mz_z m) 66 3 ((((mz_z m) 66 3) * 1103515245) + 12345)) 66 3 t2)) rfl ?_
            refine mz_ifT h1 ?_
            refine mz_go 3 (c' := (if ((x + (t1 - t1 / ((2 * d) + 1) * ((2 * d) + 1))) - d) ≤ 100 then 18 else 14, [some (.int ((x + (t1 - t1 / ((2 * d) + 1) * ((2 * d) + 1))) - d)), some (.int (-100)), some (.int 100)], [], mz_up (mz_up (mz_z m) 66 3 ((((mz_z m) 66 3) * 1103515245) + 12345)) 66 3 t2)) rfl ?_
            refine mz_ifT h2 ?_
            refine mz_go 1 (c' := (19, [some (.int ((x + (t1 - t1 / ((2 * d) + 1) * ((2 * d) + 1))) - d)), some (.int (-100)), some (.int 100)], [.int ((x + (t1 - t1 / ((2 * d) + 1) * ((2 * d) + 1))) - d)], mz_up (mz_up (mz_z m) 66 3 ((((mz_z m) 66 3) * 1103515245) + 12345)) 66 3 t2)) rfl ?_
            exact mz_ret rfl
          refine mz_go 3 (c' := (133, [some (.ref 65), some (.int x), some (.int y), some (.int d), some (.int n), some (.int 0), some (.int k), some (.int ((x + (t1 - t1 / ((2 * d) + 1) * ((2 * d) + 1))) - d)), some (.int ((y + (t3 - t3 / ((2 * d) + 1) * ((2 * d) + 1))) - d)), l9], [.int 100, .int (-100), .int ((y + (t3 - t3 / ((2 * d) + 1) * ((2 * d) + 1))) - d), .int ((x + (t1 - t1 / ((2 * d) + 1) * ((2 * d) + 1))) - d), .ref 65], mz_up (mz_up (mz_z m) 66 3 ((((mz_z m) 66 3) * 1103515245) + 12345)) 66 3 t2)) rfl ?_
          refine mz_do (R := mz_r130) (as := [.int ((y + (t3 - t3 / ((2 * d) + 1) * ((2 * d) + 1))) - d), .int (-100), .int 100]) (rest := [.int ((x + (t1 - t1 / ((2 * d) + 1) * ((2 * d) + 1))) - d), .ref 65]) (r1 := some (.int 100)) (m1 := mz_up (mz_up (mz_z m) 66 3 ((((mz_z m) 66 3) * 1103515245) + 12345)) 66 3 t2) rfl ⟨?_, rfl⟩ ?_
          · refine mz_go 3 (c' := (if (-100) ≤ ((y + (t3 - t3 / ((2 * d) + 1) * ((2 * d) + 1))) - d) then 9 else 5, [some (.int ((y + (t3 - t3 / ((2 * d) + 1) * ((2 * d) + 1))) - d)), some (.int (-100)), some (.int 100)], [], mz_up (mz_up (mz_z m) 66 3 ((((mz_z m) 66 3) * 1103515245) + 12345)) 66 3 t2)) rfl ?_
            refine mz_ifT h3 ?_
            refine mz_go 3 (c' := (if ((y + (t3 - t3 / ((2 * d) + 1) * ((2 * d) + 1))) - d) ≤ 100 then 18 else 14, [some (.int ((y + (t3 - t3 / ((2 * d) + 1) * ((2 * d) + 1))) - d)), some (.int (-100)), some (.int 100)], [], mz_up (mz_up (mz_z m) 66 3 ((((mz_z m) 66 3) * 1103515245) + 12345)) 66 3 t2)) rfl ?_
            refine mz_ifF h4 ?_
            refine mz_go 2 (c' := (19, [some (.int ((y + (t3 - t3 / ((2 * d) + 1) * ((2 * d) + 1))) - d)), some (.int (-100)), some (.int 100)], [.int 100], mz_up (mz_up (mz_z m) 66 3 ((((mz_z m) 66 3) * 1103515245) + 12345)) 66 3 t2)) rfl ?_
            exact mz_ret rfl
          refine mz_go 1 (c' := (137, [some (.ref 65), some (.int x), some (.int y), some (.int d), some (.int n), some (.int 0), some (.int k), some (.int ((x + (t1 - t1 / ((2 * d) + 1) * ((2 * d) + 1))) - d)), some (.int ((y + (t3 - t3 / ((2 * d) + 1) * ((2 * d) + 1))) - d)), l9], [.ref 65, .int 100, .int ((x + (t1 - t1 / ((2 * d) + 1) * ((2 * d) + 1))) - d), .ref 65], mz_up (mz_up (mz_z m) 66 3 ((((mz_z m) 66 3) * 1103515245) + 12345)) 66 3 t2)) rfl ?_
          refine mz_do (R := mz_r156) (as := [.ref 65]) (rest := [.int 100, .int ((x + (t1 - t1 / ((2 * d) + 1) * ((2 * d) + 1))) - d), .ref 65]) (r1 := some (.int 1)) (m1 := mz_up (mz_up (mz_z m) 66 3 ((((mz_z m) 66 3) * 1103515245) + 12345)) 66 3 t2) rfl ⟨?_, rfl⟩ ?_
          · refine mz_go 4 (c' := (7, [some (.ref 65)], [.int 1], mz_up (mz_up (mz_z m) 66 3 ((((mz_z m) 66 3) * 1103515245) + 12345)) 66 3 t2)) rfl ?_
            exact mz_ret rfl
          refine mz_do (R := mz_r155) (as := [.ref 65, .int ((x + (t1 - t1 / ((2 * d) + 1) * ((2 * d) + 1))) - d), .int 100, .int 1]) (rest := []) (r1 := some (.int 9)) (m1 := mz_up (mz_z mm1) 65 8 60) rfl ⟨?_, rfl⟩ ?_
          · refine mz_go 5 (c' := (5, [some (.ref 65), some (.int ((x + (t1 - t1 / ((2 * d) + 1) * ((2 * d) + 1))) - d)), some (.int 100), some (.int 1)], [.int 0, .int 0, .int 100, .int ((x + (t1 - t1 / ((2 * d) + 1) * ((2 * d) + 1))) - d), .ref 65], mz_up (mz_up (mz_z m) 66 3 ((((mz_z m) 66 3) * 1103515245) + 12345)) 66 3 t2)) rfl ?_
            refine mz_do (R := mz_r144) (as := [.ref 65, .int ((x + (t1 - t1 / ((2 * d) + 1) * ((2 * d) + 1))) - d), .int 100, .int 0, .int 0]) (rest := []) (r1 := none) (m1 := mz_up (mz_up (mz_up (mz_up (mz_up (mz_up (mz_up (mz_z m) 66 3 ((((mz_z m) 66 3) * 1103515245) + 12345)) 66 3 t2) 65 4 (16 * ((x + (t1 - t1 / ((2 * d) + 1) * ((2 * d) + 1))) - d))) 65 5 1600) 65 6 0) 65 7 0) 65 8 0) rfl ⟨?_, rfl⟩ ?_
            · refine mz_go 19 (c' := (32, [some (.ref 65), some (.int ((x + (t1 - t1 / ((2 * d) + 1) * ((2 * d) + 1))) - d)), some (.int 100), some (.int 0), some (.int 0)], [], mz_up (mz_up (mz_up (mz_up (mz_up (mz_up (mz_up (mz_z m) 66 3 ((((mz_z m) 66 3) * 1103515245) + 12345)) 66 3 t2) 65 4 (16 * ((x + (t1 - t1 / ((2 * d) + 1) * ((2 * d) + 1))) - d))) 65 5 1600) 65 6 0) 65 7 0) 65 8 0)) rfl ?_
              exact mz_ret rfl
            refine mz_go 2 (c' := (10, [some (.ref 65), some (.int ((x + (t1 - t1 / ((2 * d) + 1) * ((2 * d) + 1))) - d)), some (.int 100), some (.int 1)], [.int 1, .ref 65], mz_up (mz_up (mz_up (mz_up (mz_up (mz_up (mz_up (mz_z m) 66 3 ((((mz_z m) 66 3) * 1103515245) + 12345)) 66 3 t2) 65 4 (16 * ((x + (t1 - t1 / ((2 * d) + 1) * ((2 * d) + 1))) - d))) 65 5 1600) 65 6 0) 65 7 0) 65 8 0)) rfl ?_
            refine mz_do (R := mz_r154) (as := [.ref 65, .int 1]) (rest := []) (r1 := some (.int 9)) (m1 := mz_up (mz_z mm1) 65 8 60) rfl (mz_Me.deep ms1 (by decide)) ?_
            exact mz_ret rfl
          refine mz_go 21 (c' := (78, [some (.ref 65), some (.int x), some (.int y), some (.int d), some (.int n), some (.int 0), some (.int (k + 1)), some (.int ((x + (t1 - t1 / ((2 * d) + 1) * ((2 * d) + 1))) - d)), some (.int ((y + (t3 - t3 / ((2 * d) + 1) * ((2 * d) + 1))) - d)), some (.int 9)], [], mz_up (mz_up (mz_z mm1) 65 8 60) 66 159 (((mz_z mm1) 66 159) + 1))) rfl ?_
          exact hr
      · obtain ⟨mm1, me1, mg1, ms1⟩ := rz_runs_1 (mz_up (mz_up (mz_up (mz_up (mz_up (mz_up (mz_up (mz_z m) 66 3 ((((mz_z m) 66 3) * 1103515245) + 12345)) 66 3 t2) 65 4 (16 * ((x + (t1 - t1 / ((2 * d) + 1) * ((2 * d) + 1))) - d))) 65 5 (-1600)) 65 6 0) 65 7 0) 65 8 0) rfl rfl
        have mw1 : Zf mm1 := zf_row (show Zf (mz_up (mz_up (mz_up (mz_up (mz_up (mz_up (mz_up (mz_z m) 66 3 ((((mz_z m) 66 3) * 1103515245) + 12345)) 66 3 t2) 65 4 (16 * ((x + (t1 - t1 / ((2 * d) + 1) * ((2 * d) + 1))) - d))) 65 5 (-1600)) 65 6 0) 65 7 0) 65 8 0) from rfl) rfl me1
        have ms1 : mz_Me 60 mz_r154 [.ref 65, .int 1] (mz_up (mz_up (mz_up (mz_up (mz_up (mz_up (mz_up (mz_z m) 66 3 ((((mz_z m) 66 3) * 1103515245) + 12345)) 66 3 t2) 65 4 (16 * ((x + (t1 - t1 / ((2 * d) + 1) * ((2 * d) + 1))) - d))) 65 5 (-1600)) 65 6 0) 65 7 0) 65 8 0) (some (.int 9)) (mz_up (mz_z mm1) 65 8 60) := by rw [zf_eq mw1, mz_up_id mg1]; exact ms1
        refine ⟨mz_up (mz_up (mz_z mm1) 65 8 60) 66 159 (((mz_z mm1) 66 159) + 1), (x + (t1 - t1 / ((2 * d) + 1) * ((2 * d) + 1))) - d, (y + (t3 - t3 / ((2 * d) + 1) * ((2 * d) + 1))) - d, 9, rfl, trivial, fun r hr => ?_⟩
        refine mz_go 3 (c' := (if n ≤ k then 183 else 85, [some (.ref 65), some (.int x), some (.int y), some (.int d), some (.int n), some (.int 0), some (.int k), l7, l8, l9], [], (mz_z m))) rfl ?_
        refine mz_ifF hk ?_
        refine mz_go 2 (c' := (87, [some (.ref 65), some (.int x), some (.int y), some (.int d), some (.int n), some (.int 0), some (.int k), l7, l8, l9], [.ref 65, .int x], (mz_z m))) rfl ?_
        refine mz_do (R := mz_r205) (as := [.ref 65]) (rest := [.int x]) (r1 := some (.int t1)) (m1 := mz_up (mz_z m) 66 3 ((((mz_z m) 66 3) * 1103515245) + 12345)) rfl ⟨?_, rfl⟩ ?_
        · refine mz_go 18 (c' := (28, [some (.ref 65)], [.int t1], mz_up (mz_z m) 66 3 ((((mz_z m) 66 3) * 1103515245) + 12345))) rfl ?_
          exact mz_ret rfl
        refine mz_go 5 (c' := (95, [some (.ref 65), some (.int x), some (.int y), some (.int d), some (.int n), some (.int 0), some (.int k), l7, l8, l9], [.int ((2 * d) + 1), .int t1, .int x], mz_up (mz_z m) 66 3 ((((mz_z m) 66 3) * 1103515245) + 12345))) rfl ?_
        refine mz_div (c' := (96, [some (.ref 65), some (.int x), some (.int y), some (.int d), some (.int n), some (.int 0), some (.int k), l7, l8, l9], [.int (t1 - t1 / ((2 * d) + 1) * ((2 * d) + 1)), .int x], mz_up (mz_z m) 66 3 ((((mz_z m) 66 3) * 1103515245) + 12345))) rfl hd ?_
        refine mz_go 6 (c' := (103, [some (.ref 65), some (.int x), some (.int y), some (.int d), some (.int n), some (.int 0), some (.int k), some (.int ((x + (t1 - t1 / ((2 * d) + 1) * ((2 * d) + 1))) - d)), l8, l9], [.ref 65, .int y], mz_up (mz_z m) 66 3 ((((mz_z m) 66 3) * 1103515245) + 12345))) rfl ?_
        refine mz_do (R := mz_r205) (as := [.ref 65]) (rest := [.int y]) (r1 := some (.int t3)) (m1 := mz_up (mz_up (mz_z m) 66 3 ((((mz_z m) 66 3) * 1103515245) + 12345)) 66 3 t2) rfl ⟨?_, rfl⟩ ?_
        · refine mz_go 18 (c' := (28, [some (.ref 65)], [.int t3], mz_up (mz_up (mz_z m) 66 3 ((((mz_z m) 66 3) * 1103515245) + 12345)) 66 3 t2)) rfl ?_
          exact mz_ret rfl
        refine mz_go 5 (c' := (111, [some (.ref 65), some (.int x), some (.int y), some (.int d), some (.int n), some (.int 0), some (.int k), some (.int ((x + (t1 - t1 / ((2 * d) + 1) * ((2 * d) + 1))) - d)), l8, l9], [.int ((2 * d) + 1), .int t3, .int y], mz_up (mz_up (mz_z m) 66 3 ((((mz_z m) 66 3) * 1103515245) + 12345)) 66 3 t2)) rfl ?_
        refine mz_div (c' := (112, [some (.ref 65), some (.int x), some (.int y), some (.int d), some (.int n), some (.int 0), some (.int k), some (.int ((x + (t1 - t1 / ((2 * d) + 1) * ((2 * d) + 1))) - d)), l8, l9], [.int (t3 - t3 / ((2 * d) + 1) * ((2 * d) + 1)), .int y], mz_up (mz_up (mz_z m) 66 3 ((((mz_z m) 66 3) * 1103515245) + 12345)) 66 3 t2)) rfl hd ?_
        refine mz_go 8 (c' := (124, [some (.ref 65), some (.int x), some (.int y), some (.int d), some (.int n), some (.int 0), some (.int k), some (.int ((x + (t1 - t1 / ((2 * d) + 1) * ((2 * d) + 1))) - d)), some (.int ((y + (t3 - t3 / ((2 * d) + 1) * ((2 * d) + 1))) - d)), l9], [.int 100, .int (-100), .int ((x + (t1 - t1 / ((2 * d) + 1) * ((2 * d) + 1))) - d), .ref 65], mz_up (mz_up (mz_z m) 66 3 ((((mz_z m) 66 3) * 1103515245) + 12345)) 66 3 t2)) rfl ?_
        refine mz_do (R := mz_r130) (as := [.int ((x + (t1 - t1 / ((2 * d) + 1) * ((2 * d) + 1))) - d), .int (-100), .int 100]) (rest := [.ref 65]) (r1 := some (.int ((x + (t1 - t1 / ((2 * d) + 1) * ((2 * d) + 1))) - d))) (m1 := mz_up (mz_up (mz_z m) 66 3 ((((mz_z m) 66 3) * 1103515245) + 12345)) 66 3 t2) rfl ⟨?_, rfl⟩ ?_
        · refine mz_go 3 (c' := (if (-100) ≤ ((x + (t1 - t1 / ((2 * d) + 1) * ((2 * d) + 1))) - d) then 9 else 5, [some (.int ((x + (t1 - t1 / ((2 * d) + 1) * ((2 * d) + 1))) - d)), some (.int (-100)), some (.int 100)], [], mz_up (mz_up (mz_z m) 66 3 ((((mz_z m) 66 3) * 1103515245) + 12345)) 66 3 t2)) rfl ?_
          refine mz_ifT h1 ?_
          refine mz_go 3 (c' := (if ((x + (t1 - t1 / ((2 * d) + 1) * ((2 * d) + 1))) - d) ≤ 100 then 18 else 14, [some (.int ((x + (t1 - t1 / ((2 * d) + 1) * ((2 * d) + 1))) - d)), some (.int (-100)), some (.int 100)], [], mz_up (mz_up (mz_z m) 66 3 ((((mz_z m) 66 3) * 1103515245) + 12345)) 66 3 t2)) rfl ?_
          refine mz_ifT h2 ?_
          refine mz_go 1 (c' := (19, [some (.int ((x + (t1 - t1 / ((2 * d) + 1) * ((2 * d) + 1))) - d)), some (.int (-100)), some (.int 100)], [.int ((x + (t1 - t1 / ((2 * d) + 1) * ((2 * d) + 1))) - d)], mz_up (mz_up (mz_z m) 66 3 ((((mz_z m) 66 3) * 1103515245) + 12345)) 66 3 t2)) rfl ?_
          exact mz_ret rfl
        refine mz_go 3 (c' := (133, [some (.ref 65), some (.int x), some (.int y), some (.int d), some (.int n), some (.int 0), some (.int k), some (.int ((x + (t1 - t1 / ((2 * d) + 1) * ((2 * d) + 1))) - d)), some (.int ((y + (t3 - t3 / ((2 * d) + 1) * ((2 * d) + 1))) - d)), l9], [.int 100, .int (-100), .int ((y + (t3 - t3 / ((2 * d) + 1) * ((2 * d) + 1))) - d), .int ((x + (t1 - t1 / ((2 * d) + 1) * ((2 * d) + 1))) - d), .ref 65], mz_up (mz_up (mz_z m) 66 3 ((((mz_z m) 66 3) * 1103515245) + 12345)) 66 3 t2)) rfl ?_
        refine mz_do (R := mz_r130) (as := [.int ((y + (t3 - t3 / ((2 * d) + 1) * ((2 * d) + 1))) - d), .int (-100), .int 100]) (rest := [.int ((x + (t1 - t1 / ((2 * d) + 1) * ((2 * d) + 1))) - d), .ref 65]) (r1 := some (.int (-100))) (m1 := mz_up (mz_up (mz_z m) 66 3 ((((mz_z m) 66 3) * 1103515245) + 12345)) 66 3 t2) rfl ⟨?_, rfl⟩ ?_
        · refine mz_go 3 (c' := (if (-100) ≤ ((y + (t3 - t3 / ((2 * d) + 1) * ((2 * d) + 1))) - d) then 9 else 5, [some (.int ((y + (t3 - t3 / ((2 * d) + 1) * ((2 * d) + 1))) - d)), some (.int (-100)), some (.int 100)], [], mz_up (mz_up (mz_z m) 66 3 ((((mz_z m) 66 3) * 1103515245) + 12345)) 66 3 t2)) rfl ?_
          refine mz_ifF h3 ?_
          refine mz_go 2 (c' := (19, [some (.int ((y + (t3 - t3 / ((2 * d) + 1) * ((2 * d) + 1))) - d)), some (.int (-100)), some (.int 100)], [.int (-100)], mz_up (mz_up (mz_z m) 66 3 ((((mz_z m) 66 3) * 1103515245) + 12345)) 66 3 t2)) rfl ?_
          exact mz_ret rfl
        refine mz_go 1 (c' := (137, [some (.ref 65), some (.int x), some (.int y), some (.int d), some (.int n), some (.int 0), some (.int k), some (.int ((x + (t1 - t1 / ((2 * d) + 1) * ((2 * d) + 1))) - d)), some (.int ((y + (t3 - t3 / ((2 * d) + 1) * ((2 * d) + 1))) - d)), l9], [.ref 65, .int (-100), .int ((x + (t1 - t1 / ((2 * d) + 1) * ((2 * d) + 1))) - d), .ref 65], mz_up (mz_up (mz_z m) 66 3 ((((mz_z m) 66 3) * 1103515245) + 12345)) 66 3 t2)) rfl ?_
        refine mz_do (R := mz_r156) (as := [.ref 65]) (rest := [.int (-100), .int ((x + (t1 - t1 / ((2 * d) + 1) * ((2 * d) + 1))) - d), .ref 65]) (r1 := some (.int 1)) (m1 := mz_up (mz_up (mz_z m) 66 3 ((((mz_z m) 66 3) * 1103515245) + 12345)) 66 3 t2) rfl ⟨?_, rfl⟩ ?_
        · refine mz_go 4 (c' := (7, [some (.ref 65)], [.int 1], mz_up (mz_up (mz_z m) 66 3 ((((mz_z m) 66 3) * 1103515245) + 12345)) 66 3 t2)) rfl ?_
          exact mz_ret rfl
        refine mz_do (R := mz_r155) (as := [.ref 65, .int ((x + (t1 - t1 / ((2 * d) + 1) * ((2 * d) + 1))) - d), .int (-100), .int 1]) (rest := []) (r1 := some (.int 9)) (m1 := mz_up (mz_z mm1) 65 8 60) rfl ⟨?_, rfl⟩ ?_
        · refine mz_go 5 (c' := (5, [some (.ref 65), some (.int ((x + (t1 - t1 / ((2 * d) + 1) * ((2 * d) + 1))) - d)), some (.int (-100)), some (.int 1)], [.int 0, .int 0, .int (-100), .int ((x + (t1 - t1 / ((2 * d) + 1) * ((2 * d) + 1))) - d), .ref 65], mz_up (mz_up (mz_z m) 66 3 ((((mz_z m) 66 3) * 1103515245) + 12345)) 66 3 t2)) rfl ?_
          refine mz_do (R := mz_r144) (as := [.ref 65, .int ((x + (t1 - t1 / ((2 * d) + 1) * ((2 * d) + 1))) - d), .int (-100), .int 0, .int 0]) (rest := []) (r1 := none) (m1 := mz_up (mz_up (mz_up (mz_up (mz_up (mz_up (mz_up (mz_z m) 66 3 ((((mz_z m) 66 3) * 1103515245) + 12345)) 66 3 t2) 65 4 (16 * ((x + (t1 - t1 / ((2 * d) + 1) * ((2 * d) + 1))) - d))) 65 5 (-1600)) 65 6 0) 65 7 0) 65 8 0) rfl ⟨?_, rfl⟩ ?_
          · refine mz_go 19 (c' := (32, [some (.ref 65), some (.int ((x + (t1 - t1 / ((2 * d) + 1) * ((2 * d) + 1))) - d)), some (.int (-100)), some (.int 0), some (.int 0)], [], mz_up (mz_up (mz_up (mz_up (mz_up (mz_up (mz_up (mz_z m) 66 3 ((((mz_z m) 66 3) * 1103515245) + 12345)) 66 3 t2) 65 4 (16 * ((x + (t1 - t1 / ((2 * d) + 1) * ((2 * d) + 1))) - d))) 65 5 (-1600)) 65 6 0) 65 7 0) 65 8 0)) rfl ?_
            exact mz_ret rfl
          refine mz_go 2 (c' := (10, [some (.ref 65), some (.int ((x + (t1 - t1 / ((2 * d) + 1) * ((2 * d) + 1))) - d)), some (.int (-100)), some (.int 1)], [.int 1, .ref 65], mz_up (mz_up (mz_up (mz_up (mz_up (mz_up (mz_up (mz_z m) 66 3 ((((mz_z m) 66 3) * 1103515245) + 12345)) 66 3 t2) 65 4 (16 * ((x + (t1 - t1 / ((2 * d) + 1) * ((2 * d) + 1))) - d))) 65 5 (-1600)) 65 6 0) 65 7 0) 65 8 0)) rfl ?_
          refine mz_do (R := mz_r154) (as := [.ref 65, .int 1]) (rest := []) (r1 := some (.int 9)) (m1 := mz_up (mz_z mm1) 65 8 60) rfl (mz_Me.deep ms1 (by decide)) ?_
          exact mz_ret rfl
        refine mz_go 21 (c' := (78, [some (.ref 65), some (.int x), some (.int y), some (.int d), some (.int n), some (.int 0), some (.int (k + 1)), some (.int ((x + (t1 - t1 / ((2 * d) + 1) * ((2 * d) + 1))) - d)), some (.int ((y + (t3 - t3 / ((2 * d) + 1) * ((2 * d) + 1))) - d)), some (.int 9)], [], mz_up (mz_up (mz_z mm1) 65 8 60) 66 159 (((mz_z mm1) 66 159) + 1))) rfl ?_
        exact hr
    · by_cases h5 : (-100) ≤ ((y + (t3 - t3 / ((2 * d) + 1) * ((2 * d) + 1))) - d)
      · by_cases h6 : ((y + (t3 - t3 / ((2 * d) + 1) * ((2 * d) + 1))) - d) ≤ 100
        · obtain ⟨mm1, me1, mg1, ms1⟩ := rz_runs_1 (mz_up (mz_up (mz_up (mz_up (mz_up (mz_up (mz_up (mz_z m) 66 3 ((((mz_z m) 66 3) * 1103515245) + 12345)) 66 3 t2) 65 4 1600) 65 5 (16 * ((y + (t3 - t3 / ((2 * d) + 1) * ((2 * d) + 1))) - d))) 65 6 0) 65 7 0) 65 8 0) rfl rfl
          have mw1 : Zf mm1 := zf_row (show Zf (mz_up (mz_up (mz_up (mz_up (mz_up (mz_up (mz_up (mz_z m) 66 3 ((((mz_z m) 66 3) * 1103515245) + 12345)) 66 3 t2) 65 4 1600) 65 5 (16 * ((y + (t3 - t3 / ((2 * d) + 1) * ((2 * d) + 1))) - d))) 65 6 0) 65 7 0) 65 8 0) from rfl) rfl me1
          have ms1 : mz_Me 60 mz_r154 [.ref 65, .int 1] (mz_up (mz_up (mz_up (mz_up (mz_up (mz_up (mz_up (mz_z m) 66 3 ((((mz_z m) 66 3) * 1103515245) + 12345)) 66 3 t2) 65 4 1600) 65 5 (16 * ((y + (t3 - t3 / ((2 * d) + 1) * ((2 * d) + 1))) - d))) 65 6 0) 65 7 0) 65 8 0) (some (.int 9)) (mz_up (mz_z mm1) 65 8 60) := by rw [zf_eq mw1, mz_up_id mg1]; exact ms1
          refine ⟨mz_up (mz_up (mz_z mm1) 65 8 60) 66 159 (((mz_z mm1) 66 159) + 1), (x + (t1 - t1 / ((2 * d) + 1) * ((2 * d) + 1))) - d, (y + (t3 - t3 / ((2 * d) + 1) * ((2 * d) + 1))) - d, 9, rfl, trivial, fun r hr => ?_⟩
          refine mz_go 3 (c' := (if n ≤ k then 183 else 85, [some (.ref 65), some (.int x), some (.int y), some (.int d), some (.int n), some (.int 0), some (.int k), l7, l8, l9], [], (mz_z m))) rfl ?_
          refine mz_ifF hk ?_
          refine mz_go 2 (c' := (87, [some (.ref 65), some (.int x), some (.int y), some (.int d), some (.int n), some (.int 0), some (.int k), l7, l8, l9], [.ref 65, .int x], (mz_z m))) rfl ?_
          refine mz_do (R := mz_r205) (as := [.ref 65]) (rest := [.int x]) (r1 := some (.int t1)) (m1 := mz_up (mz_z m) 66 3 ((((mz_z m) 66 3) * 1103515245) + 12345)) rfl ⟨?_, rfl⟩ ?_
          · refine mz_go 18 (c' := (28, [some (.ref 65)], [.int t1], mz_up (mz_z m) 66 3 ((((mz_z m) 66 3) * 1103515245) + 12345))) rfl ?_
            exact mz_ret rfl
          refine mz_go 5 (c' := (95, [some (.ref 65), some (.int x), some (.int y), some (.int d), some (.int n), some (.int 0), some (.int k), l7, l8, l9], [.int ((2 * d) + 1), .int t1, .int x], mz_up (mz_z m) 66 3 ((((mz_z m) 66 3) * 1103515245) + 12345))) rfl ?_
          refine mz_div (c' := (96, [some (.ref 65), some (.int x), some (.int y), some (.int d), some (.int n), some (.int 0), some (.int k), l7, l8, l9], [.int (t1 - t1 / ((2 * d) + 1) * ((2 * d) + 1)), .int x], mz_up (mz_z m) 66 3 ((((mz_z m) 66 3) * 1103515245) + 12345))) rfl hd ?_
          refine mz_go 6 (c' := (103, [some (.ref 65), some (.int x), some (.int y), some (.int d), some (.int n), some (.int 0), some (.int k), some (.int ((x + (t1 - t1 / ((2 * d) + 1) * ((2 * d) + 1))) - d)), l8, l9], [.ref 65, .int y], mz_up (mz_z m) 66 3 ((((mz_z m) 66 3) * 1103515245) + 12345))) rfl ?_
          refine mz_do (R := mz_r205) (as := [.ref 65]) (rest := [.int y]) (r1 := some (.int t3)) (m1 := mz_up (mz_up (mz_z m) 66 3 ((((mz_z m) 66 3) * 1103515245) + 12345)) 66 3 t2) rfl ⟨?_, rfl⟩ ?_
          · refine mz_go 18 (c' := (28, [some (.ref 65)], [.int t3], mz_up (mz_up (mz_z m) 66 3 ((((mz_z m) 66 3) * 1103515245) + 12345)) 66 3 t2)) rfl ?_
            exact mz_ret rfl
          refine mz_go 5 (c' := (111, [some (.ref 65), some (.int x), some (.int y), some (.int d), some (.int n), some (.int 0), some (.int k), some (.int ((x + (t1 - t1 / ((2 * d) + 1) * ((2 * d) + 1))) - d)), l8, l9], [.int ((2 * d) + 1), .int t3, .int y], mz_up (mz_up (mz_z m) 66 3 ((((mz_z m) 66 3) * 1103515245) + 12345)) 66 3 t2)) rfl ?_
          refine mz_div (c' := (112, [some (.ref 65), some (.int x), some (.int y), some (.int d), some (.int n), some (.int 0), some (.int k), some (.int ((x + (t1 - t1 / ((2 * d) + 1) * ((2 * d) + 1))) - d)), l8, l9], [.int (t3 - t3 / ((2 * d) + 1) * ((2 * d) + 1)), .int y], mz_up (mz_up (mz_z m) 66 3 ((((mz_z m) 66 3) * 1103515245) + 12345)) 66 3 t2)) rfl hd ?_
          refine mz_go 8 (c' := (124, [some (.ref 65), some (.int x), some (.int y), some (.int d), some (.int n), some (.int 0), some (.int k), some (.int ((x + (t1 - t1 / ((2 * d) + 1) * ((2 * d) + 1))) - d)), some (.int ((y + (t3 - t3 / ((2 * d) + 1) * ((2 * d) + 1))) - d)), l9], [.int 100, .int (-100), .int ((x + (t1 - t1 / ((2 * d) + 1) * ((2 * d) + 1))) - d), .ref 65], mz_up (mz_up (mz_z m) 66 3 ((((mz_z m) 66 3) * 1103515245) + 12345)) 66 3 t2)) rfl ?_
          refine mz_do (R := mz_r130) (as := [.int ((x + (t1 - t1 / ((2 * d) + 1) * ((2 * d) + 1))) - d), .int (-100), .int 100]) (rest := [.ref 65]) (r1 := some (.int 100)) (m1 := mz_up (mz_up (mz_z m) 66 3 ((((mz_z m) 66 3) * 1103515245) + 12345)) 66 3 t2) rfl ⟨?_, rfl⟩ ?_
          · refine mz_go 3 (c' := (if (-100) ≤ ((x + (t1 - t1 / ((2 * d) + 1) * ((2 * d) + 1))) - d) then 9 else 5, [some (.int ((x + (t1 - t1 / ((2 * d) + 1) * ((2 * d) + 1))) - d)), some (.int (-100)), some (.int 100)], [], mz_up (mz_up (mz_z m) 66 3 ((((mz_z m) 66 3) * 1103515245) + 12345)) 66 3 t2)) rfl ?_
            refine mz_ifT h1 ?_
            refine mz_go 3 (c' := (if ((x + (t1 - t1 / ((2 * d) + 1) * ((2 * d) + 1))) - d) ≤ 100 then 18 else 14, [some (.int ((x + (t1 - t1 / ((2 * d) + 1) * ((2 * d) + 1))) - d)), some (.int (-100)), some (.int 100)], [], mz_up (mz_up (mz_z m) 66 3 ((((mz_z m) 66 3) * 1103515245) + 12345)) 66 3 t2)) rfl ?_
            refine mz_ifF h2 ?_
            refine mz_go 2 (c' := (19, [some (.int ((x + (t1 - t1 / ((2 * d) + 1) * ((2 * d) + 1))) - d)), some (.int (-100)), some (.int 100)], [.int 100], mz_up (mz_up (mz_z m) 66 3 ((((mz_z m) 66 3) * 1103515245) + 12345)) 66 3 t2)) rfl ?_
            exact mz_ret rfl
          refine mz_go 3 (c' := (133, [some (.ref 65), some (.int x), some (.int y), some (.int d), some (.int n), some (.int 0), some (.int k), some (.int ((x + (t1 - t1 / ((2 * d) + 1) * ((2 * d) + 1))) - d)), some (.int ((y + (t3 - t3 / ((2 * d) + 1) * ((2 * d) + 1))) - d)), l9], [.int 100, .int (-100), .int ((y + (t3 - t3 / ((2 * d) + 1) * ((2 * d) + 1))) - d), .int 100, .ref 65], mz_up (mz_up (mz_z m) 66 3 ((((mz_z m) 66 3) * 1103515245) + 12345)) 66 3 t2)) rfl ?_
          refine mz_do (R := mz_r130) (as := [.int ((y + (t3 - t3 / ((2 * d) + 1) * ((2 * d) + 1))) - d), .int (-100), .int 100]) (rest := [.int 100, .ref 65]) (r1 := some (.int ((y + (t3 - t3 / ((2 * d) + 1) * ((2 * d) + 1))) - d))) (m1 := mz_up (mz_up (mz_z m) 66 3 ((((mz_z m) 66 3) * 1103515245) + 12345)) 66 3 t2) rfl ⟨?_, rfl⟩ ?_
          · refine mz_go 3 (c' := (if (-100) ≤ ((y + (t3 - t3 / ((2 * d) + 1) * ((2 * d) + 1))) - d) then 9 else 5, [some (.int ((y + (t3 - t3 / ((2 * d) + 1) * ((2 * d) + 1))) - d)), some (.int (-100)), some (.int 100)], [], mz_up (mz_up (mz_z m) 66 3 ((((mz_z m) 66 3) * 1103515245) + 12345)) 66 3 t2)) rfl ?_
            refine mz_ifT h5 ?_
            refine mz_go 3 (c' := (if ((y + (t3 - t3 / ((2 * d) + 1) * ((2 * d) + 1))) - d) ≤ 100 then 18 else 14, [some (.int ((y + (t3 - t3 / ((2 * d) + 1) * ((2 * d) + 1))) - d)), some (.int (-100)), some (.int 100)], [], mz_up (mz_up (mz_z m) 66 3 ((((mz_z m) 66 3) * 1103515245) + 12345)) 66 3 t2)) rfl ?_
            refine mz_ifT h6 ?_
            refine mz_go 1 (c' := (19, [some (.int ((y + (t3 - t3 / ((2 * d) + 1) * ((2 * d) + 1))) - d)), some (.int (-100)), some (.int 100)], [.int ((y + (t3 - t3 / ((2 * d) + 1) * ((2 * d) + 1))) - d)], mz_up (mz_up (mz_z m) 66 3 ((((mz_z m) 66 3) * 1103515245) + 12345)) 66 3 t2)) rfl ?_
            exact mz_ret rfl
          refine mz_go 1 (c' := (137, [some (.ref 65), some (.int x), some (.int y), some (.int d), some (.int n), some (.int 0), some (.int k), some (.int ((x + (t1 - t1 / ((2 * d) + 1) * ((2 * d) + 1))) - d)), some (.int ((y + (t3 - t3 / ((2 * d) + 1) * ((2 * d) + 1))) - d)), l9], [.ref 65, .int ((y + (t3 - t3 / ((2 * d) + 1) * ((2 * d) + 1))) - d), .int 100, .ref 65], mz_up (mz_up (mz_z m) 66 3 ((((mz_z m) 66 3) * 1103515245) + 12345)) 66 3 t2)) rfl ?_
          refine mz_do (R := mz_r156) (as := [.ref 65]) (rest := [.int ((y + (t3 - t3 / ((2 * d) + 1) * ((2 * d) + 1))) - d), .int 100, .ref 65]) (r1 := some (.int 1)) (m1 := mz_up (mz_up (mz_z m) 66 3 ((((mz_z m) 66 3) * 1103515245) + 12345)) 66 3 t2) rfl ⟨?_, rfl⟩ ?_
          · refine mz_go 4 (c' := (7, [some (.ref 65)], [.int 1], mz_up (mz_up (mz_z m) 66 3 ((((mz_z m) 66 3) * 1103515245) + 12345)) 66 3 t2)) rfl ?_
            exact mz_ret rfl
          refine mz_do (R := mz_r155) (as := [.ref 65, .int 100, .int ((y + (t3 - t3 / ((2 * d) + 1) * ((2 * d) + 1))) - d), .int 1]) (rest := []) (r1 := some (.int 9)) (m1 := mz_up (mz_z mm1) 65 8 60) rfl ⟨?_, rfl⟩ ?_
          · refine mz_go 5 (c' := (5, [some (.ref 65), some (.int 100), some (.int ((y + (t3 - t3 / ((2 * d) + 1) * ((2 * d) + 1))) - d)), some (.int 1)], [.int 0, .int 0, .int ((y + (t3 - t3 / ((2 * d) + 1) * ((2 * d) + 1))) - d), .int 100, .ref 65], mz_up (mz_up (mz_z m) 66 3 ((((mz_z m) 66 3) * 1103515245) + 12345)) 66 3 t2)) rfl ?_
            refine mz_do (R := mz_r144) (as := [.ref 65, .int 100, .int ((y + (t3 - t3 / ((2 * d) + 1) * ((2 * d) + 1))) - d), .int 0, .int 0]) (rest := []) (r1 := none) (m1 := mz_up (mz_up (mz_up (mz_up (mz_up (mz_up (mz_up (mz_z m) 66 3 ((((mz_z m) 66 3) * 1103515245) + 12345)) 66 3 t2) 65 4 1600) 65 5 (16 * ((y + (t3 - t3 / ((2 * d) + 1) * ((2 * d) + 1))) - d))) 65 6 0) 65 7 0) 65 8 0) rfl ⟨?_, rfl⟩ ?_
            · refine mz_go 19 (c' := (32, [some (.ref 65), some (.int 100), some (.int ((y + (t3 - t3 / ((2 * d) + 1) * ((2 * d) + 1))) - d)), some (.int 0), some (.int 0)], [], mz_up (mz_up (mz_up (mz_up (mz_up (mz_up (mz_up (mz_z m) 66 3 ((((mz_z m) 66 3) * 1103515245) + 12345)) 66 3 t2) 65 4 1600) 65 5 (16 * ((y + (t3 - t3 / ((2 * d) + 1) * ((2 * d) + 1))) - d))) 65 6 0) 65 7 0) 65 8 0)) rfl ?_
              exact mz_ret rfl
            refine mz_go 2 (c' := (10, [some (.ref 65), some (.int 100), some (.int ((y + (t3 - t3 / ((2 * d) + 1) * ((2 * d) + 1))) - d)), some (.int 1)], [.int 1, .ref 65], mz_up (mz_up (mz_up (mz_up (mz_up (mz_up (mz_up (mz_z m) 66 3 ((((mz_z m) 66 3) * 1103515245) + 12345)) 66 3 t2) 65 4 1600) 65 5 (16 * ((y + (t3 - t3 / ((2 * d) + 1) * ((2 * d) + 1))) - d))) 65 6 0) 65 7 0) 65 8 0)) rfl ?_
            refine mz_do (R := mz_r154) (as := [.ref 65, .int 1]) (rest := []) (r1 := some (.int 9)) (m1 := mz_up (mz_z mm1) 65 8 60) rfl (mz_Me.deep ms1 (by decide)) ?_
            exact mz_ret rfl
          refine mz_go 21 (c' := (78, [some (.ref 65), some (.int x), some (.int y), some (.int d), some (.int n), some (.int 0), some (.int (k + 1)), some (.int ((x + (t1 - t1 / ((2 * d) + 1) * ((2 * d) + 1))) - d)), some (.int ((y + (t3 - t3 / ((2 * d) + 1) * ((2 * d) + 1))) - d)), some (.int 9)], [], mz_up (mz_up (mz_z mm1) 65 8 60) 66 159 (((mz_z mm1) 66 159) + 1))) rfl ?_
          exact hr
        · obtain ⟨mm1, me1, mg1, ms1⟩ := rz_runs_1 (mz_up (mz_up (mz_up (mz_up (mz_up (mz_up (mz_up (mz_z m) 66 3 ((((mz_z m) 66 3) * 1103515245) + 12345)) 66 3 t2) 65 4 1600) 65 5 1600) 65 6 0) 65 7 0) 65 8 0) rfl rfl
          have mw1 : Zf mm1 := zf_row (show Zf (mz_up (mz_up (mz_up (mz_up (mz_up (mz_up (mz_up (mz_z m) 66 3 ((((mz_z m) 66 3) * 1103515245) + 12345)) 66 3 t2) 65 4 1600) 65 5 1600) 65 6 0) 65 7 0) 65 8 0) from rfl) rfl me1
          have ms1 : mz_Me 60 mz_r154 [.ref 65, .int 1] (mz_up (mz_up (mz_up (mz_up (mz_up (mz_up (mz_up (mz_z m) 66 3 ((((mz_z m) 66 3) * 1103515245) + 12345)) 66 3 t2) 65 4 1600) 65 5 1600) 65 6 0) 65 7 0) 65 8 0) (some (.int 9)) (mz_up (mz_z mm1) 65 8 60) := by rw [zf_eq mw1, mz_up_id mg1]; exact ms1
          refine ⟨mz_up (mz_up (mz_z mm1) 65 8 60) 66 159 (((mz_z mm1) 66 159) + 1), (x + (t1 - t1 / ((2 * d) + 1) * ((2 * d) + 1))) - d, (y + (t3 - t3 / ((2 * d) + 1) * ((2 * d) + 1))) - d, 9, rfl, trivial, fun r hr => ?_⟩
          refine mz_go 3 (c' := (if n ≤ k then 183 else 85, [some (.ref 65), some (.int x), some (.int y), some (.int d), some (.int n), some (.int 0), some (.int k), l7, l8, l9], [], (mz_z m))) rfl ?_
          refine mz_ifF hk ?_
          refine mz_go 2 (c' := (87, [some (.ref 65), some (.int x), some (.int y), some (.int d), some (.int n), some (.int 0), some (.int k), l7, l8, l9], [.ref 65, .int x], (mz_z m))) rfl ?_
          refine mz_do (R := mz_r205) (as := [.ref 65]) (rest := [.int x]) (r1 := some (.int t1)) (m1 := mz_up (mz_z m) 66 3 ((((mz_z m) 66 3) * 1103515245) + 12345)) rfl ⟨?_, rfl⟩ ?_
          · refine mz_go 18 (c' := (28, [some (.ref 65)], [.int t1], mz_up (mz_z m) 66 3 ((((mz_z m) 66 3) * 1103515245) + 12345))) rfl ?_
            exact mz_ret rfl
          refine mz_go 5 (c' := (95, [some (.ref 65), some (.int x), some (.int y), some (.int d), some (.int n), some (.int 0), some (.int k), l7, l8, l9], [.int ((2 * d) + 1), .int t1, .int x], mz_up (mz_z m) 66 3 ((((mz_z m) 66 3) * 1103515245) + 12345))) rfl ?_
          refine mz_div (c' := (96, [some (.ref 65), some (.int x), some (.int y), some (.int d), some (.int n), some (.int 0), some (.int k), l7, l8, l9], [.int (t1 - t1 / ((2 * d) + 1) * ((2 * d) + 1)), .int x], mz_up (mz_z m) 66 3 ((((mz_z m) 66 3) * 1103515245) + 12345))) rfl hd ?_
          refine mz_go 6 (c' := (103, [some (.ref 65), some (.int x), some (.int y), some (.int d), some (.int n), some (.int 0), some (.int k), some (.int ((x + (t1 - t1 / ((2 * d) + 1) * ((2 * d) + 1))) - d)), l8, l9], [.ref 65, .int y], mz_up (mz_z m) 66 3 ((((mz_z m) 66 3) * 1103515245) + 12345))) rfl ?_
          refine mz_do (R := mz_r205) (as := [.ref 65]) (rest := [.int y]) (r1 := some (.int t3)) (m1 := mz_up (mz_up (mz_z m) 66 3 ((((mz_z m) 66 3) * 1103515245) + 12345)) 66 3 t2) rfl ⟨?_, rfl⟩ ?_
          · refine mz_go 18 (c' := (28, [some (.ref 65)], [.int t3], mz_up (mz_up (mz_z m) 66 3 ((((mz_z m) 66 3) * 1103515245) + 12345)) 66 3 t2)) rfl ?_
            exact mz_ret rfl
          refine mz_go 5 (c' := (111, [some (.ref 65), some (.int x), some (.int y), some (.int d), some (.int n), some (.int 0), some (.int k), some (.int ((x + (t1 - t1 / ((2 * d) + 1) * ((2 * d) + 1))) - d)), l8, l9], [.int ((2 * d) + 1), .int t3, .int y], mz_up (mz_up (mz_z m) 66 3 ((((mz_z m) 66 3) * 1103515245) + 12345)) 66 3 t2)) rfl ?_
          refine mz_div (c' := (112, [some (.ref 65), some (.int x), some (.int y), some (.int d), some (.int n), some (.int 0), some (.int k), some (.int ((x + (t1 - t1 / ((2 * d) + 1) * ((2 * d) + 1))) - d)), l8, l9], [.int (t3 - t3 / ((2 * d) + 1) * ((2 * d) + 1)), .int y], mz_up (mz_up (mz_z m) 66 3 ((((mz_z m) 66 3) * 1103515245) + 12345)) 66 3 t2)) rfl hd ?_
          refine mz_go 8 (c' := (124, [some (.ref 65), some (.int x), some (.int y), some (.int d), some (.int n), some (.int 0), some (.int k), some (.int ((x + (t1 - t1 / ((2 * d) + 1) * ((2 * d) + 1))) - d)), some (.int ((y + (t3 - t3 / ((2 * d) + 1) * ((2 * d) + 1))) - d)), l9], [.int 100, .int (-100), .int ((x + (t1 - t1 / ((2 * d) + 1) * ((2 * d) + 1))) - d), .ref 65], mz_up (mz_up (mz_z m) 66 3 ((((mz_z m) 66 3) * 1103515245) + 12345)) 66 3 t2)) rfl ?_
          refine mz_do (R := mz_r130) (as := [.int ((x + (t1 - t1 / ((2 * d) + 1) * ((2 * d) + 1))) - d), .int (-100), .int 100]) (rest := [.ref 65]) (r1 := some (.int 100)) (m1 := mz_up (mz_up (mz_z m) 66 3 ((((mz_z m) 66 3) * 1103515245) + 12345)) 66 3 t2) rfl ⟨?_, rfl⟩ ?_
          · refine mz_go 3 (c' := (if (-100) ≤ ((x + (t1 - t1 / ((2 * d) + 1) * ((2 * d) + 1))) - d) then 9 else 5, [some (.int ((x + (t1 - t1 / ((2 * d) + 1) * ((2 * d) + 1))) - d)), some (.int (-100)), some (.int 100)], [], mz_up (mz_up (mz_z m) 66 3 ((((mz_z m) 66 3) * 1103515245) + 12345)) 66 3 t2)) rfl ?_
            refine mz_ifT h1 ?_
            refine mz_go 3 (c' := (if ((x + (t1 - t1 / ((2 * d) + 1) * ((2 * d) + 1))) - d) ≤ 100 then 18 else 14, [some (.int ((x + (t1 - t1 / ((2 * d) + 1) * ((2 * d) + 1))) - d)), some (.int (-100)), some (.int 100)], [], mz_up (mz_up (mz_z m) 66 3 ((((mz_z m) 66 3) * 1103515245) + 12345)) 66 3 t2)) rfl ?_
            refine mz_ifF h2 ?_
            refine mz_go 2 (c' := (19, [some (.int ((x + (t1 - t1 / ((2 * d) + 1) * ((2 * d) + 1))) - d)), some (.int (-100)), some (.int 100)], [.int 100], mz_up (mz_up (mz_z m) 66 3 ((((mz_z m) 66 3) * 1103515245) + 12345)) 66 3 t2)) rfl ?_
            exact mz_ret rfl
          refine mz_go 3 (c' := (133, [some (.ref 65), some (.int x), some (.int y), some (.int d), some (.int n), some (.int 0), some (.int k), some (.int ((x + (t1 - t1 / ((2 * d) + 1) * ((2 * d) + 1))) - d)), some (.int ((y + (t3 - t3 / ((2 * d) + 1) * ((2 * d) + 1))) - d)), l9], [.int 100, .int (-100), .int ((y + (t3 - t3 / ((2 * d) + 1) * ((2 * d) + 1))) - d), .int 100, .ref 65], mz_up (mz_up (mz_z m) 66 3 ((((mz_z m) 66 3) * 1103515245) + 12345)) 66 3 t2)) rfl ?_
          refine mz_do (R := mz_r130) (as := [.int ((y + (t3 - t3 / ((2 * d) + 1) * ((2 * d) + 1))) - d), .int (-100), .int 100]) (rest := [.int 100, .ref 65]) (r1 := some (.int 100)) (m1 := mz_up (mz_up (mz_z m) 66 3 ((((mz_z m) 66 3) * 1103515245) + 12345)) 66 3 t2) rfl ⟨?_, rfl⟩ ?_
          · refine mz_go 3 (c' := (if (-100) ≤ ((y + (t3 - t3 / ((2 * d) + 1) * ((2 * d) + 1))) - d) then 9 else 5, [some (.int ((y + (t3 - t3 / ((2 * d) + 1) * ((2 * d) + 1))) - d)), some (.int (-100)), some (.int 100)], [], mz_up (mz_up (mz_z m) 66 3 ((((mz_z m) 66 3) * 1103515245) + 12345)) 66 3 t2)) rfl ?_
            refine mz_ifT h5 ?_
            refine mz_go 3 (c' := (if ((y + (t3 - t3 / ((2 * d) + 1) * ((2 * d) + 1))) - d) ≤ 100 then 18 else 14, [some (.int ((y + (t3 - t3 / ((2 * d) + 1) * ((2 * d) + 1))) - d)), some (.int (-100)), some (.int 100)], [], mz_up (mz_up (mz_z m) 66 3 ((((mz_z m) 66 3) * 1103515245) + 12345)) 66 3 t2)) rfl ?_
            refine mz_ifF h6 ?_
            refine mz_go 2 (c' := (19, [some (.int ((y + (t3 - t3 / ((2 * d) + 1) * ((2 * d) + 1))) - d)), some (.int (-100)), some (.int 100)], [.int 100], mz_up (mz_up (mz_z m) 66 3 ((((mz_z m) 66 3) * 1103515245) + 12345)) 66 3 t2)) rfl ?_
            exact mz_ret rfl
          refine mz_go 1 (c' := (137, [some (.ref 65), some (.int x), some (.int y), some (.int d), some (.int n), some (.int 0), some (.int k), some (.int ((x + (t1 - t1 / ((2 * d) + 1) * ((2 * d) + 1))) - d)), some (.int ((y + (t3 - t3 / ((2 * d) + 1) * ((2 * d) + 1))) - d)), l9], [.ref 65, .int 100, .int 100, .ref 65], mz_up (mz_up (mz_z m) 66 3 ((((mz_z m) 66 3) * 1103515245) + 12345)) 66 3 t2)) rfl ?_
          refine mz_do (R := mz_r156) (as := [.ref 65]) (rest := [.int 100, .int 100, .ref 65]) (r1 := some (.int 1)) (m1 := mz_up (mz_up (mz_z m) 66 3 ((((mz_z m) 66 3) * 1103515245) + 12345)) 66 3 t2) rfl ⟨?_, rfl⟩ ?_
          · refine mz_go 4 (c' := (7, [some (.ref 65)], [.int 1], mz_up (mz_up (mz_z m) 66 3 ((((mz_z m) 66 3) * 1103515245) + 12345)) 66 3 t2)) rfl ?_
            exact mz_ret rfl
          refine mz_do (R := mz_r155) (as := [.ref 65, .int 100, .int 100, .int 1]) (rest := []) (r1 := some (.int 9)) (m1 := mz_up (mz_z mm1) 65 8 60) rfl ⟨?_, rfl⟩ ?_
          · refine mz_go 5 (c' := (5, [some (.ref 65), some (.int 100), some (.int 100), some (.int 1)], [.int 0, .int 0, .int 100, .int 100, .ref 65], mz_up (mz_up (mz_z m) 66 3 ((((mz_z m) 66 3) * 1103515245) + 12345)) 66 3 t2)) rfl ?_
            refine mz_do (R := mz_r144) (as := [.ref 65, .int 100, .int 100, .int 0, .int 0]) (rest := []) (r1 := none) (m1 := mz_up (mz_up (mz_up (mz_up (mz_up (mz_up (mz_up (mz_z m) 66 3 ((((mz_z m) 66 3) * 1103515245) + 12345)) 66 3 t2) 65 4 1600) 65 5 1600) 65 6 0) 65 7 0) 65 8 0) rfl ⟨?_, rfl⟩ ?_
            · refine mz_go 19 (c' := (32, [some (.ref 65), some (.int 100), some (.int 100), some (.int 0), some (.int 0)], [], mz_up (mz_up (mz_up (mz_up (mz_up (mz_up (mz_up (mz_z m) 66 3 ((((mz_z m) 66 3) * 1103515245) + 12345)) 66 3 t2) 65 4 1600) 65 5 1600) 65 6 0) 65 7 0) 65 8 0)) rfl ?_
              exact mz_ret rfl
            refine mz_go 2 (c' := (10, [some (.ref 65), some (.int 100), some (.int 100), some (.int 1)], [.int 1, .ref 65], mz_up (mz_up (mz_up (mz_up (mz_up (mz_up (mz_up (mz_z m) 66 3 ((((mz_z m) 66 3) * 1103515245) + 12345)) 66 3 t2) 65 4 1600) 65 5 1600) 65 6 0) 65 7 0) 65 8 0)) rfl ?_
            refine mz_do (R := mz_r154) (as := [.ref 65, .int 1]) (rest := []) (r1 := some (.int 9)) (m1 := mz_up (mz_z mm1) 65 8 60) rfl (mz_Me.deep ms1 (by decide)) ?_
            exact mz_ret rfl
          refine mz_go 21 (c' := (78, [some (.ref 65), some (.int x), some (.int y), some (.int d), some (.int n), some (.int 0), some (.int (k + 1)), some (.int ((x + (t1 - t1 / ((2 * d) + 1) * ((2 * d) + 1))) - d)), some (.int ((y + (t3 - t3 / ((2 * d) + 1) * ((2 * d) + 1))) - d)), some (.int 9)], [], mz_up (mz_up (mz_z mm1) 65 8 60) 66 159 (((mz_z mm1) 66 159) + 1))) rfl ?_
          exact hr
      · obtain ⟨mm1, me1, mg1, ms1⟩ := rz_runs_1 (mz_up (mz_up (mz_up (mz_up (mz_up (mz_up (mz_up (mz_z m) 66 3 ((((mz_z m) 66 3) * 1103515245) + 12345)) 66 3 t2) 65 4 1600) 65 5 (-1600)) 65 6 0) 65 7 0) 65 8 0) rfl rfl
        have mw1 : Zf mm1 := zf_row (show Zf (mz_up (mz_up (mz_up (mz_up (mz_up (mz_up (mz_up (mz_z m) 66 3 ((((mz_z m) 66 3) * 1103515245) + 12345)) 66 3 t2) 65 4 1600) 65 5 (-1600)) 65 6 0) 65 7 0) 65 8 0) from rfl) rfl me1
        have ms1 : mz_Me 60 mz_r154 [.ref 65, .int 1] (mz_up (mz_up (mz_up (mz_up (mz_up (mz_up (mz_up (mz_z m) 66 3 ((((mz_z m) 66 3) * 1103515245) + 12345)) 66 3 t2) 65 4 1600) 65 5 (-1600)) 65 6 0) 65 7 0) 65 8 0) (some (.int 9)) (mz_up (mz_z mm1) 65 8 60) := by rw [zf_eq mw1, mz_up_id mg1]; exact ms1
        refine ⟨mz_up (mz_up (mz_z mm1) 65 8 60) 66 159 (((mz_z mm1) 66 159) + 1), (x + (t1 - t1 / ((2 * d) + 1) * ((2 * d) + 1))) - d, (y + (t3 - t3 / ((2 * d) + 1) * ((2 * d) + 1))) - d, 9, rfl, trivial, fun r hr => ?_⟩
        refine mz_go 3 (c' := (if n ≤ k then 183 else 85, [some (.ref 65), some (.int x), some (.int y), some (.int d), some (.int n), some (.int 0), some (.int k), l7, l8, l9], [], (mz_z m))) rfl ?_
        refine mz_ifF hk ?_
        refine mz_go 2 (c' := (87, [some (.ref 65), some (.int x), some (.int y), some (.int d), some (.int n), some (.int 0), some (.int k), l7, l8, l9], [.ref 65, .int x], (mz_z m))) rfl ?_
        refine mz_do (R := mz_r205) (as := [.ref 65]) (rest := [.int x]) (r1 := some (.int t1)) (m1 := mz_up (mz_z m) 66 3 ((((mz_z m) 66 3) * 1103515245) + 12345)) rfl ⟨?_, rfl⟩ ?_
        · refine mz_go 18 (c' := (28, [some (.ref 65)], [.int t1], mz_up (mz_z m) 66 3 ((((mz_z m) 66 3) * 1103515245) + 12345))) rfl ?_
          exact mz_ret rfl
        refine mz_go 5 (c' := (95, [some (.ref 65), some (.int x), some (.int y), some (.int d), some (.int n), some (.int 0), some (.int k), l7, l8, l9], [.int ((2 * d) + 1), .int t1, .int x], mz_up (mz_z m) 66 3 ((((mz_z m) 66 3) * 1103515245) + 12345))) rfl ?_
        refine mz_div (c' := (96, [some (.ref 65), some (.int x), some (.int y), some (.int d), some (.int n), some (.int 0), some (.int k), l7, l8, l9], [.int (t1 - t1 / ((2 * d) + 1) * ((2 * d) + 1)), .int x], mz_up (mz_z m) 66 3 ((((mz_z m) 66 3) * 1103515245) + 12345))) rfl hd ?_
        refine mz_go 6 (c' := (103, [some (.ref 65), some (.int x), some (.int y), some (.int d), some (.int n), some (.int 0), some (.int k), some (.int ((x + (t1 - t1 / ((2 * d) + 1) * ((2 * d) + 1))) - d)), l8, l9], [.ref 65, .int y], mz_up (mz_z m) 66 3 ((((mz_z m) 66 3) * 1103515245) + 12345))) rfl ?_
        refine mz_do (R := mz_r205) (as := [.ref 65]) (rest := [.int y]) (r1 := some (.int t3)) (m1 := mz_up (mz_up (mz_z m) 66 3 ((((mz_z m) 66 3) * 1103515245) + 12345)) 66 3 t2) rfl ⟨?_, rfl⟩ ?_
        · refine mz_go 18 (c' := (28, [some (.ref 65)], [.int t3], mz_up (mz_up (mz_z m) 66 3 ((((mz_z m) 66 3) * 1103515245) + 12345)) 66 3 t2)) rfl ?_
          exact mz_ret rfl
        refine mz_go 5 (c' := (111, [some (.ref 65), some (.int x), some (.int y), some (.int d), some (.int n), some (.int 0), some (.int k), some (.int ((x + (t1 - t1 / ((2 * d) + 1) * ((2 * d) + 1))) - d)), l8, l9], [.int ((2 * d) + 1), .int t3, .int y], mz_up (mz_up (mz_z m) 66 3 ((((mz_z m) 66 3) * 1103515245) + 12345)) 66 3 t2)) rfl ?_
        refine mz_div (c' := (112, [some (.ref 65), some (.int x), some (.int y), some (.int d), some (.int n), some (.int 0), some (.int k), some (.int ((x + (t1 - t1 / ((2 * d) + 1) * ((2 * d) + 1))) - d)), l8, l9], [.int (t3 - t3 / ((2 * d) + 1) * ((2 * d) + 1)), .int y], mz_up (mz_up (mz_z m) 66 3 ((((mz_z m) 66 3) * 1103515245) + 12345)) 66 3 t2)) rfl hd ?_
        refine mz_go 8 (c' := (124, [some (.ref 65), some (.int x), some (.int y), some (.int d), some (.int n), some (.int 0), some (.int k), some (.int ((x + (t1 - t1 / ((2 * d) + 1) * ((2 * d) + 1))) - d)), some (.int ((y + (t3 - t3 / ((2 * d) + 1) * ((2 * d) + 1))) - d)), l9], [.int 100, .int (-100), .int ((x + (t1 - t1 / ((2 * d) + 1) * ((2 * d) + 1))) - d), .ref 65], mz_up (mz_up (mz_z m) 66 3 ((((mz_z m) 66 3) * 1103515245) + 12345)) 66 3 t2)) rfl ?_
        refine mz_do (R := mz_r130) (as := [.int ((x + (t1 - t1 / ((2 * d) + 1) * ((2 * d) + 1))) - d), .int (-100), .int 100]) (rest := [.ref 65]) (r1 := some (.int 100)) (m1 := mz_up (mz_up (mz_z m) 66 3 ((((mz_z m) 66 3) * 1103515245) + 12345)) 66 3 t2) rfl ⟨?_, rfl⟩ ?_
        · refine mz_go 3 (c' := (if (-100) ≤ ((x + (t1 - t1 / ((2 * d) + 1) * ((2 * d) + 1))) - d) then 9 else 5, [some (.int ((x + (t1 - t1 / ((2 * d) + 1) * ((2 * d) + 1))) - d)), some (.int (-100)), some (.int 100)], [], mz_up (mz_up (mz_z m) 66 3 ((((mz_z m) 66 3) * 1103515245) + 12345)) 66 3 t2)) rfl ?_
          refine mz_ifT h1 ?_
          refine mz_go 3 (c' := (if ((x + (t1 - t1 / ((2 * d) + 1) * ((2 * d) + 1))) - d) ≤ 100 then 18 else 14, [some (.int ((x + (t1 - t1 / ((2 * d) + 1) * ((2 * d) + 1))) - d)), some (.int (-100)), some (.int 100)], [], mz_up (mz_up (mz_z m) 66 3 ((((mz_z m) 66 3) * 1103515245) + 12345)) 66 3 t2)) rfl ?_
          refine mz_ifF h2 ?_
          refine mz_go 2 (c' := (19, [some (.int ((x + (t1 - t1 / ((2 * d) + 1) * ((2 * d) + 1))) - d)), some (.int (-100)), some (.int 100)], [.int 100], mz_up (mz_up (mz_z m) 66 3 ((((mz_z m) 66 3) * 1103515245) + 12345)) 66 3 t2)) rfl ?_
          exact mz_ret rfl
        refine mz_go 3 (c' := (133, [some (.ref 65), some (.int x), some (.int y), some (.int d), some (.int n), some (.int 0), some (.int k), some (.int ((x + (t1 - t1 / ((2 * d) + 1) * ((2 * d) + 1))) - d)), some (.int ((y + (t3 - t3 / ((2 * d) + 1) * ((2 * d) + 1))) - d)), l9], [.int 100, .int (-100), .int ((y + (t3 - t3 / ((2 * d) + 1) * ((2 * d) + 1))) - d), .int 100, .ref 65], mz_up (mz_up (mz_z m) 66 3 ((((mz_z m) 66 3) * 1103515245) + 12345)) 66 3 t2)) rfl ?_
        refine mz_do (R := mz_r130) (as := [.int ((y + (t3 - t3 / ((2 * d) + 1) * ((2 * d) + 1))) - d), .int (-100), .int 100]) (rest := [.int 100, .ref 65]) (r1 := some (.int (-100))) (m1 := mz_up (mz_up (mz_z m) 66 3 ((((mz_z m) 66 3) * 1103515245) + 12345)) 66 3 t2) rfl ⟨?_, rfl⟩ ?_
        · refine mz_go 3 (c' := (if (-100) ≤ ((y + (t3 - t3 / ((2 * d) + 1) * ((2 * d) + 1))) - d) then 9 else 5, [some (.int ((y + (t3 - t3 / ((2 * d) + 1) * ((2 * d) + 1))) - d)), some (.int (-100)), some (.int 100)], [], mz_up (mz_up (mz_z m) 66 3 ((((mz_z m) 66 3) * 1103515245) + 12345)) 66 3 t2)) rfl ?_
          refine mz_ifF h5 ?_
          refine mz_go 2 (c' := (19, [some (.int ((y + (t3 - t3 / ((2 * d) + 1) * ((2 * d) + 1))) - d)), some (.int (-100)), some (.int 100)], [.int (-100)], mz_up (mz_up (mz_z m) 66 3 ((((mz_z m) 66 3) * 1103515245) + 12345)) 66 3 t2)) rfl ?_
          exact mz_ret rfl
        refine mz_go 1 (c' := (137, [some (.ref 65), some (.int x), some (.int y), some (.int d), some (.int n), some (.int 0), some (.int k), some (.int ((x + (t1 - t1 / ((2 * d) + 1) * ((2 * d) + 1))) - d)), some (.int ((y + (t3 - t3 / ((2 * d) + 1) * ((2 * d) + 1))) - d)), l9], [.ref 65, .int (-100), .int 100, .ref 65], mz_up (mz_up (mz_z m) 66 3 ((((mz_z m) 66 3) * 1103515245) + 12345)) 66 3 t2)) rfl ?_
        refine mz_do (R := mz_r156) (as := [.ref 65]) (rest := [.int (-100), .int 100, .ref 65]) (r1 := some (.int 1)) (m1 := mz_up (mz_up (mz_z m) 66 3 ((((mz_z m) 66 3) * 1103515245) + 12345)) 66 3 t2) rfl ⟨?_, rfl⟩ ?_
        · refine mz_go 4 (c' := (7, [some (.ref 65)], [.int 1], mz_up (mz_up (mz_z m) 66 3 ((((mz_z m) 66 3) * 1103515245) + 12345)) 66 3 t2)) rfl ?_
          exact mz_ret rfl
        refine mz_do (R := mz_r155) (as := [.ref 65, .int 100, .int (-100), .int 1]) (rest := []) (r1 := some (.int 9)) (m1 := mz_up (mz_z mm1) 65 8 60) rfl ⟨?_, rfl⟩ ?_
        · refine mz_go 5 (c' := (5, [some (.ref 65), some (.int 100), some (.int (-100)), some (.int 1)], [.int 0, .int 0, .int (-100), .int 100, .ref 65], mz_up (mz_up (mz_z m) 66 3 ((((mz_z m) 66 3) * 1103515245) + 12345)) 66 3 t2)) rfl ?_
          refine mz_do (R := mz_r144) (as := [.ref 65, .int 100, .int (-100), .int 0, .int 0]) (rest := []) (r1 := none) (m1 := mz_up (mz_up (mz_up (mz_up (mz_up (mz_up (mz_up (mz_z m) 66 3 ((((mz_z m) 66 3) * 1103515245) + 12345)) 66 3 t2) 65 4 1600) 65 5 (-1600)) 65 6 0) 65 7 0) 65 8 0) rfl ⟨?_, rfl⟩ ?_
          · refine mz_go 19 (c' := (32, [some (.ref 65), some (.int 100), some (.int (-100)), some (.int 0), some (.int 0)], [], mz_up (mz_up (mz_up (mz_up (mz_up (mz_up (mz_up (mz_z m) 66 3 ((((mz_z m) 66 3) * 1103515245) + 12345)) 66 3 t2) 65 4 1600) 65 5 (-1600)) 65 6 0) 65 7 0) 65 8 0)) rfl ?_
            exact mz_ret rfl
          refine mz_go 2 (c' := (10, [some (.ref 65), some (.int 100), some (.int (-100)), some (.int 1)], [.int 1, .ref 65], mz_up (mz_up (mz_up (mz_up (mz_up (mz_up (mz_up (mz_z m) 66 3 ((((mz_z m) 66 3) * 1103515245) + 12345)) 66 3 t2) 65 4 1600) 65 5 (-1600)) 65 6 0) 65 7 0) 65 8 0)) rfl ?_
          refine mz_do (R := mz_r154) (as := [.ref 65, .int 1]) (rest := []) (r1 := some (.int 9)) (m1 := mz_up (mz_z mm1) 65 8 60) rfl (mz_Me.deep ms1 (by decide)) ?_
          exact mz_ret rfl
        refine mz_go 21 (c' := (78, [some (.ref 65), some (.int x), some (.int y), some (.int d), some (.int n), some (.int 0), some (.int (k + 1)), some (.int ((x + (t1 - t1 / ((2 * d) + 1) * ((2 * d) + 1))) - d)), some (.int ((y + (t3 - t3 / ((2 * d) + 1) * ((2 * d) + 1))) - d)), some (.int 9)], [], mz_up (mz_up (mz_z mm1) 65 8 60) 66 159 (((mz_z mm1) 66 159) + 1))) rfl ?_
        exact hr
  · by_cases h7 : (-100) ≤ ((y + (t3 - t3 / ((2 * d) + 1) * ((2 * d) + 1))) - d)
    · by_cases h8 : ((y + (t3 - t3 / ((2 * d) + 1) * ((2 * d) + 1))) - d) ≤ 100
      · obtain ⟨mm1, me1, mg1, ms1⟩ := rz_runs_1 (mz_up (mz_up (mz_up (mz_up (mz_up (mz_up (mz_up (mz_z m) 66 3 ((((mz_z m) 66 3) * 1103515245) + 12345)) 66 3 t2) 65 4 (-1600)) 65 5 (16 * ((y + (t3 - t3 / ((2 * d) + 1) * ((2 * d) + 1))) - d))) 65 6 0) 65 7 0) 65 8 0) rfl rfl
        have mw1 : Zf mm1 := zf_row (show Zf (mz_up (mz_up (mz_up (mz_up (mz_up (mz_up (mz_up (mz_z m) 66 3 ((((mz_z m) 66 3) * 1103515245) + 12345)) 66 3 t2) 65 4 (-1600)) 65 5 (16 * ((y + (t3 - t3 / ((2 * d) + 1) * ((2 * d) + 1))) - d))) 65 6 0) 65 7 0) 65 8 0) from rfl) rfl me1
        have ms1 : mz_Me 60 mz_r154 [.ref 65, .int 1] (mz_up (mz_up (mz_up (mz_up (mz_up (mz_up (mz_up (mz_z m) 66 3 ((((mz_z m) 66 3) * 1103515245) + 12345)) 66 3 t2) 65 4 (-1600)) 65 5 (16 * ((y + (t3 - t3 / ((2 * d) + 1) * ((2 * d) + 1))) - d))) 65 6 0) 65 7 0) 65 8 0) (some (.int 9)) (mz_up (mz_z mm1) 65 8 60) := by rw [zf_eq mw1, mz_up_id mg1]; exact ms1
        refine ⟨mz_up (mz_up (mz_z mm1) 65 8 60) 66 159 (((mz_z mm1) 66 159) + 1), (x + (t1 - t1 / ((2 * d) + 1) * ((2 * d) + 1))) - d, (y + (t3 - t3 / ((2 * d) + 1) * ((2 * d) + 1))) - d, 9, rfl, trivial, fun r hr => ?_⟩
        refine mz_go 3 (c' := (if n ≤ k then 183 else 85, [some (.ref 65), some (.int x), some (.int y), some (.int d), some (.int n), some (.int 0), some (.int k), l7, l8, l9], [], (mz_z m))) rfl ?_
        refine mz_ifF hk ?_
        refine mz_go 2 (c' := (87, [some (.ref 65), some (.int x), some (.int y), some (.int d), some (.int n), some (.int 0), some (.int k), l7, l8, l9], [.ref 65, .int x], (mz_z m))) rfl ?_
        refine mz_do (R := mz_r205) (as := [.ref 65]) (rest := [.int x]) (r1 := some (.int t1)) (m1 := mz_up (mz_z m) 66 3 ((((mz_z m) 66 3) * 1103515245) + 12345)) rfl ⟨?_, rfl⟩ ?_
        · refine mz_go 18 (c' := (28, [some (.ref 65)], [.int t1], mz_up (mz_z m) 66 3 ((((mz_z m) 66 3) * 1103515245) + 12345))) rfl ?_
          exact mz_ret rfl
        refine mz_go 5 (c' := (95, [some (.ref 65), some (.int x), some (.int y), some (.int d), some (.int n), some (.int 0), some (.int k), l7, l8, l9], [.int ((2 * d) + 1), .int t1, .int x], mz_up (mz_z m) 66 3 ((((mz_z m) 66 3) * 1103515245) + 12345))) rfl ?_
        refine mz_div (c' := (96, [some (.ref 65), some (.int x), some (.int y), some (.int d), some (.int n), some (.int 0), some (.int k), l7, l8, l9], [.int (t1 - t1 / ((2 * d) + 1) * ((2 * d) + 1)), .int x], mz_up (mz_z m) 66 3 ((((mz_z m) 66 3) * 1103515245) + 12345))) rfl hd ?_
        refine mz_go 6 (c' := (103, [some (.ref 65), some (.int x), some (.int y), some (.int d), some (.int n), some (.int 0), some (.int k), some (.int ((x + (t1 - t1 / ((2 * d) + 1) * ((2 * d) + 1))) - d)), l8, l9], [.ref 65, .int y], mz_up (mz_z m) 66 3 ((((mz_z m) 66 3) * 1103515245) + 12345))) rfl ?_
        refine mz_do (R := mz_r205) (as := [.ref 65]) (rest := [.int y]) (r1 := some (.int t3)) (m1 := mz_up (mz_up (mz_z m) 66 3 ((((mz_z m) 66 3) * 1103515245) + 12345)) 66 3 t2) rfl ⟨?_, rfl⟩ ?_
        · refine mz_go 18 (c' := (28, [some (.ref 65)], [.int t3], mz_up (mz_up (mz_z m) 66 3 ((((mz_z m) 66 3) * 1103515245) + 12345)) 66 3 t2)) rfl ?_
          exact mz_ret rfl
        refine mz_go 5 (c' := (111, [some (.ref 65), some (.int x), some (.int y), some (.int d), some (.int n), some (.int 0), some (.int k), some (.int ((x + (t1 - t1 / ((2 * d) + 1) * ((2 * d) + 1))) - d)), l8, l9], [.int ((2 * d) + 1), .int t3, .int y], mz_up (mz_up (mz_z m) 66 3 ((((mz_z m) 66 3) * 1103515245) + 12345)) 66 3 t2)) rfl ?_
        refine mz_div (c' := (112, [some (.ref 65), some (.int x), some (.int y), some (.int d), some (.int n), some (.int 0), some (.int k), some (.int ((x + (t1 - t1 / ((2 * d) + 1) * ((2 * d) + 1))) - d)), l8, l9], [.int (t3 - t3 / ((2 * d) + 1) * ((2 * d) + 1)), .int y], mz_up (mz_up (mz_z m) 66 3 ((((mz_z m) 66 3) * 1103515245) + 12345)) 66 3 t2)) rfl hd ?_
        refine mz_go 8 (c' := (124, [some (.ref 65), some (.int x), some (.int y), some (.int d), some (.int n), some (.int 0), some (.int k), some (.int ((x + (t1 - t1 / ((2 * d) + 1) * ((2 * d) + 1))) - d)), some (.int ((y + (t3 - t3 / ((2 * d) + 1) * ((2 * d) + 1))) - d)), l9], [.int 100, .int (-100), .int ((x + (t1 - t1 / ((2 * d) + 1) * ((2 * d) + 1))) - d), .ref 65], mz_up (mz_up (mz_z m) 66 3 ((((mz_z m) 66 3) * 1103515245) + 12345)) 66 3 t2)) rfl ?_
        refine mz_do (R := mz_r130) (as := [.int ((x + (t1 - t1 / ((2 * d) + 1) * ((2 * d) + 1))) - d), .int (-100), .int 100]) (rest := [.ref 65]) (r1 := some (.int (-100))) (m1 := mz_up (mz_up (mz_z m) 66 3 ((((mz_z m) 66 3) * 1103515245) + 12345)) 66 3 t2) rfl ⟨?_, rfl⟩ ?_
        · refine mz_go 3 (c' := (if (-100) ≤ ((x + (t1 - t1 / ((2 * d) + 1) * ((2 * d) + 1))) - d) then 9 else 5, [some (.int ((x + (t1 - t1 / ((2 * d) + 1) * ((2 * d) + 1))) - d)), some (.int (-100)), some (.int 100)], [], mz_up (mz_up (mz_z m) 66 3 ((((mz_z m) 66 3) * 1103515245) + 12345)) 66 3 t2)) rfl ?_
          refine mz_ifF h1 ?_
          refine mz_go 2 (c' := (19, [some (.int ((x + (t1 - t1 / ((2 * d) + 1) * ((2 * d) + 1))) - d)), some (.int (-100)), some (.int 100)], [.int (-100)], mz_up (mz_up (mz_z m) 66 3 ((((mz_z m) 66 3) * 1103515245) + 12345)) 66 3 t2)) rfl ?_
          exact mz_ret rfl
        refine mz_go 3 (c' := (133, [some (.ref 65), some (.int x), some (.int y), some (.int d), some (.int n), some (.int 0), some (.int k), some (.int ((x + (t1 - t1 / ((2 * d) + 1) * ((2 * d) + 1))) - d)), some (.int ((y + (t3 - t3 / ((2 * d) + 1) * ((2 * d) + 1))) - d)), l9], [.int 100, .int (-100), .int ((y + (t3 - t3 / ((2 * d) + 1) * ((2 * d) + 1))) - d), .int (-100), .ref 65], mz_up (mz_up (mz_z m) 66 3 ((((mz_z m) 66 3) * 1103515245) + 12345)) 66 3 t2)) rfl ?_
        refine mz_do (R := mz_r130) (as := [.int ((y + (t3 - t3 / ((2 * d) + 1) * ((2 * d) + 1))) - d), .int (-100), .int 100]) (rest := [.int (-100), .ref 65]) (r1 := some (.int ((y + (t3 - t3 / ((2 * d) + 1) * ((2 * d) + 1))) - d))) (m1 := mz_up (mz_up (mz_z m) 66 3 ((((mz_z m) 66 3) * 1103515245) + 12345)) 66 3 t2) rfl ⟨?_, rfl⟩ ?_
        · refine mz_go 3 (c' := (if (-100) ≤ ((y + (t3 - t3 / ((2 * d) + 1) * ((2 * d) + 1))) - d) then 9 else 5, [some (.int ((y + (t3 - t3 / ((2 * d) + 1) * ((2 * d) + 1))) - d)), some (.int (-100)), some (.int 100)], [], mz_up (mz_up (mz_z m) 66 3 ((((mz_z m) 66 3) * 1103515245) + 12345)) 66 3 t2)) rfl ?_
          refine mz_ifT h7 ?_
          refine mz_go 3 (c' := (if ((y + (t3 - t3 / ((2 * d) + 1) * ((2 * d) + 1))) - d) ≤ 100 then 18 else 14, [some (.int ((y + (t3 - t3 / ((2 * d) + 1) * ((2 * d) + 1))) - d)), some (.int (-100)), some (.int 100)], [], mz_up (mz_up (mz_z m) 66 3 ((((mz_z m) 66 3) * 1103515245) + 12345)) 66 3 t2)) rfl ?_
          refine mz_ifT h8 ?_
          refine mz_go 1 (c' := (19, [some (.int ((y + (t3 - t3 / ((2 * d) + 1) * ((2 * d) + 1))) - d)), some (.int (-100)), some (.int 100)], [.int ((y + (t3 - t3 / ((2 * d) + 1) * ((2 * d) + 1))) - d)], mz_up (mz_up (mz_z m) 66 3 ((((mz_z m) 66 3) * 1103515245) + 12345)) 66 3 t2)) rfl ?_
          exact mz_ret rfl
        refine mz_go 1 (c' := (137, [some (.ref 65), some (.int x), some (.int y), some (.int d), some (.int n), some (.int 0), some (.int k), some (.int ((x + (t1 - t1 / ((2 * d) + 1) * ((2 * d) + 1))) - d)), some (.int ((y + (t3 - t3 / ((2 * d) + 1) * ((2 * d) + 1))) - d)), l9], [.ref 65, .int ((y + (t3 - t3 / ((2 * d) + 1) * ((2 * d) + 1))) - d), .int (-100), .ref 65], mz_up (mz_up (mz_z m) 66 3 ((((mz_z m) 66 3) * 1103515245) + 12345)) 66 3 t2)) rfl ?_
        refine mz_do (R := mz_r156) (as := [.ref 65]) (rest := [.int ((y + (t3 - t3 / ((2 * d) + 1) * ((2 * d) + 1))) - d), .int (-100), .ref 65]) (r1 := some (.int 1)) (m1 := mz_up (mz_up (mz_z m) 66 3 ((((mz_z m) 66 3) * 1103515245) + 12345)) 66 3 t2) rfl ⟨?_, rfl⟩ ?_
        · refine mz_go 4 (c' := (7, [some (.ref 65)], [.int 1], mz_up (mz_up (mz_z m) 66 3 ((((mz_z m) 66 3) * 1103515245) + 12345)) 66 3 t2)) rfl ?_
          exact mz_ret rfl
        refine mz_do (R := mz_r155) (as := [.ref 65, .int (-100), .int ((y + (t3 - t3 / ((2 * d) + 1) * ((2 * d) + 1))) - d), .int 1]) (rest := []) (r1 := some (.int 9)) (m1 := mz_up (mz_z mm1) 65 8 60) rfl ⟨?_, rfl⟩ ?_
        · refine mz_go 5 (c' := (5, [some (.ref 65), some (.int (-100)), some (.int ((y + (t3 - t3 / ((2 * d) + 1) * ((2 * d) + 1))) - d)), some (.int 1)], [.int 0, .int 0, .int ((y + (t3 - t3 / ((2 * d) + 1) * ((2 * d) + 1))) - d), .int (-100), .ref 65], mz_up (mz_up (mz_z m) 66 3 ((((mz_z m) 66 3) * 1103515245) + 12345)) 66 3 t2)) rfl ?_
          refine mz_do (R := mz_r144) (as := [.ref 65, .int (-100), .int ((y + (t3 - t3 / ((2 * d) + 1) * ((2 * d) + 1))) - d), .int 0, .int 0]) (rest := []) (r1 := none) (m1 := mz_up (mz_up (mz_up (mz_up (mz_up (mz_up (mz_up (mz_z m) 66 3 ((((mz_z m) 66 3) * 1103515245) + 12345)) 66 3 t2) 65 4 (-1600)) 65 5 (16 * ((y + (t3 - t3 / ((2 * d) + 1) * ((2 * d) + 1))) - d))) 65 6 0) 65 7 0) 65 8 0) rfl ⟨?_, rfl⟩ ?_
          · refine mz_go 19 (c' := (32, [some (.ref 65), some (.int (-100)), some (.int ((y + (t3 - t3 / ((2 * d) + 1) * ((2 * d) + 1))) - d)), some (.int 0), some (.int 0)], [], mz_up (mz_up (mz_up (mz_up (mz_up (mz_up (mz_up (mz_z m) 66 3 ((((mz_z m) 66 3) * 1103515245) + 12345)) 66 3 t2) 65 4 (-1600)) 65 5 (16 * ((y + (t3 - t3 / ((2 * d) + 1) * ((2 * d) + 1))) - d))) 65 6 0) 65 7 0) 65 8 0)) rfl ?_
            exact mz_ret rfl
          refine mz_go 2 (c' := (10, [some (.ref 65), some (.int (-100)), some (.int ((y + (t3 - t3 / ((2 * d) + 1) * ((2 * d) + 1))) - d)), some (.int 1)], [.int 1, .ref 65], mz_up (mz_up (mz_up (mz_up (mz_up (mz_up (mz_up (mz_z m) 66 3 ((((mz_z m) 66 3) * 1103515245) + 12345)) 66 3 t2) 65 4 (-1600)) 65 5 (16 * ((y + (t3 - t3 / ((2 * d) + 1) * ((2 * d) + 1))) - d))) 65 6 0) 65 7 0) 65 8 0)) rfl ?_
          refine mz_do (R := mz_r154) (as := [.ref 65, .int 1]) (rest := []) (r1 := some (.int 9)) (m1 := mz_up (mz_z mm1) 65 8 60) rfl (mz_Me.deep ms1 (by decide)) ?_
          exact mz_ret rfl
        refine mz_go 21 (c' := (78, [some (.ref 65), some (.int x), some (.int y), some (.int d), some (.int n), some (.int 0), some (.int (k + 1)), some (.int ((x + (t1 - t1 / ((2 * d) + 1) * ((2 * d) + 1))) - d)), some (.int ((y + (t3 - t3 / ((2 * d) + 1) * ((2 * d) + 1))) - d)), some (.int 9)], [], mz_up (mz_up (mz_z mm1) 65 8 60) 66 159 (((mz_z mm1) 66 159) + 1))) rfl ?_
        exact hr
      · obtain ⟨mm1, me1, mg1, ms1⟩ := rz_runs_1 (mz_up (mz_up (mz_up (mz_up (mz_up (mz_up (mz_up (mz_z m) 66 3 ((((mz_z m) 66 3) * 1103515245) + 12345)) 66 3 t2) 65 4 (-1600)) 65 5 1600) 65 6 0) 65 7 0) 65 8 0) rfl rfl
        have mw1 : Zf mm1 := zf_row (show Zf (mz_up (mz_up (mz_up (mz_up (mz_up (mz_up (mz_up (mz_z m) 66 3 ((((mz_z m) 66 3) * 1103515245) + 12345)) 66 3 t2) 65 4 (-1600)) 65 5 1600) 65 6 0) 65 7 0) 65 8 0) from rfl) rfl me1
        have ms1 : mz_Me 60 mz_r154 [.ref 65, .int 1] (mz_up (mz_up (mz_up (mz_up (mz_up (mz_up (mz_up (mz_z m) 66 3 ((((mz_z m) 66 3) * 1103515245) + 12345)) 66 3 t2) 65 4 (-1600)) 65 5 1600) 65 6 0) 65 7 0) 65 8 0) (some (.int 9)) (mz_up (mz_z mm1) 65 8 60) := by rw [zf_eq mw1, mz_up_id mg1]; exact ms1
        refine ⟨mz_up (mz_up (mz_z mm1) 65 8 60) 66 159 (((mz_z mm1) 66 159) + 1), (x + (t1 - t1 / ((2 * d) + 1) * ((2 * d) + 1))) - d, (y + (t3 - t3 / ((2 * d) + 1) * ((2 * d) + 1))) - d, 9, rfl, trivial, fun r hr => ?_⟩
        refine mz_go 3 (c' := (if n ≤ k then 183 else 85, [some (.ref 65), some (.int x), some (.int y), some (.int d), some (.int n), some (.int 0), some (.int k), l7, l8, l9], [], (mz_z m))) rfl ?_
        refine mz_ifF hk ?_
        refine mz_go 2 (c' := (87, [some (.ref 65), some (.int x), some (.int y), some (.int d), some (.int n), some (.int 0), some (.int k), l7, l8, l9], [.ref 65, .int x], (mz_z m))) rfl ?_
        refine mz_do (R := mz_r205) (as := [.ref 65]) (rest := [.int x]) (r1 := some (.int t1)) (m1 := mz_up (mz_z m) 66 3 ((((mz_z m) 66 3) * 1103515245) + 12345)) rfl ⟨?_, rfl⟩ ?_
        · refine mz_go 18 (c' := (28, [some (.ref 65)], [.int t1], mz_up (mz_z m) 66 3 ((((mz_z m) 66 3) * 1103515245) + 12345))) rfl ?_
          exact mz_ret rfl
        refine mz_go 5 (c' := (95, [some (.ref 65), some (.int x), some (.int y), some (.int d), some (.int n), some (.int 0), some (.int k), l7, l8, l9], [.int ((2 * d) + 1), .int t1, .int x], mz_up (mz_z m) 66 3 ((((mz_z m) 66 3) * 1103515245) + 12345))) rfl ?_
        refine mz_div (c' := (96, [some (.ref 65), some (.int x), some (.int y), some (.int d), some (.int n), some (.int 0), some (.int k), l7, l8, l9], [.int (t1 - t1 / ((2 * d) + 1) * ((2 * d) + 1)), .int x], mz_up (mz_z m) 66 3 ((((mz_z m) 66 3) * 1103515245) + 12345))) rfl hd ?_
        refine mz_go 6 (c' := (103, [some (.ref 65), some (.int x), some (.int y), some (.int d), some (.int n), some (.int 0), some (.int k), some (.int ((x + (t1 - t1 / ((2 * d) + 1) * ((2 * d) + 1))) - d)), l8, l9], [.ref 65, .int y], mz_up (mz_z m) 66 3 ((((mz_z m) 66 3) * 1103515245) + 12345))) rfl ?_
        refine mz_do (R := mz_r205) (as := [.ref 65]) (rest := [.int y]) (r1 := some (.int t3)) (m1 := mz_up (mz_up (mz_z m) 66 3 ((((mz_z m) 66 3) * 1103515245) + 12345)) 66 3 t2) rfl ⟨?_, rfl⟩ ?_
        · refine mz_go 18 (c' := (28, [some (.ref 65)], [.int t3], mz_up (mz_up (mz_z m) 66 3 ((((mz_z m) 66 3) * 1103515245) + 12345)) 66 3 t2)) rfl ?_
          exact mz_ret rfl
        refine mz_go 5 (c' := (111, [some (.ref 65), some (.int x), some (.int y), some (.int d), some (.int n), some (.int 0), some (.int k), some (.int ((x + (t1 - t1 / ((2 * d) + 1) * ((2 * d) + 1))) - d)), l8, l9], [.int ((2 * d) + 1), .int t3, .int y], mz_up (mz_up (mz_z m) 66 3 ((((mz_z m) 66 3) * 1103515245) + 12345)) 66 3 t2)) rfl ?_
        refine mz_div (c' := (112, [some (.ref 65), some (.int x), some (.int y), some (.int d), some (.int n), some (.int 0), some (.int k), some (.int ((x + (t1 - t1 / ((2 * d) + 1) * ((2 * d) + 1))) - d)), l8, l9], [.int (t3 - t3 / ((2 * d) + 1) * ((2 * d) + 1)), .int y], mz_up (mz_up (mz_z m) 66 3 ((((mz_z m) 66 3) * 1103515245) + 12345)) 66 3 t2)) rfl hd ?_
        refine mz_go 8 (c' := (124, [some (.ref 65), some (.int x), some (.int y), some (.int d), some (.int n), some (.int 0), some (.int k), some (.int ((x + (t1 - t1 / ((2 * d) + 1) * ((2 * d) + 1))) - d)), some (.int ((y + (t3 - t3 / ((2 * d) + 1) * ((2 * d) + 1))) - d)), l9], [.int 100, .int (-100), .int ((x + (t1 - t1 / ((2 * d) + 1) * ((2 * d) + 1))) - d), .ref 65], mz_up (mz_up (mz_z m) 66 3 ((((mz_z m) 66 3) * 1103515245) + 12345)) 66 3 t2)) rfl ?_
        refine mz_do (R := mz_r130) (as := [.int ((x + (t1 - t1 / ((2 * d) + 1) * ((2 * d) + 1))) - d), .int (-100), .int 100]) (rest := [.ref 65]) (r1 := some (.int (-100))) (m1 := mz_up (mz_up (mz_z m) 66 3 ((((mz_z m) 66 3) * 1103515245) + 12345)) 66 3 t2) rfl ⟨?_, rfl⟩ ?_
        · refine mz_go 3 (c' := (if (-100) ≤ ((x + (t1 - t1 / ((2 * d) + 1) * ((2 * d) + 1))) - d) then 9 else 5, [some (.int ((x + (t1 - t1 / ((2 * d) + 1) * ((2 * d) + 1))) - d)), some (.int (-100)), some (.int 100)], [], mz_up (mz_up (mz_z m) 66 3 ((((mz_z m) 66 3) * 1103515245) + 12345)) 66 3 t2)) rfl ?_
          refine mz_ifF h1 ?_
          refine mz_go 2 (c' := (19, [some (.int ((x + (t1 - t1 / ((2 * d) + 1) * ((2 * d) + 1))) - d)), some (.int (-100)), some (.int 100)], [.int (-100)], mz_up (mz_up (mz_z m) 66 3 ((((mz_z m) 66 3) * 1103515245) + 12345)) 66 3 t2)) rfl ?_
          exact mz_ret rfl
        refine mz_go 3 (c' := (133, [some (.ref 65), some (.int x), some (.int y), some (.int d), some (.int n), some (.int 0), some (.int k), some (.int ((x + (t1 - t1 / ((2 * d) + 1) * ((2 * d) + 1))) - d)), some (.int ((y + (t3 - t3 / ((2 * d) + 1) * ((2 * d) + 1))) - d)), l9], [.int 100, .int (-100), .int ((y + (t3 - t3 / ((2 * d) + 1) * ((2 * d) + 1))) - d), .int (-100), .ref 65], mz_up (mz_up (mz_z m) 66 3 ((((mz_z m) 66 3) * 1103515245) + 12345)) 66 3 t2)) rfl ?_
        refine mz_do (R := mz_r130) (as := [.int ((y + (t3 - t3 / ((2 * d) + 1) * ((2 * d) + 1))) - d), .int (-100), .int 100]) (rest := [.int (-100), .ref 65]) (r1 := some (.int 100)) (m1 := mz_up (mz_up (mz_z m) 66 3 ((((mz_z m) 66 3) * 1103515245) + 12345)) 66 3 t2) rfl ⟨?_, rfl⟩ ?_
        · refine mz_go 3 (c' := (if (-100) ≤ ((y + (t3 - t3 / ((2 * d) + 1) * ((2 * d) + 1))) - d) then 9 else 5, [some (.int ((y + (t3 - t3 / ((2 * d) + 1) * ((2 * d) + 1))) - d)), some (.int (-100)), some (.int 100)], [], mz_up (mz_up (mz_z m) 66 3 ((((mz_z m) 66 3) * 1103515245) + 12345)) 66 3 t2)) rfl ?_
          refine mz_ifT h7 ?_
          refine mz_go 3 (c' := (if ((y + (t3 - t3 / ((2 * d) + 1) * ((2 * d) + 1))) - d) ≤ 100 then 18 else 14, [some (.int ((y + (t3 - t3 / ((2 * d) + 1) * ((2 * d) + 1))) - d)), some (.int (-100)), some (.int 100)], [], mz_up (mz_up (mz_z m) 66 3 ((((mz_z m) 66 3) * 1103515245) + 12345)) 66 3 t2)) rfl ?_
          refine mz_ifF h8 ?_
          refine mz_go 2 (c' := (19, [some (.int ((y + (t3 - t3 / ((2 * d) + 1) * ((2 * d) + 1))) - d)), some (.int (-100)), some (.int 100)], [.int 100], mz_up (mz_up (mz_z m) 66 3 ((((mz_z m) 66 3) * 1103515245) + 12345)) 66 3 t2)) rfl ?_
          exact mz_ret rfl
        refine mz_go 1 (c' := (137, [some (.ref 65), some (.int x), some (.int y), some (.int d), some (.int n), some (.int 0), some (.int k), some (.int ((x + (t1 - t1 / ((2 * d) + 1) * ((2 * d) + 1))) - d)), some (.int ((y + (t3 - t3 / ((2 * d) + 1) * ((2 * d) + 1))) - d)), l9], [.ref 65, .int 100, .int (-100), .ref 65], mz_up (mz_up (mz_z m) 66 3 ((((mz_z m) 66 3) * 1103515245) + 12345)) 66 3 t2)) rfl ?_
        refine mz_do (R := mz_r156) (as := [.ref 65]) (rest := [.int 100, .int (-100), .ref 65]) (r1 := some (.int 1)) (m1 := mz_up (mz_up (mz_z m) 66 3 ((((mz_z m) 66 3) * 1103515245) + 12345)) 66 3 t2) rfl ⟨?_, rfl⟩ ?_
        · refine mz_go 4 (c' := (7, [some (.ref 65)], [.int 1], mz_up (mz_up (mz_z m) 66 3 ((((mz_z m) 66 3) * 1103515245) + 12345)) 66 3 t2)) rfl ?_
          exact mz_ret rfl
        refine mz_do (R := mz_r155) (as := [.ref 65, .int (-100), .int 100, .int 1]) (rest := []) (r1 := some (.int 9)) (m1 := mz_up (mz_z mm1) 65 8 60) rfl ⟨?_, rfl⟩ ?_
        · refine mz_go 5 (c' := (5, [some (.ref 65), some (.int (-100)), some (.int 100), some (.int 1)], [.int 0, .int 0, .int 100, .int (-100), .ref 65], mz_up (mz_up (mz_z m) 66 3 ((((mz_z m) 66 3) * 1103515245) + 12345)) 66 3 t2)) rfl ?_
          refine mz_do (R := mz_r144) (as := [.ref 65, .int (-100), .int 100, .int 0, .int 0]) (rest := []) (r1 := none) (m1 := mz_up (mz_up (mz_up (mz_up (mz_up (mz_up (mz_up (mz_z m) 66 3 ((((mz_z m) 66 3) * 1103515245) + 12345)) 66 3 t2) 65 4 (-1600)) 65 5 1600) 65 6 0) 65 7 0) 65 8 0) rfl ⟨?_, rfl⟩ ?_
          · refine mz_go 19 (c' := (32, [some (.ref 65), some (.int (-100)), some (.int 100), some (.int 0), some (.int 0)], [], mz_up (mz_up (mz_up (mz_up (mz_up (mz_up (mz_up (mz_z m) 66 3 ((((mz_z m) 66 3) * 1103515245) + 12345)) 66 3 t2) 65 4 (-1600)) 65 5 1600) 65 6 0) 65 7 0) 65 8 0)) rfl ?_
            exact mz_ret rfl
          refine mz_go 2 (c' := (10, [some (.ref 65), some (.int (-100)), some (.int 100), some (.int 1)], [.int 1, .ref 65], mz_up (mz_up (mz_up (mz_up (mz_up (mz_up (mz_up (mz_z m) 66 3 ((((mz_z m) 66 3) * 1103515245) + 12345)) 66 3 t2) 65 4 (-1600)) 65 5 1600) 65 6 0) 65 7 0) 65 8 0)) rfl ?_
          refine mz_do (R := mz_r154) (as := [.ref 65, .int 1]) (rest := []) (r1 := some (.int 9)) (m1 := mz_up (mz_z mm1) 65 8 60) rfl (mz_Me.deep ms1 (by decide)) ?_
          exact mz_ret rfl
        refine mz_go 21 (c' := (78, [some (.ref 65), some (.int x), some (.int y), some (.int d), some (.int n), some (.int 0), some (.int (k + 1)), some (.int ((x + (t1 - t1 / ((2 * d) + 1) * ((2 * d) + 1))) - d)), some (.int ((y + (t3 - t3 / ((2 * d) + 1) * ((2 * d) + 1))) - d)), some (.int 9)], [], mz_up (mz_up (mz_z mm1) 65 8 60) 66 159 (((mz_z mm1) 66 159) + 1))) rfl ?_
        exact hr
    · obtain ⟨mm1, me1, mg1, ms1⟩ := rz_runs_1 (mz_up (mz_up (mz_up (mz_up (mz_up (mz_up (mz_up (mz_z m) 66 3 ((((mz_z m) 66 3) * 1103515245) + 12345)) 66 3 t2) 65 4 (-1600)) 65 5 (-1600)) 65 6 0) 65 7 0) 65 8 0) rfl rfl
      have mw1 : Zf mm1 := zf_row (show Zf (mz_up (mz_up (mz_up (mz_up (mz_up (mz_up (mz_up (mz_z m) 66 3 ((((mz_z m) 66 3) * 1103515245) + 12345)) 66 3 t2) 65 4 (-1600)) 65 5 (-1600)) 65 6 0) 65 7 0) 65 8 0) from rfl) rfl me1
      have ms1 : mz_Me 60 mz_r154 [.ref 65, .int 1] (mz_up (mz_up (mz_up (mz_up (mz_up (mz_up (mz_up (mz_z m) 66 3 ((((mz_z m) 66 3) * 1103515245) + 12345)) 66 3 t2) 65 4 (-1600)) 65 5 (-1600)) 65 6 0) 65 7 0) 65 8 0) (some (.int 9)) (mz_up (mz_z mm1) 65 8 60) := by rw [zf_eq mw1, mz_up_id mg1]; exact ms1
      refine ⟨mz_up (mz_up (mz_z mm1) 65 8 60) 66 159 (((mz_z mm1) 66 159) + 1), (x + (t1 - t1 / ((2 * d) + 1) * ((2 * d) + 1))) - d, (y + (t3 - t3 / ((2 * d) + 1) * ((2 * d) + 1))) - d, 9, rfl, trivial, fun r hr => ?_⟩
      refine mz_go 3 (c' := (if n ≤ k then 183 else 85, [some (.ref 65), some (.int x), some (.int y), some (.int d), some (.int n), some (.int 0), some (.int k), l7, l8, l9], [], (mz_z m))) rfl ?_
      refine mz_ifF hk ?_
      refine mz_go 2 (c' := (87, [some (.ref 65), some (.int x), some (.int y), some (.int d), some (.int n), some (.int 0), some (.int k), l7, l8, l9], [.ref 65, .int x], (mz_z m))) rfl ?_
      refine mz_do (R := mz_r205) (as := [.ref 65]) (rest := [.int x]) (r1 := some (.int t1)) (m1 := mz_up (mz_z m) 66 3 ((((mz_z m) 66 3) * 1103515245) + 12345)) rfl ⟨?_, rfl⟩ ?_
      · refine mz_go 18 (c' := (28, [some (.ref 65)], [.int t1], mz_up (mz_z m) 66 3 ((((mz_z m) 66 3) * 1103515245) + 12345))) rfl ?_
        exact mz_ret rfl
      refine mz_go 5 (c' := (95, [some (.ref 65), some (.int x), some (.int y), some (.int d), some (.int n), some (.int 0), some (.int k), l7, l8, l9], [.int ((2 * d) + 1), .int t1, .int x], mz_up (mz_z m) 66 3 ((((mz_z m) 66 3) * 1103515245) + 12345))) rfl ?_
      refine mz_div (c' := (96, [some (.ref 65), some (.int x), some (.int y), some (.int d), some (.int n), some (.int 0), some (.int k), l7, l8, l9], [.int (t1 - t1 / ((2 * d) + 1) * ((2 * d) + 1)), .int x], mz_up (mz_z m) 66 3 ((((mz_z m) 66 3) * 1103515245) + 12345))) rfl hd ?_
      refine mz_go 6 (c' := (103, [some (.ref 65), some (.int x), some (.int y), some (.int d), some (.int n), some (.int 0), some (.int k), some (.int ((x + (t1 - t1 / ((2 * d) + 1) * ((2 * d) + 1))) - d)), l8, l9], [.ref 65, .int y], mz_up (mz_z m) 66 3 ((((mz_z m) 66 3) * 1103515245) + 12345))) rfl ?_
      refine mz_do (R := mz_r205) (as := [.ref 65]) (rest := [.int y]) (r1 := some (.int t3)) (m1 := mz_up (mz_up (mz_z m) 66 3 ((((mz_z m) 66 3) * 1103515245) + 12345)) 66 3 t2) rfl ⟨?_, rfl⟩ ?_
      · refine mz_go 18 (c' := (28, [some (.ref 65)], [.int t3], mz_up (mz_up (mz_z m) 66 3 ((((mz_z m) 66 3) * 1103515245) + 12345)) 66 3 t2)) rfl ?_
        exact mz_ret rfl
      refine mz_go 5 (c' := (111, [some (.ref 65), some (.int x), some (.int y), some (.int d), some (.int n), some (.int 0), some (.int k), some (.int ((x + (t1 - t1 / ((2 * d) + 1) * ((2 * d) + 1))) - d)), l8, l9], [.int ((2 * d) + 1), .int t3, .int y], mz_up (mz_up (mz_z m) 66 3 ((((mz_z m) 66 3) * 1103515245) + 12345)) 66 3 t2)) rfl ?_
      refine mz_div (c' := (112, [some (.ref 65), some (.int x), some (.int y), some (.int d), some (.int n), some (.int 0), some (.int k), some (.int ((x + (t1 - t1 / ((2 * d) + 1) * ((2 * d) + 1))) - d)), l8, l9], [.int (t3 - t3 / ((2 * d) + 1) * ((2 * d) + 1)), .int y], mz_up (mz_up (mz_z m) 66 3 ((((mz_z m) 66 3) * 1103515245) + 12345)) 66 3 t2)) rfl hd ?_
      refine mz_go 8 (c' := (124, [some (.ref 65), some (.int x), some (.int y), some (.int d), some (.int n), some (.int 0), some (.int k), some (.int ((x + (t1 - t1 / ((2 * d) + 1) * ((2 * d) + 1))) - d)), some (.int ((y + (t3 - t3 / ((2 * d) + 1) * ((2 * d) + 1))) - d)), l9], [.int 100, .int (-100), .int ((x + (t1 - t1 / ((2 * d) + 1) * ((2 * d) + 1))) - d), .ref 65], mz_up (mz_up (mz_z m) 66 3 ((((mz_z m) 66 3) * 1103515245) + 12345)) 66 3 t2)) rfl ?_
      refine mz_do (R := mz_r130) (as := [.int ((x + (t1 - t1 / ((2 * d) + 1) * ((2 * d) + 1))) - d), .int (-100), .int 100]) (rest := [.ref 65]) (r1 := some (.int (-100))) (m1 := mz_up (mz_up (mz_z m) 66 3 ((((mz_z m) 66 3) * 1103515245) + 12345)) 66 3 t2) rfl ⟨?_, rfl⟩ ?_
      · refine mz_go 3 (c' := (if (-100) ≤ ((x + (t1 - t1 / ((2 * d) + 1) * ((2 * d) + 1))) - d) then 9 else 5, [some (.int ((x + (t1 - t1 / ((2 * d) + 1) * ((2 * d) + 1))) - d)), some (.int (-100)), some (.int 100)], [], mz_up (mz_up (mz_z m) 66 3 ((((mz_z m) 66 3) * 1103515245) + 12345)) 66 3 t2)) rfl ?_
        refine mz_ifF h1 ?_
        refine mz_go 2 (c' := (19, [some (.int ((x + (t1 - t1 / ((2 * d) + 1) * ((2 * d) + 1))) - d)), some (.int (-100)), some (.int 100)], [.int (-100)], mz_up (mz_up (mz_z m) 66 3 ((((mz_z m) 66 3) * 1103515245) + 12345)) 66 3 t2)) rfl ?_
        exact mz_ret rfl
      refine mz_go 3 (c' := (133, [some (.ref 65), some (.int x), some (.int y), some (.int d), some (.int n), some (.int 0), some (.int k), some (.int ((x + (t1 - t1 / ((2 * d) + 1) * ((2 * d) + 1))) - d)), some (.int ((y + (t3 - t3 / ((2 * d) + 1) * ((2 * d) + 1))) - d)), l9], [.int 100, .int (-100), .int ((y + (t3 - t3 / ((2 * d) + 1) * ((2 * d) + 1))) - d), .int (-100), .ref 65], mz_up (mz_up (mz_z m) 66 3 ((((mz_z m) 66 3) * 1103515245) + 12345)) 66 3 t2)) rfl ?_
      refine mz_do (R := mz_r130) (as := [.int ((y + (t3 - t3 / ((2 * d) + 1) * ((2 * d) + 1))) - d), .int (-100), .int 100]) (rest := [.int (-100), .ref 65]) (r1 := some (.int (-100))) (m1 := mz_up (mz_up (mz_z m) 66 3 ((((mz_z m) 66 3) * 1103515245) + 12345)) 66 3 t2) rfl ⟨?_, rfl⟩ ?_
      · refine mz_go 3 (c' := (if (-100) ≤ ((y + (t3 - t3 / ((2 * d) + 1) * ((2 * d) + 1))) - d) then 9 else 5, [some (.int ((y + (t3 - t3 / ((2 * d) + 1) * ((2 * d) + 1))) - d)), some (.int (-100)), some (.int 100)], [], mz_up (mz_up (mz_z m) 66 3 ((((mz_z m) 66 3) * 1103515245) + 12345)) 66 3 t2)) rfl ?_
        refine mz_ifF h7 ?_
        refine mz_go 2 (c' := (19, [some (.int ((y + (t3 - t3 / ((2 * d) + 1) * ((2 * d) + 1))) - d)), some (.int (-100)), some (.int 100)], [.int (-100)], mz_up (mz_up (mz_z m) 66 3 ((((mz_z m) 66 3) * 1103515245) + 12345)) 66 3 t2)) rfl ?_
        exact mz_ret rfl
      refine mz_go 1 (c' := (137, [some (.ref 65), some (.int x), some (.int y), some (.int d), some (.int n), some (.int 0), some (.int k), some (.int ((x + (t1 - t1 / ((2 * d) + 1) * ((2 * d) + 1))) - d)), some (.int ((y + (t3 - t3 / ((2 * d) + 1) * ((2 * d) + 1))) - d)), l9], [.ref 65, .int (-100), .int (-100), .ref 65], mz_up (mz_up (mz_z m) 66 3 ((((mz_z m) 66 3) * 1103515245) + 12345)) 66 3 t2)) rfl ?_
      refine mz_do (R := mz_r156) (as := [.ref 65]) (rest := [.int (-100), .int (-100), .ref 65]) (r1 := some (.int 1)) (m1 := mz_up (mz_up (mz_z m) 66 3 ((((mz_z m) 66 3) * 1103515245) + 12345)) 66 3 t2) rfl ⟨?_, rfl⟩ ?_
      · refine mz_go 4 (c' := (7, [some (.ref 65)], [.int 1], mz_up (mz_up (mz_z m) 66 3 ((((mz_z m) 66 3) * 1103515245) + 12345)) 66 3 t2)) rfl ?_
        exact mz_ret rfl
      refine mz_do (R := mz_r155) (as := [.ref 65, .int (-100), .int (-100), .int 1]) (rest := []) (r1 := some (.int 9)) (m1 := mz_up (mz_z mm1) 65 8 60) rfl ⟨?_, rfl⟩ ?_
      · refine mz_go 5 (c' := (5, [some (.ref 65), some (.int (-100)), some (.int (-100)), some (.int 1)], [.int 0, .int 0, .int (-100), .int (-100), .ref 65], mz_up (mz_up (mz_z m) 66 3 ((((mz_z m) 66 3) * 1103515245) + 12345)) 66 3 t2)) rfl ?_
        refine mz_do (R := mz_r144) (as := [.ref 65, .int (-100), .int (-100), .int 0, .int 0]) (rest := []) (r1 := none) (m1 := mz_up (mz_up (mz_up (mz_up (mz_up (mz_up (mz_up (mz_z m) 66 3 ((((mz_z m) 66 3) * 1103515245) + 12345)) 66 3 t2) 65 4 (-1600)) 65 5 (-1600)) 65 6 0) 65 7 0) 65 8 0) rfl ⟨?_, rfl⟩ ?_
        · refine mz_go 19 (c' := (32, [some (.ref 65), some (.int (-100)), some (.int (-100)), some (.int 0), some (.int 0)], [], mz_up (mz_up (mz_up (mz_up (mz_up (mz_up (mz_up (mz_z m) 66 3 ((((mz_z m) 66 3) * 1103515245) + 12345)) 66 3 t2) 65 4 (-1600)) 65 5 (-1600)) 65 6 0) 65 7 0) 65 8 0)) rfl ?_
          exact mz_ret rfl
        refine mz_go 2 (c' := (10, [some (.ref 65), some (.int (-100)), some (.int (-100)), some (.int 1)], [.int 1, .ref 65], mz_up (mz_up (mz_up (mz_up (mz_up (mz_up (mz_up (mz_z m) 66 3 ((((mz_z m) 66 3) * 1103515245) + 12345)) 66 3 t2) 65 4 (-1600)) 65 5 (-1600)) 65 6 0) 65 7 0) 65 8 0)) rfl ?_
        refine mz_do (R := mz_r154) (as := [.ref 65, .int 1]) (rest := []) (r1 := some (.int 9)) (m1 := mz_up (mz_z mm1) 65 8 60) rfl (mz_Me.deep ms1 (by decide)) ?_
        exact mz_ret rfl
      refine mz_go 21 (c' := (78, [some (.ref 65), some (.int x), some (.int y), some (.int d), some (.int n), some (.int 0), some (.int (k + 1)), some (.int ((x + (t1 - t1 / ((2 * d) + 1) * ((2 * d) + 1))) - d)), some (.int ((y + (t3 - t3 / ((2 * d) + 1) * ((2 * d) + 1))) - d)), some (.int 9)], [], mz_up (mz_up (mz_z mm1) 65 8 60) 66 159 (((mz_z mm1) 66 159) + 1))) rfl ?_
      exact hr
theorem rz_dz {d : Int32} (h0 : ¬ d < 0) (h1 : ¬ 50 < d) : ¬ 2 * d + 1 = 0 := by
  obtain ⟨D, hD, rfl⟩ := nI_of h0
  have h2 : D < 51 := by
    rcases Nat.lt_or_ge D 51 with h | h
    · exact h
    · exact absurd (show (50 : Int32) < nI D from nI_lt (show 50 < D by omega) hD) h1
  have h3 : ∀ D, D < 51 → ¬ 2 * nI D + 1 = 0 := by decide
  exact h3 D h2
set_option maxHeartbeats 4000000 in
set_option maxRecDepth 100000 in
theorem cz_throws (x y d : Int32) (N : Nat) (hN : N < 2 ^ 31) : ∀ j k : Nat, k + j = N → ∀ (l7 l8 l9 : Option Value) (m : mz_M), Zf m → m 23 9 = nI k → ∃ m', Zf m' ∧ mz_Ex 70 mz_k94 (60, [some (.ref 0), some (.int x), some (.int y), some (.int d), some (.int (nI N)), some (.ref 23), some (.int (nI k)), l7, l8, l9], [], m) (some (.int 0), m') := by
  intro j
  induction j with
  | zero =>
    intro k hk l7 l8 l9 m hz h4
    have hk2 : k = N := by omega
    subst hk2
    refine ⟨m, hz, ?_⟩
    refine mz_go 3 (c' := (if nI k ≤ nI k then 149 else 67, [some (.ref 0), some (.int x), some (.int y), some (.int d), some (.int (nI k)), some (.ref 23), some (.int (nI k)), l7, l8, l9], [], m)) rfl ?_
    refine mz_ifT (Int32.le_refl _) ?_
    refine mz_go 4 (c' := (156, [some (.ref 0), some (.int x), some (.int y), some (.int d), some (.int (nI k)), some (.ref 23), some (.int (nI k)), l7, l8, l9], [.int (m 23 9), .int (nI k)], m)) rfl ?_
    rw [h4]
    refine mz_go 1 (c' := (157, [some (.ref 0), some (.int x), some (.int y), some (.int d), some (.int (nI k)), some (.ref 23), some (.int (nI k)), l7, l8, l9], [.int (nI k - nI k)], m)) rfl ?_
    rw [Int32.sub_self]
    exact mz_ret rfl
  | succ j ih =>
    intro k hk l7 l8 l9 m hz h4
    obtain ⟨m1, a7, a8, a9, z1, g1, f1⟩ := cz_throw x y d (nI N) (nI k) (nI_ge (show k < N by omega) hN) l7 l8 l9 m
    rw [zf_eq hz] at g1 f1
    obtain ⟨m2, z2, s2⟩ := ih (k + 1) (by omega) (some (.int a7)) (some (.int a8)) (some (.int a9)) m1 z1 (by rw [g1, h4, nI_succ])
    rw [nI_succ] at s2
    exact ⟨m2, z2, f1 _ s2⟩
theorem cz_thrown (x y d n : Int32) (hn : ¬ n < 1) (m : mz_M) (hz : Zf m) (h0 : m 23 9 = 0) : ∃ m', Zf m' ∧ mz_Ex 70 mz_k94 (60, [some (.ref 0), some (.int x), some (.int y), some (.int d), some (.int n), some (.ref 23), some (.int 0), none, none, none], [], m) (some (.int 0), m') := by
  obtain ⟨N, hN, rfl⟩ := nI_of (fun h => hn (Int32.lt_trans h (by decide)))
  exact cz_throws x y d N hN N 0 (by omega) none none none m hz h0
set_option maxHeartbeats 4000000 in
set_option maxRecDepth 100000 in
theorem rz_throws (x y d : Int32) (hd : ¬ 2 * d + 1 = 0) (N : Nat) (hN : N < 2 ^ 31) : ∀ j k : Nat, k + j = N → ∀ (l7 l8 l9 : Option Value) (m : mz_M), Zf m → ∃ m', mz_Ex 70 mz_k206 (78, [some (.ref 65), some (.int x), some (.int y), some (.int d), some (.int (nI N)), some (.int 0), some (.int (nI k)), l7, l8, l9], [], m) (some (.int 0), m') := by
  intro j
  induction j with
  | zero =>
    intro k hk l7 l8 l9 m hz
    have hk2 : k = N := by omega
    subst hk2
    refine ⟨m, ?_⟩
    refine mz_go 3 (c' := (if nI k ≤ nI k then 183 else 85, [some (.ref 65), some (.int x), some (.int y), some (.int d), some (.int (nI k)), some (.int 0), some (.int (nI k)), l7, l8, l9], [], m)) rfl ?_
    refine mz_ifT (Int32.le_refl _) ?_
    refine mz_go 1 (c' := (185, [some (.ref 65), some (.int x), some (.int y), some (.int d), some (.int (nI k)), some (.int 0), some (.int (nI k)), l7, l8, l9], [.int 0], m)) rfl ?_
    exact mz_ret rfl
  | succ j ih =>
    intro k hk l7 l8 l9 m hz
    obtain ⟨m1, a7, a8, a9, z1, -, f1⟩ := rz_throw x y d (nI N) (nI k) hd (nI_ge (show k < N by omega) hN) l7 l8 l9 m
    rw [zf_eq hz] at f1
    obtain ⟨m2, s2⟩ := ih (k + 1) (by omega) (some (.int a7)) (some (.int a8)) (some (.int a9)) m1 z1
    rw [nI_succ] at s2
    exact ⟨m2, f1 _ s2⟩
theorem rz_thrown (x y d n : Int32) (hd : ¬ 2 * d + 1 = 0) (hn : ¬ n < 1) (m : mz_M) (hz : Zf m) : ∃ m', mz_Ex 70 mz_k206 (78, [some (.ref 65), some (.int x), some (.int y), some (.int d), some (.int n), some (.int 0), some (.int 0), none, none, none], [], m) (some (.int 0), m') := by
  obtain ⟨N, hN, rfl⟩ := nI_of (fun h => hn (Int32.lt_trans h (by decide)))
  exact rz_throws x y d hd N hN N 0 (by omega) none none none m hz
