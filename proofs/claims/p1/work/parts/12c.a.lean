/-! any memory where nothing lies on the plate and no text is told -/
def zf : List (Nat × Nat × Int32) := [(2, 4, 0), (10, 2, 0), (13, 2, 0), (66, 24, 0), (7, 0, 5), (7, 1, 10), (7, 2, 60), (7, 3, 8), (7, 4, 4), (7, 5, 1), (66, 0, 0), (66, 170, 0), (66, 295, 0), (66, 10, 5), (66, 11, 10), (66, 12, 60), (66, 13, 8), (66, 14, 4), (66, 15, 1)]
def zf_at (i k : Nat) : List (Nat × Nat × Int32) → Option Int32
  | [] => none
  | q :: r => cond (q.1 == i && q.2.1 == k) (some q.2.2) (zf_at i k r)
def mz_z (m : mz_M) : mz_M := fun i k => match zf_at i k zf with
  | some v => v
  | none => m i k
def Zf (m : mz_M) : Prop := zf.map (fun q => m q.1 q.2.1) = zf.map (fun q => q.2.2)
theorem zf_in {i k : Nat} {v : Int32} {l : List (Nat × Nat × Int32)} (h : zf_at i k l = some v) : (i, k, v) ∈ l := by
  induction l with
  | nil => cases h
  | cons q r ih =>
    unfold zf_at at h
    cases hb : (q.1 == i && q.2.1 == k) with
    | true =>
      rw [hb] at h
      rw [Bool.and_eq_true] at hb
      have h1 : q.1 = i := by simpa using hb.1
      have h2 : q.2.1 = k := by simpa using hb.2
      have h3 : q.2.2 = v := Option.some.inj h
      have h4 : q = (i, k, v) := by rw [← h1, ← h2, ← h3]
      rw [h4]
      exact List.mem_cons_self
    | false =>
      rw [hb] at h
      exact List.mem_cons_of_mem _ (ih h)
theorem zf_of {m : mz_M} (h : Zf m) : ∀ q ∈ zf, m q.1 q.2.1 = q.2.2 := fun q hq => List.map_inj_left.mp h q hq
theorem zf_mk {m : mz_M} (h : ∀ q ∈ zf, m q.1 q.2.1 = q.2.2) : Zf m := List.map_inj_left.mpr h
theorem zf_eq {m : mz_M} (h : Zf m) : mz_z m = m := by
  funext i k
  unfold mz_z
  split
  · rename_i v hv
    exact (zf_of h _ (zf_in hv)).symm
  · rfl
theorem zf_z (m : mz_M) : Zf (mz_z m) := rfl
theorem zf_row {m m' : mz_M} {b : Nat} (hz : Zf m) (hb : zf.all (fun q => q.1 != b) = true) (h : ∀ i, i ≠ b → m' i = m i) : Zf m' := zf_mk fun q hq => by
  have h1 : q.1 ≠ b := by simpa using List.all_eq_true.mp hb q hq
  rw [h q.1 h1]
  exact zf_of hz q hq
theorem mz_up_id {m : mz_M} {i k : Nat} {v : Int32} (h : m i k = v) : mz_up m i k v = m := by
  funext a b
  unfold mz_up
  cases hb : (a == i && b == k) with
  | true =>
    rw [Bool.and_eq_true] at hb
    have h1 : a = i := by simpa using hb.1
    have h2 : b = k := by simpa using hb.2
    subst h1
    subst h2
    exact h.symm
  | false => rfl
set_option maxHeartbeats 4000000 in
set_option maxRecDepth 100000 in
theorem cz_step_19_1 (m : mz_M) : ∃ m', (∀ i, i ≠ 19 → m' i = mz_z m i) ∧ m' 19 4 = mz_z m 19 4 + 1 ∧ mz_Me 50 mz_r38 [.ref 49, .ref 19, .int 1] (mz_z m) none m' := by
  let t1 : Int32 := ((mz_z m) 19 2) - (((((mz_z m) 19 0) * 5) / 1600) / 1)
  let t2 : Int32 := ((mz_z m) 19 3) - (((((mz_z m) 19 1) * 5) / 1600) / 1)
  let t3 : Int32 := ((mz_z m) 19 0) + ((t1 - (((t1 * 10) / 100) / 1)) / 1)
  let t4 : Int32 := ((mz_z m) 19 1) + ((t2 - (((t2 * 10) / 100) / 1)) / 1)
  let t5 : Int32 := if (-1600) < (if t3 < 1600 then t3 else 1600) then (if t3 < 1600 then t3 else 1600) else (-1600)
  let t6 : Int32 := if (-1600) < (if t4 < 1600 then t4 else 1600) then (if t4 < 1600 then t4 else 1600) else (-1600)
  by_cases h1 : t5 = t3
  · by_cases h2 : t6 = t4
    · refine ⟨mz_up (mz_up (mz_up (mz_up (mz_up (mz_up (mz_up (mz_z m) 19 2 t1) 19 3 t2) 19 2 (t1 - (((t1 * 10) / 100) / 1))) 19 3 (t2 - (((t2 * 10) / 100) / 1))) 19 0 t5) 19 1 t6) 19 4 (((mz_z m) 19 4) + 1), fun i hi => by simp only [mz_up_ne hi], rfl, ⟨?_, rfl⟩⟩
      · refine mz_go 12 (c' := (22, [some (.ref 49), some (.ref 19), some (.int 1), some (.int 1), some (.ref 2), some (.int 0), none, none, none, none], [.int 0, .ref 2], (mz_z m))) rfl ?_
        refine mz_do (R := mz_r21) (as := [.ref 2, .int 0]) (rest := []) (r1 := some (.int 0)) (m1 := (mz_z m)) rfl ⟨?_, rfl⟩ ?_
        · refine mz_go 7 (c' := (23, [some (.ref 2), some (.int 0)], [.int 0], (mz_z m))) rfl ?_
          exact mz_ret rfl
        refine mz_go 24 (c' := (217, [some (.ref 49), some (.ref 19), some (.int 1), some (.int 1), some (.ref 2), some (.int 5), none, none, none, none], [.ref 19, .int ((mz_z m) 19 3), .ref 19], mz_up (mz_z m) 19 2 t1)) rfl ?_
        refine mz_go 11 (c' := (235, [some (.ref 49), some (.ref 19), some (.int 1), some (.int 1), some (.ref 2), some (.int 5), none, none, none, none], [.ref 19, .ref 49], mz_up (mz_up (mz_z m) 19 2 t1) 19 3 t2)) rfl ?_
        refine mz_do (R := mz_r43) (as := [.ref 49, .ref 19]) (rest := []) (r1 := some (.int 10)) (m1 := mz_up (mz_up (mz_z m) 19 2 t1) 19 3 t2) rfl ⟨?_, rfl⟩ ?_
        · refine mz_go 10 (c' := (22, [some (.ref 49), some (.ref 19), none], [.int 10], mz_up (mz_up (mz_z m) 19 2 t1) 19 3 t2)) rfl ?_
          exact mz_ret rfl
        refine mz_go 24 (c' := (277, [some (.ref 49), some (.ref 19), some (.int 1), some (.int 1), some (.ref 2), some (.int 5), some (.int 10), none, none, none], [.int 1, .int ((t2 * 10) / 100), .int t2, .ref 19], mz_up (mz_up (mz_up (mz_z m) 19 2 t1) 19 3 t2) 19 2 (t1 - (((t1 * 10) / 100) / 1)))) rfl ?_
        refine mz_go 5 (c' := (284, [some (.ref 49), some (.ref 19), some (.int 1), some (.int 1), some (.ref 2), some (.int 5), some (.int 10), none, none, none], [.int 1, .ref 19], mz_up (mz_up (mz_up (mz_up (mz_z m) 19 2 t1) 19 3 t2) 19 2 (t1 - (((t1 * 10) / 100) / 1))) 19 3 (t2 - (((t2 * 10) / 100) / 1)))) rfl ?_
        refine mz_do (R := mz_r39) (as := [.ref 19, .int 1]) (rest := []) (r1 := none) (m1 := mz_up (mz_up (mz_up (mz_up (mz_up (mz_up (mz_z m) 19 2 t1) 19 3 t2) 19 2 (t1 - (((t1 * 10) / 100) / 1))) 19 3 (t2 - (((t2 * 10) / 100) / 1))) 19 0 t5) 19 1 t6) rfl ⟨?_, rfl⟩ ?_
        · refine mz_go 5 (c' := (9, [some (.ref 19), some (.int 1), none, none], [.int 1, .int (t1 - (((t1 * 10) / 100) / 1)), .int ((mz_z m) 19 0)], mz_up (mz_up (mz_up (mz_up (mz_z m) 19 2 t1) 19 3 t2) 19 2 (t1 - (((t1 * 10) / 100) / 1))) 19 3 (t2 - (((t2 * 10) / 100) / 1)))) rfl ?_
          refine mz_do (R := mz_r123) (as := [.int (t1 - (((t1 * 10) / 100) / 1)), .int 1]) (rest := [.int ((mz_z m) 19 0)]) (r1 := some (.int ((t1 - (((t1 * 10) / 100) / 1)) / 1))) (m1 := mz_up (mz_up (mz_up (mz_up (mz_z m) 19 2 t1) 19 3 t2) 19 2 (t1 - (((t1 * 10) / 100) / 1))) 19 3 (t2 - (((t2 * 10) / 100) / 1))) rfl ⟨?_, rfl⟩ ?_
          · refine mz_go 5 (c' := (11, [some (.int (t1 - (((t1 * 10) / 100) / 1))), some (.int 1)], [.int ((t1 - (((t1 * 10) / 100) / 1)) / 1)], mz_up (mz_up (mz_up (mz_up (mz_z m) 19 2 t1) 19 3 t2) 19 2 (t1 - (((t1 * 10) / 100) / 1))) 19 3 (t2 - (((t2 * 10) / 100) / 1)))) rfl ?_
            exact mz_ret rfl
          refine mz_go 7 (c' := (23, [some (.ref 19), some (.int 1), some (.int t3), none], [.int 1, .int (t2 - (((t2 * 10) / 100) / 1)), .int ((mz_z m) 19 1)], mz_up (mz_up (mz_up (mz_up (mz_z m) 19 2 t1) 19 3 t2) 19 2 (t1 - (((t1 * 10) / 100) / 1))) 19 3 (t2 - (((t2 * 10) / 100) / 1)))) rfl ?_
          refine mz_do (R := mz_r123) (as := [.int (t2 - (((t2 * 10) / 100) / 1)), .int 1]) (rest := [.int ((mz_z m) 19 1)]) (r1 := some (.int ((t2 - (((t2 * 10) / 100) / 1)) / 1))) (m1 := mz_up (mz_up (mz_up (mz_up (mz_z m) 19 2 t1) 19 3 t2) 19 2 (t1 - (((t1 * 10) / 100) / 1))) 19 3 (t2 - (((t2 * 10) / 100) / 1))) rfl ⟨?_, rfl⟩ ?_
          · refine mz_go 5 (c' := (11, [some (.int (t2 - (((t2 * 10) / 100) / 1))), some (.int 1)], [.int ((t2 - (((t2 * 10) / 100) / 1)) / 1)], mz_up (mz_up (mz_up (mz_up (mz_z m) 19 2 t1) 19 3 t2) 19 2 (t1 - (((t1 * 10) / 100) / 1))) 19 3 (t2 - (((t2 * 10) / 100) / 1)))) rfl ?_
            exact mz_ret rfl
          refine mz_go 6 (c' := (36, [some (.ref 19), some (.int 1), some (.int t3), some (.int t4)], [.int 1600, .int (-1600), .int t3, .ref 19], mz_up (mz_up (mz_up (mz_up (mz_z m) 19 2 t1) 19 3 t2) 19 2 (t1 - (((t1 * 10) / 100) / 1))) 19 3 (t2 - (((t2 * 10) / 100) / 1)))) rfl ?_
          refine mz_do (R := mz_r122) (as := [.int t3, .int (-1600), .int 1600]) (rest := [.ref 19]) (r1 := some (.int t5)) (m1 := mz_up (mz_up (mz_up (mz_up (mz_z m) 19 2 t1) 19 3 t2) 19 2 (t1 - (((t1 * 10) / 100) / 1))) 19 3 (t2 - (((t2 * 10) / 100) / 1))) rfl ⟨?_, rfl⟩ ?_
          · refine mz_go 5 (c' := (9, [some (.int t3), some (.int (-1600)), some (.int 1600)], [.int t5], mz_up (mz_up (mz_up (mz_up (mz_z m) 19 2 t1) 19 3 t2) 19 2 (t1 - (((t1 * 10) / 100) / 1))) 19 3 (t2 - (((t2 * 10) / 100) / 1)))) rfl ?_
            exact mz_ret rfl
          refine mz_go 5 (c' := (50, [some (.ref 19), some (.int 1), some (.int t3), some (.int t4)], [.int 1600, .int (-1600), .int t4, .ref 19], mz_up (mz_up (mz_up (mz_up (mz_up (mz_z m) 19 2 t1) 19 3 t2) 19 2 (t1 - (((t1 * 10) / 100) / 1))) 19 3 (t2 - (((t2 * 10) / 100) / 1))) 19 0 t5)) rfl ?_
          refine mz_do (R := mz_r122) (as := [.int t4, .int (-1600), .int 1600]) (rest := [.ref 19]) (r1 := some (.int t6)) (m1 := mz_up (mz_up (mz_up (mz_up (mz_up (mz_z m) 19 2 t1) 19 3 t2) 19 2 (t1 - (((t1 * 10) / 100) / 1))) 19 3 (t2 - (((t2 * 10) / 100) / 1))) 19 0 t5) rfl ⟨?_, rfl⟩ ?_
          · refine mz_go 5 (c' := (9, [some (.int t4), some (.int (-1600)), some (.int 1600)], [.int t6], mz_up (mz_up (mz_up (mz_up (mz_up (mz_z m) 19 2 t1) 19 3 t2) 19 2 (t1 - (((t1 * 10) / 100) / 1))) 19 3 (t2 - (((t2 * 10) / 100) / 1))) 19 0 t5)) rfl ?_
            exact mz_ret rfl
          refine mz_go 5 (c' := (if t5 = t3 then 69 else 64, [some (.ref 19), some (.int 1), some (.int t3), some (.int t4)], [], mz_up (mz_up (mz_up (mz_up (mz_up (mz_up (mz_z m) 19 2 t1) 19 3 t2) 19 2 (t1 - (((t1 * 10) / 100) / 1))) 19 3 (t2 - (((t2 * 10) / 100) / 1))) 19 0 t5) 19 1 t6)) rfl ?_
          refine mz_ifT h1 ?_
          refine mz_go 4 (c' := (if t6 = t4 then 82 else 77, [some (.ref 19), some (.int 1), some (.int t3), some (.int t4)], [], mz_up (mz_up (mz_up (mz_up (mz_up (mz_up (mz_z m) 19 2 t1) 19 3 t2) 19 2 (t1 - (((t1 * 10) / 100) / 1))) 19 3 (t2 - (((t2 * 10) / 100) / 1))) 19 0 t5) 19 1 t6)) rfl ?_
          refine mz_ifT h2 ?_
          exact mz_ret rfl
        refine mz_go 6 (c' := (297, [some (.ref 49), some (.ref 19), some (.int 1), some (.int 1), some (.ref 2), some (.int 5), some (.int 10), none, none, none], [], mz_up (mz_up (mz_up (mz_up (mz_up (mz_up (mz_up (mz_z m) 19 2 t1) 19 3 t2) 19 2 (t1 - (((t1 * 10) / 100) / 1))) 19 3 (t2 - (((t2 * 10) / 100) / 1))) 19 0 t5) 19 1 t6) 19 4 (((mz_z m) 19 4) + 1))) rfl ?_
        exact mz_ret rfl
    · refine ⟨mz_up (mz_up (mz_up (mz_up (mz_up (mz_up (mz_up (mz_up (mz_z m) 19 2 t1) 19 3 t2) 19 2 (t1 - (((t1 * 10) / 100) / 1))) 19 3 (t2 - (((t2 * 10) / 100) / 1))) 19 0 t5) 19 1 t6) 19 3 0) 19 4 (((mz_z m) 19 4) + 1), fun i hi => by simp only [mz_up_ne hi], rfl, ⟨?_, rfl⟩⟩
      · refine mz_go 12 (c' := (22, [some (.ref 49), some (.ref 19), some (.int 1), some (.int 1), some (.ref 2), some (.int 0), none, none, none, none], [.int 0, .ref 2], (mz_z m))) rfl ?_
        refine mz_do (R := mz_r21) (as := [.ref 2, .int 0]) (rest := []) (r1 := some (.int 0)) (m1 := (mz_z m)) rfl ⟨?_, rfl⟩ ?_
        · refine mz_go 7 (c' := (23, [some (.ref 2), some (.int 0)], [.int 0], (mz_z m))) rfl ?_
          exact mz_ret rfl
        refine mz_go 24 (c' := (217, [some (.ref 49), some (.ref 19), some (.int 1), some (.int 1), some (.ref 2), some (.int 5), none, none, none, none], [.ref 19, .int ((mz_z m) 19 3), .ref 19], mz_up (mz_z m) 19 2 t1)) rfl ?_
        refine mz_go 11 (c' := (235, [some (.ref 49), some (.ref 19), some (.int 1), some (.int 1), some (.ref 2), some (.int 5), none, none, none, none], [.ref 19, .ref 49], mz_up (mz_up (mz_z m) 19 2 t1) 19 3 t2)) rfl ?_
        refine mz_do (R := mz_r43) (as := [.ref 49, .ref 19]) (rest := []) (r1 := some (.int 10)) (m1 := mz_up (mz_up (mz_z m) 19 2 t1) 19 3 t2) rfl ⟨?_, rfl⟩ ?_
        · refine mz_go 10 (c' := (22, [some (.ref 49), some (.ref 19), none], [.int 10], mz_up (mz_up (mz_z m) 19 2 t1) 19 3 t2)) rfl ?_
          exact mz_ret rfl
        refine mz_go 24 (c' := (277, [some (.ref 49), some (.ref 19), some (.int 1), some (.int 1), some (.ref 2), some (.int 5), some (.int 10), none, none, none], [.int 1, .int ((t2 * 10) / 100), .int t2, .ref 19], mz_up (mz_up (mz_up (mz_z m) 19 2 t1) 19 3 t2) 19 2 (t1 - (((t1 * 10) / 100) / 1)))) rfl ?_
        refine mz_go 5 (c' := (284, [some (.ref 49), some (.ref 19), some (.int 1), some (.int 1), some (.ref 2), some (.int 5), some (.int 10), none, none, none], [.int 1, .ref 19], mz_up (mz_up (mz_up (mz_up (mz_z m) 19 2 t1) 19 3 t2) 19 2 (t1 - (((t1 * 10) / 100) / 1))) 19 3 (t2 - (((t2 * 10) / 100) / 1)))) rfl ?_
        refine mz_do (R := mz_r39) (as := [.ref 19, .int 1]) (rest := []) (r1 := none) (m1 := mz_up (mz_up (mz_up (mz_up (mz_up (mz_up (mz_up (mz_z m) 19 2 t1) 19 3 t2) 19 2 (t1 - (((t1 * 10) / 100) / 1))) 19 3 (t2 - (((t2 * 10) / 100) / 1))) 19 0 t5) 19 1 t6) 19 3 0) rfl ⟨?_, rfl⟩ ?_
        · refine mz_go 5 (c' := (9, [some (.ref 19), some (.int 1), none, none], [.int 1, .int (t1 - (((t1 * 10) / 100) / 1)), .int ((mz_z m) 19 0)], mz_up (mz_up (mz_up (mz_up (mz_z m) 19 2 t1) 19 3 t2) 19 2 (t1 - (((t1 * 10) / 100) / 1))) 19 3 (t2 - (((t2 * 10) / 100) / 1)))) rfl ?_
          refine mz_do (R := mz_r123) (as := [.int (t1 - (((t1 * 10) / 100) / 1)), .int 1]) (rest := [.int ((mz_z m) 19 0)]) (r1 := some (.int ((t1 - (((t1 * 10) / 100) / 1)) / 1))) (m1 := mz_up (mz_up (mz_up (mz_up (mz_z m) 19 2 t1) 19 3 t2) 19 2 (t1 - (((t1 * 10) / 100) / 1))) 19 3 (t2 - (((t2 * 10) / 100) / 1))) rfl ⟨?_, rfl⟩ ?_
          · refine mz_go 5 (c' := (11, [some (.int (t1 - (((t1 * 10) / 100) / 1))), some (.int 1)], [.int ((t1 - (((t1 * 10) / 100) / 1)) / 1)], mz_up (mz_up (mz_up (mz_up (mz_z m) 19 2 t1) 19 3 t2) 19 2 (t1 - (((t1 * 10) / 100) / 1))) 19 3 (t2 - (((t2 * 10) / 100) / 1)))) rfl ?_
            exact mz_ret rfl
          refine mz_go 7 (c' := (23, [some (.ref 19), some (.int 1), some (.int t3), none], [.int 1, .int (t2 - (((t2 * 10) / 100) / 1)), .int ((mz_z m) 19 1)], mz_up (mz_up (mz_up (mz_up (mz_z m) 19 2 t1) 19 3 t2) 19 2 (t1 - (((t1 * 10) / 100) / 1))) 19 3 (t2 - (((t2 * 10) / 100) / 1)))) rfl ?_
          refine mz_do (R := mz_r123) (as := [.int (t2 - (((t2 * 10) / 100) / 1)), .int 1]) (rest := [.int ((mz_z m) 19 1)]) (r1 := some (.int ((t2 - (((t2 * 10) / 100) / 1)) / 1))) (m1 := mz_up (mz_up (mz_up (mz_up (mz_z m) 19 2 t1) 19 3 t2) 19 2 (t1 - (((t1 * 10) / 100) / 1))) 19 3 (t2 - (((t2 * 10) / 100) / 1))) rfl ⟨?_, rfl⟩ ?_
          · refine mz_go 5 (c' := (11, [some (.int (t2 - (((t2 * 10) / 100) / 1))), some (.int 1)], [.int ((t2 - (((t2 * 10) / 100) / 1)) / 1)], mz_up (mz_up (mz_up (mz_up (mz_z m) 19 2 t1) 19 3 t2) 19 2 (t1 - (((t1 * 10) / 100) / 1))) 19 3 (t2 - (((t2 * 10) / 100) / 1)))) rfl ?_
            exact mz_ret rfl
          refine mz_go 6 (c' := (36, [some (.ref 19), some (.int 1), some (.int t3), some (.int t4)], [.int 1600, .int (-1600), .int t3, .ref 19], mz_up (mz_up (mz_up (mz_up (mz_z m) 19 2 t1) 19 3 t2) 19 2 (t1 - (((t1 * 10) / 100) / 1))) 19 3 (t2 - (((t2 * 10) / 100) / 1)))) rfl ?_
          refine mz_do (R := mz_r122) (as := [.int t3, .int (-1600), .int 1600]) (rest := [.ref 19]) (r1 := some (.int t5)) (m1 := mz_up (mz_up (mz_up (mz_up (mz_z m) 19 2 t1) 19 3 t2) 19 2 (t1 - (((t1 * 10) / 100) / 1))) 19 3 (t2 - (((t2 * 10) / 100) / 1))) rfl ⟨?_, rfl⟩ ?_
          · refine mz_go 5 (c' := (9, [some (.int t3), some (.int (-1600)), some (.int 1600)], [.int t5], mz_up (mz_up (mz_up (mz_up (mz_z m) 19 2 t1) 19 3 t2) 19 2 (t1 - (((t1 * 10) / 100) / 1))) 19 3 (t2 - (((t2 * 10) / 100) / 1)))) rfl ?_
            exact mz_ret rfl
          refine mz_go 5 (c' := (50, [some (.ref 19), some (.int 1), some (.int t3), some (.int t4)], [.int 1600, .int (-1600), .int t4, .ref 19], mz_up (mz_up (mz_up (mz_up (mz_up (mz_z m) 19 2 t1) 19 3 t2) 19 2 (t1 - (((t1 * 10) / 100) / 1))) 19 3 (t2 - (((t2 * 10) / 100) / 1))) 19 0 t5)) rfl ?_
          refine mz_do (R := mz_r122) (as := [.int t4, .int (-1600), .int 1600]) (rest := [.ref 19]) (r1 := some (.int t6)) (m1 := mz_up (mz_up (mz_up (mz_up (mz_up (mz_z m) 19 2 t1) 19 3 t2) 19 2 (t1 - (((t1 * 10) / 100) / 1))) 19 3 (t2 - (((t2 * 10) / 100) / 1))) 19 0 t5) rfl ⟨?_, rfl⟩ ?_
          · refine mz_go 5 (c' := (9, [some (.int t4), some (.int (-1600)), some (.int 1600)], [.int t6], mz_up (mz_up (mz_up (mz_up (mz_up (mz_z m) 19 2 t1) 19 3 t2) 19 2 (t1 - (((t1 * 10) / 100) / 1))) 19 3 (t2 - (((t2 * 10) / 100) / 1))) 19 0 t5)) rfl ?_
            exact mz_ret rfl
          refine mz_go 5 (c' := (if t5 = t3 then 69 else 64, [some (.ref 19), some (.int 1), some (.int t3), some (.int t4)], [], mz_up (mz_up (mz_up (mz_up (mz_up (mz_up (mz_z m) 19 2 t1) 19 3 t2) 19 2 (t1 - (((t1 * 10) / 100) / 1))) 19 3 (t2 - (((t2 * 10) / 100) / 1))) 19 0 t5) 19 1 t6)) rfl ?_
          refine mz_ifT h1 ?_
          refine mz_go 4 (c' := (if t6 = t4 then 82 else 77, [some (.ref 19), some (.int 1), some (.int t3), some (.int t4)], [], mz_up (mz_up (mz_up (mz_up (mz_up (mz_up (mz_z m) 19 2 t1) 19 3 t2) 19 2 (t1 - (((t1 * 10) / 100) / 1))) 19 3 (t2 - (((t2 * 10) / 100) / 1))) 19 0 t5) 19 1 t6)) rfl ?_
          refine mz_ifF h2 ?_
          refine mz_go 3 (c' := (82, [some (.ref 19), some (.int 1), some (.int t3), some (.int t4)], [], mz_up (mz_up (mz_up (mz_up (mz_up (mz_up (mz_up (mz_z m) 19 2 t1) 19 3 t2) 19 2 (t1 - (((t1 * 10) / 100) / 1))) 19 3 (t2 - (((t2 * 10) / 100) / 1))) 19 0 t5) 19 1 t6) 19 3 0)) rfl ?_
          exact mz_ret rfl
        refine mz_go 6 (c' := (297, [some (.ref 49), some (.ref 19), some (.int 1), some (.int 1), some (.ref 2), some (.int 5), some (.int 10), none, none, none], [], mz_up (mz_up (mz_up (mz_up (mz_up (mz_up (mz_up (mz_up (mz_z m) 19 2 t1) 19 3 t2) 19 2 (t1 - (((t1 * 10) / 100) / 1))) 19 3 (t2 - (((t2 * 10) / 100) / 1))) 19 0 t5) 19 1 t6) 19 3 0) 19 4 (((mz_z m) 19 4) + 1))) rfl ?_
        exact mz_ret rfl
  · by_cases h3 : t6 = t4
    · refine ⟨mz_up (mz_up (mz_up (mz_up (mz_up (mz_up (mz_up (mz_up (mz_z m) 19 2 t1) 19 3 t2) 19 2 (t1 - (((t1 * 10) / 100) / 1))) 19 3 (t2 - (((t2 * 10) / 100) / 1))) 19 0 t5) 19 1 t6) 19 2 0) 19 4 (((mz_z m) 19 4) + 1), fun i hi => by simp only [mz_up_ne hi], rfl, ⟨?_, rfl⟩⟩
      · refine mz_go 12 (c' := (22, [some (.ref 49), some (.ref 19), some (.int 1), some (.int 1), some (.ref 2), some (.int 0), none, none, none, none], [.int 0, .ref 2], (mz_z m))) rfl ?_
        refine mz_do (R := mz_r21) (as := [.ref 2, .int 0]) (rest := []) (r1 := some (.int 0)) (m1 := (mz_z m)) rfl ⟨?_, rfl⟩ ?_
        · refine mz_go 7 (c' := (23, [some (.ref 2), some (.int 0)], [.int 0], (mz_z m))) rfl ?_
          exact mz_ret rfl
        refine mz_go 24 (c' := (217, [some (.ref 49), some (.ref 19), some (.int 1), some (.int 1), some (.ref 2), some (.int 5), none, none, none, none], [.ref 19, .int ((mz_z m) 19 3), .ref 19], mz_up (mz_z m) 19 2 t1)) rfl ?_
        refine mz_go 11 (c' := (235, [some (.ref 49), some (.ref 19), some (.int 1), some (.int 1), some (.ref 2), some (.int 5), none, none, none, none], [.ref 19, .ref 49], mz_up (mz_up (mz_z m) 19 2 t1) 19 3 t2)) rfl ?_
        refine mz_do (R := mz_r43) (as := [.ref 49, .ref 19]) (rest := []) (r1 := some (.int 10)) (m1 := mz_up (mz_up (mz_z m) 19 2 t1) 19 3 t2) rfl ⟨?_, rfl⟩ ?_
        · refine mz_go 10 (c' := (22, [some (.ref 49), some (.ref 19), none], [.int 10], mz_up (mz_up (mz_z m) 19 2 t1) 19 3 t2)) rfl ?_
          exact mz_ret rfl
        refine mz_go 24 (c' := (277, [some (.ref 49), some (.ref 19), some (.int 1), some (.int 1), some (.ref 2), some (.int 5), some (.int 10), none, none, none], [.int 1, .int ((t2 * 10) / 100), .int t2, .ref 19], mz_up (mz_up (mz_up (mz_z m) 19 2 t1) 19 3 t2) 19 2 (t1 - (((t1 * 10) / 100) / 1)))) rfl ?_
        refine mz_go 5 (c' := (284, [some (.ref 49), some (.ref 19), some (.int 1), some (.int 1), some (.ref 2), some (.int 5), some (.int 10), none, none, none], [.int 1, .ref 19], mz_up (mz_up (mz_up (mz_up (mz_z m) 19 2 t1) 19 3 t2) 19 2 (t1 - (((t1 * 10) / 100) / 1))) 19 3 (t2 - (((t2 * 10) / 100) / 1)))) rfl ?_
        refine mz_do (R := mz_r39) (as := [.ref 19, .int 1]) (rest := []) (r1 := none) (m1 := mz_up (mz_up (mz_up (mz_up (mz_up (mz_up (mz_up (mz_z m) 19 2 t1) 19 3 t2) 19 2 (t1 - (((t1 * 10) / 100) / 1))) 19 3 (t2 - (((t2 * 10) / 100) / 1))) 19 0 t5) 19 1 t6) 19 2 0) rfl ⟨?_, rfl⟩ ?_
        · refine mz_go 5 (c' := (9, [some (.ref 19), some (.int 1), none, none], [.int 1, .int (t1 - (((t1 * 10) / 100) / 1)), .int ((mz_z m) 19 0)], mz_up (mz_up (mz_up (mz_up (mz_z m) 19 2 t1) 19 3 t2) 19 2 (t1 - (((t1 * 10) / 100) / 1))) 19 3 (t2 - (((t2 * 10) / 100) / 1)))) rfl ?_
          refine mz_do (R := mz_r123) (as := [.int (t1 - (((t1 * 10) / 100) / 1)), .int 1]) (rest := [.int ((mz_z m) 19 0)]) (r1 := some (.int ((t1 - (((t1 * 10) / 100) / 1)) / 1))) (m1 := mz_up (mz_up (mz_up (mz_up (mz_z m) 19 2 t1) 19 3 t2) 19 2 (t1 - (((t1 * 10) / 100) / 1))) 19 3 (t2 - (((t2 * 10) / 100) / 1))) rfl ⟨?_, rfl⟩ ?_
          · refine mz_go 5 (c' := (11, [some (.int (t1 - (((t1 * 10) / 100) / 1))), some (.int 1)], [.int ((t1 - (((t1 * 10) / 100) / 1)) / 1)], mz_up (mz_up (mz_up (mz_up (mz_z m) 19 2 t1) 19 3 t2) 19 2 (t1 - (((t1 * 10) / 100) / 1))) 19 3 (t2 - (((t2 * 10) / 100) / 1)))) rfl ?_
            exact mz_ret rfl
          refine mz_go 7 (c' := (23, [some (.ref 19), some (.int 1), some (.int t3), none], [.int 1, .int (t2 - (((t2 * 10) / 100) / 1)), .int ((mz_z m) 19 1)], mz_up (mz_up (mz_up (mz_up (mz_z m) 19 2 t1) 19 3 t2) 19 2 (t1 - (((t1 * 10) / 100) / 1))) 19 3 (t2 - (((t2 * 10) / 100) / 1)))) rfl ?_
          refine mz_do (R := mz_r123) (as := [.int (t2 - (((t2 * 10) / 100) / 1)), .int 1]) (rest := [.int ((mz_z m) 19 1)]) (r1 := some (.int ((t2 - (((t2 * 10) / 100) / 1)) / 1))) (m1 := mz_up (mz_up (mz_up (mz_up (mz_z m) 19 2 t1) 19 3 t2) 19 2 (t1 - (((t1 * 10) / 100) / 1))) 19 3 (t2 - (((t2 * 10) / 100) / 1))) rfl ⟨?_, rfl⟩ ?_
          · refine mz_go 5 (c' := (11, [some (.int (t2 - (((t2 * 10) / 100) / 1))), some (.int 1)], [.int ((t2 - (((t2 * 10) / 100) / 1)) / 1)], mz_up (mz_up (mz_up (mz_up (mz_z m) 19 2 t1) 19 3 t2) 19 2 (t1 - (((t1 * 10) / 100) / 1))) 19 3 (t2 - (((t2 * 10) / 100) / 1)))) rfl ?_
            exact mz_ret rfl
          refine mz_go 6 (c' := (36, [some (.ref 19), some (.int 1), some (.int t3), some (.int t4)], [.int 1600, .int (-1600), .int t3, .ref 19], mz_up (mz_up (mz_up (mz_up (mz_z m) 19 2 t1) 19 3 t2) 19 2 (t1 - (((t1 * 10) / 100) / 1))) 19 3 (t2 - (((t2 * 10) / 100) / 1)))) rfl ?_
          refine mz_do (R := mz_r122) (as := [.int t3, .int (-1600), .int 1600]) (rest := [.ref 19]) (r1 := some (.int t5)) (m1 := mz_up (mz_up (mz_up (mz_up (mz_z m) 19 2 t1) 19 3 t2) 19 2 (t1 - (((t1 * 10) / 100) / 1))) 19 3 (t2 - (((t2 * 10) / 100) / 1))) rfl ⟨?_, rfl⟩ ?_
          · refine mz_go 5 (c' := (9, [some (.int t3), some (.int (-1600)), some (.int 1600)], [.int t5], mz_up (mz_up (mz_up (mz_up (mz_z m) 19 2 t1) 19 3 t2) 19 2 (t1 - (((t1 * 10) / 100) / 1))) 19 3 (t2 - (((t2 * 10) / 100) / 1)))) rfl ?_
            exact mz_ret rfl
          refine mz_go 5 (c' := (50, [some (.ref 19), some (.int 1), some (.int t3), some (.int t4)], [.int 1600, .int (-1600), .int t4, .ref 19], mz_up (mz_up (mz_up (mz_up (mz_up (mz_z m) 19 2 t1) 19 3 t2) 19 2 (t1 - (((t1 * 10) / 100) / 1))) 19 3 (t2 - (((t2 * 10) / 100) / 1))) 19 0 t5)) rfl ?_
          refine mz_do (R := mz_r122) (as := [.int t4, .int (-1600), .int 1600]) (rest := [.ref 19]) (r1 := some (.int t6)) (m1 := mz_up (mz_up (mz_up (mz_up (mz_up (mz_z m) 19 2 t1) 19 3 t2) 19 2 (t1 - (((t1 * 10) / 100) / 1))) 19 3 (t2 - (((t2 * 10) / 100) / 1))) 19 0 t5) rfl ⟨?_, rfl⟩ ?_
          · refine mz_go 5 (c' := (9, [some (.int t4), some (.int (-1600)), some (.int 1600)], [.int t6], mz_up (mz_up (mz_up (mz_up (mz_up (mz_z m) 19 2 t1) 19 3 t2) 19 2 (t1 - (((t1 * 10) / 100) / 1))) 19 3 (t2 - (((t2 * 10) / 100) / 1))) 19 0 t5)) rfl ?_
            exact mz_ret rfl
          refine mz_go 5 (c' := (if t5 = t3 then 69 else 64, [some (.ref 19), some (.int 1), some (.int t3), some (.int t4)], [], mz_up (mz_up (mz_up (mz_up (mz_up (mz_up (mz_z m) 19 2 t1) 19 3 t2) 19 2 (t1 - (((t1 * 10) / 100) / 1))) 19 3 (t2 - (((t2 * 10) / 100) / 1))) 19 0 t5) 19 1 t6)) rfl ?_
          refine mz_ifF h1 ?_
          refine mz_go 7 (c' := (if t6 = t4 then 82 else 77, [some (.ref 19), some (.int 1), some (.int t3), some (.int t4)], [], mz_up (mz_up (mz_up (mz_up (mz_up (mz_up (mz_up (mz_z m) 19 2 t1) 19 3 t2) 19 2 (t1 - (((t1 * 10) / 100) / 1))) 19 3 (t2 - (((t2 * 10) / 100) / 1))) 19 0 t5) 19 1 t6) 19 2 0)) rfl ?_
          refine mz_ifT h3 ?_
          exact mz_ret rfl
        refine mz_go 6 (c' := (297, [some (.ref 49), some (.ref 19), some (.int 1), some (.int 1), some (.ref 2), some (.int 5), some (.int 10), none, none, none], [], mz_up (mz_up (mz_up (mz_up (mz_up (mz_up (mz_up (mz_up (mz_z m) 19 2 t1) 19 3 t2) 19 2 (t1 - (((t1 * 10) / 100) / 1))) 19 3 (t2 - (((t2 * 10) / 100) / 1))) 19 0 t5) 19 1 t6) 19 2 0) 19 4 (((mz_z m) 19 4) + 1))) rfl ?_
        exact mz_ret rfl
    · refine ⟨mz_up (mz_up (mz_up (mz_up (mz_up (mz_up (mz_up (mz_up (mz_up (mz_z m) 19 2 t1) 19 3 t2) 19 2 (t1 - (((t1 * 10) / 100) / 1))) 19 3 (t2 - (((t2 * 10) / 100) / 1))) 19 0 t5) 19 1 t6) 19 2 0) 19 3 0) 19 4 (((mz_z m) 19 4) + 1), fun i hi => by simp only [mz_up_ne hi], rfl, ⟨?_, rfl⟩⟩
      · refine mz_go 12 (c' := (22, [some (.ref 49), some (.ref 19), some (.int 1), some (.int 1), some (.ref 2), some (.int 0), none, none, none, none], [.int 0, .ref 2], (mz_z m))) rfl ?_
        refine mz_do (R := mz_r21) (as := [.ref 2, .int 0]) (rest := []) (r1 := some (.int 0)) (m1 := (mz_z m)) rfl ⟨?_, rfl⟩ ?_
        · refine mz_go 7 (c' := (23, [some (.ref 2), some (.int 0)], [.int 0], (mz_z m))) rfl ?_
          exact mz_ret rfl
        refine mz_go 24 (c' := (217, [some (.ref 49), some (.ref 19), some (.int 1), some (.int 1), some (.ref 2), some (.int 5), none, none, none, none], [.ref 19, .int ((mz_z m) 19 3), .ref 19], mz_up (mz_z m) 19 2 t1)) rfl ?_
        refine mz_go 11 (c' := (235, [some (.ref 49), some (.ref 19), some (.int 1), some (.int 1), some (.ref 2), some (.int 5), none, none, none, none], [.ref 19, .ref 49], mz_up (mz_up (mz_z m) 19 2 t1) 19 3 t2)) rfl ?_
        refine mz_do (R := mz_r43) (as := [.ref 49, .ref 19]) (rest := []) (r1 := some (.int 10)) (m1 := mz_up (mz_up (mz_z m) 19 2 t1) 19 3 t2) rfl ⟨?_, rfl⟩ ?_
        · refine mz_go 10 (c' := (22, [some (.ref 49), some (.ref 19), none], [.int 10], mz_up (mz_up (mz_z m) 19 2 t1) 19 3 t2)) rfl ?_
          exact mz_ret rfl
        refine mz_go 24 (c' := (277, [some (.ref 49), some (.ref 19), some (.int 1), some (.int 1), some (.ref 2), some (.int 5), some (.int 10), none, none, none], [.int 1, .int ((t2 * 10) / 100), .int t2, .ref 19], mz_up (mz_up (mz_up (mz_z m) 19 2 t1) 19 3 t2) 19 2 (t1 - (((t1 * 10) / 100) / 1)))) rfl ?_
        refine mz_go 5 (c' := (284, [some (.ref 49), some (.ref 19), some (.int 1), some (.int 1), some (.ref 2), some (.int 5), some (.int 10), none, none, none], [.int 1, .ref 19], mz_up (mz_up (mz_up (mz_up (mz_z m) 19 2 t1) 19 3 t2) 19 2 (t1 - (((t1 * 10) / 100) / 1))) 19 3 (t2 - (((t2 * 10) / 100) / 1)))) rfl ?_
        refine mz_do (R := mz_r39) (as := [.ref 19, .int 1]) (rest := []) (r1 := none) (m1 := mz_up (mz_up (mz_up (mz_up (mz_up (mz_up (mz_up (mz_up (mz_z m) 19 2 t1) 19 3 t2) 19 2 (t1 - (((t1 * 10) / 100) / 1))) 19 3 (t2 - (((t2 * 10) / 100) / 1))) 19 0 t5) 19 1 t6) 19 2 0) 19 3 0) rfl ⟨?_, rfl⟩ ?_
        · refine mz_go 5 (c' := (9, [some (.ref 19), some (.int 1), none, none], [.int 1, .int (t1 - (((t1 * 10) / 100) / 1)), .int ((mz_z m) 19 0)], mz_up (mz_up (mz_up (mz_up (mz_z m) 19 2 t1) 19 3 t2) 19 2 (t1 - (((t1 * 10) / 100) / 1))) 19 3 (t2 - (((t2 * 10) / 100) / 1)))) rfl ?_
          refine mz_do (R := mz_r123) (as := [.int (t1 - (((t1 * 10) / 100) / 1)), .int 1]) (rest := [.int ((mz_z m) 19 0)]) (r1 := some (.int ((t1 - (((t1 * 10) / 100) / 1)) / 1))) (m1 := mz_up (mz_up (mz_up (mz_up (mz_z m) 19 2 t1) 19 3 t2) 19 2 (t1 - (((t1 * 10) / 100) / 1))) 19 3 (t2 - (((t2 * 10) / 100) / 1))) rfl ⟨?_, rfl⟩ ?_
          · refine mz_go 5 (c' := (11, [some (.int (t1 - (((t1 * 10) / 100) / 1))), some (.int 1)], [.int ((t1 - (((t1 * 10) / 100) / 1)) / 1)], mz_up (mz_up (mz_up (mz_up (mz_z m) 19 2 t1) 19 3 t2) 19 2 (t1 - (((t1 * 10) / 100) / 1))) 19 3 (t2 - (((t2 * 10) / 100) / 1)))) rfl ?_
            exact mz_ret rfl
          refine mz_go 7 (c' := (23, [some (.ref 19), some (.int 1), some (.int t3), none], [.int 1, .int (t2 - (((t2 * 10) / 100) / 1)), .int ((mz_z m) 19 1)], mz_up (mz_up (mz_up (mz_up (mz_z m) 19 2 t1) 19 3 t2) 19 2 (t1 - (((t1 * 10) / 100) / 1))) 19 3 (t2 - (((t2 * 10) / 100) / 1)))) rfl ?_
          refine mz_do (R := mz_r123) (as := [.int (t2 - (((t2 * 10) / 100) / 1)), .int 1]) (rest := [.int ((mz_z m) 19 1)]) (r1 := some (.int ((t2 - (((t2 * 10) / 100) / 1)) / 1))) (m1 := mz_up (mz_up (mz_up (mz_up (mz_z m) 19 2 t1) 19 3 t2) 19 2 (t1 - (((t1 * 10) / 100) / 1))) 19 3 (t2 - (((t2 * 10) / 100) / 1))) rfl ⟨?_, rfl⟩ ?_
          · refine mz_go 5 (c' := (11, [some (.int (t2 - (((t2 * 10) / 100) / 1))), some (.int 1)], [.int ((t2 - (((t2 * 10) / 100) / 1)) / 1)], mz_up (mz_up (mz_up (mz_up (mz_z m) 19 2 t1) 19 3 t2) 19 2 (t1 - (((t1 * 10) / 100) / 1))) 19 3 (t2 - (((t2 * 10) / 100) / 1)))) rfl ?_
            exact mz_ret rfl
          refine mz_go 6 (c' := (36, [some (.ref 19), some (.int 1), some (.int t3), some (.int t4)], [.int 1600, .int (-1600), .int t3, .ref 19], mz_up (mz_up (mz_up (mz_up (mz_z m) 19 2 t1) 19 3 t2) 19 2 (t1 - (((t1 * 10) / 100) / 1))) 19 3 (t2 - (((t2 * 10) / 100) / 1)))) rfl ?_
          refine mz_do (R := mz_r122) (as := [.int t3, .int (-1600), .int 1600]) (rest := [.ref 19]) (r1 := some (.int t5)) (m1 := mz_up (mz_up (mz_up (mz_up (mz_z m) 19 2 t1) 19 3 t2) 19 2 (t1 - (((t1 * 10) / 100) / 1))) 19 3 (t2 - (((t2 * 10) / 100) / 1))) rfl ⟨?_, rfl⟩ ?_
          · refine mz_go 5 (c' := (9, [some (.int t3), some (.int (-1600)), some (.int 1600)], [.int t5], mz_up (mz_up (mz_up (mz_up (mz_z m) 19 2 t1) 19 3 t2) 19 2 (t1 - (((t1 * 10) / 100) / 1))) 19 3 (t2 - (((t2 * 10) / 100) / 1)))) rfl ?_
            exact mz_ret rfl
          refine mz_go 5 (c' := (50, [some (.ref 19), some (.int 1), some (.int t3), some (.int t4)], [.int 1600, .int (-1600), .int t4, .ref 19], mz_up (mz_up (mz_up (mz_up (mz_up (mz_z m) 19 2 t1) 19 3 t2) 19 2 (t1 - (((t1 * 10) / 100) / 1))) 19 3 (t2 - (((t2 * 10) / 100) / 1))) 19 0 t5)) rfl ?_
          refine mz_do (R := mz_r122) (as := [.int t4, .int (-1600), .int 1600]) (rest := [.ref 19]) (r1 := some (.int t6)) (m1 := mz_up (mz_up (mz_up (mz_up (mz_up (mz_z m) 19 2 t1) 19 3 t2) 19 2 (t1 - (((t1 * 10) / 100) / 1))) 19 3 (t2 - (((t2 * 10) / 100) / 1))) 19 0 t5) rfl ⟨?_, rfl⟩ ?_
          · refine mz_go 5 (c' := (9, [some (.int t4), some (.int (-1600)), some (.int 1600)], [.int t6], mz_up (mz_up (mz_up (mz_up (mz_up (mz_z m) 19 2 t1) 19 3 t2) 19 2 (t1 - (((t1 * 10) / 100) / 1))) 19 3 (t2 - (((t2 * 10) / 100) / 1))) 19 0 t5)) rfl ?_
            exact mz_ret rfl
          refine mz_go 5 (c' := (if t5 = t3 then 69 else 64, [some (.ref 19), some (.int 1), some (.int t3), some (.int t4)], [], mz_up (mz_up (mz_up (mz_up (mz_up (mz_up (mz_z m) 19 2 t1) 19 3 t2) 19 2 (t1 - (((t1 * 10) / 100) / 1))) 19 3 (t2 - (((t2 * 10) / 100) / 1))) 19 0 t5) 19 1 t6)) rfl ?_
          refine mz_ifF h1 ?_
          refine mz_go 7 (c' := (if t6 = t4 then 82 else 77, [some (.ref 19), some (.int 1), some (.int t3), some (.int t4)], [], mz_up (mz_up (mz_up (mz_up (mz_up (mz_up (mz_up (mz_z m) 19 2 t1) 19 3 t2) 19 2 (t1 - (((t1 * 10) / 100) / 1))) 19 3 (t2 - (((t2 * 10) / 100) / 1))) 19 0 t5) 19 1 t6) 19 2 0)) rfl ?_
          refine mz_ifF h3 ?_
          refine mz_go 3 (c' := (82, [some (.ref 19), some (.int 1), some (.int t3), some (.int t4)], [], mz_up (mz_up (mz_up (mz_up (mz_up (mz_up (mz_up (mz_up (mz_z m) 19 2 t1) 19 3 t2) 19 2 (t1 - (((t1 * 10) / 100) / 1))) 19 3 (t2 - (((t2 * 10) / 100) / 1))) 19 0 t5) 19 1 t6) 19 2 0) 19 3 0)) rfl ?_
          exact mz_ret rfl
        refine mz_go 6 (c' := (297, [some (.ref 49), some (.ref 19), some (.int 1), some (.int 1), some (.ref 2), some (.int 5), some (.int 10), none, none, none], [], mz_up (mz_up (mz_up (mz_up (mz_up (mz_up (mz_up (mz_up (mz_up (mz_z m) 19 2 t1) 19 3 t2) 19 2 (t1 - (((t1 * 10) / 100) / 1))) 19 3 (t2 - (((t2 * 10) / 100) / 1))) 19 0 t5) 19 1 t6) 19 2 0) 19 3 0) 19 4 (((mz_z m) 19 4) + 1))) rfl ?_
        exact mz_ret rfl
set_option maxHeartbeats 4000000 in
set_option maxRecDepth 100000 in
theorem cz_step_50_1 (m : mz_M) : ∃ m', (∀ i, i ≠ 50 → m' i = mz_z m i) ∧ m' 50 4 = mz_z m 50 4 + 1 ∧ mz_Me 50 mz_r38 [.ref 49, .ref 50, .int 1] (mz_z m) none m' := by
  let t1 : Int32 := ((mz_z m) 50 2) - (((((mz_z m) 50 0) * 5) / 1600) / 1)
  let t2 : Int32 := ((mz_z m) 50 3) - (((((mz_z m) 50 1) * 5) / 1600) / 1)
  let t3 : Int32 := ((mz_z m) 50 0) + ((t1 - (((t1 * 10) / 100) / 1)) / 1)
  let t4 : Int32 := ((mz_z m) 50 1) + ((t2 - (((t2 * 10) / 100) / 1)) / 1)
  let t5 : Int32 := if (-1600) < (if t3 < 1600 then t3 else 1600) then (if t3 < 1600 then t3 else 1600) else (-1600)
  let t6 : Int32 := if (-1600) < (if t4 < 1600 then t4 else 1600) then (if t4 < 1600 then t4 else 1600) else (-1600)
  by_cases h1 : t5 = t3
  · by_cases h2 : t6 = t4
    · refine ⟨mz_up (mz_up (mz_up (mz_up (mz_up (mz_up (mz_up (mz_z m) 50 2 t1) 50 3 t2) 50 2 (t1 - (((t1 * 10) / 100) / 1))) 50 3 (t2 - (((t2 * 10) / 100) / 1))) 50 0 t5) 50 1 t6) 50 4 (((mz_z m) 50 4) + 1), fun i hi => by simp only [mz_up_ne hi], rfl, ⟨?_, rfl⟩⟩
      · refine mz_go 12 (c' := (22, [some (.ref 49), some (.ref 50), some (.int 1), some (.int 1), some (.ref 2), some (.int 0), none, none, none, none], [.int 0, .ref 2], (mz_z m))) rfl ?_
        refine mz_do (R := mz_r21) (as := [.ref 2, .int 0]) (rest := []) (r1 := some (.int 0)) (m1 := (mz_z m)) rfl ⟨?_, rfl⟩ ?_
        · refine mz_go 7 (c' := (23, [some (.ref 2), some (.int 0)], [.int 0], (mz_z m))) rfl ?_
          exact mz_ret rfl
        refine mz_go 24 (c' := (217, [some (.ref 49), some (.ref 50), some (.int 1), some (.int 1), some (.ref 2), some (.int 5), none, none, none, none], [.ref 50, .int ((mz_z m) 50 3), .ref 50], mz_up (mz_z m) 50 2 t1)) rfl ?_
        refine mz_go 11 (c' := (235, [some (.ref 49), some (.ref 50), some (.int 1), some (.int 1), some (.ref 2), some (.int 5), none, none, none, none], [.ref 50, .ref 49], mz_up (mz_up (mz_z m) 50 2 t1) 50 3 t2)) rfl ?_
        refine mz_do (R := mz_r43) (as := [.ref 49, .ref 50]) (rest := []) (r1 := some (.int 10)) (m1 := mz_up (mz_up (mz_z m) 50 2 t1) 50 3 t2) rfl ⟨?_, rfl⟩ ?_
        · refine mz_go 10 (c' := (22, [some (.ref 49), some (.ref 50), none], [.int 10], mz_up (mz_up (mz_z m) 50 2 t1) 50 3 t2)) rfl ?_
          exact mz_ret rfl
        refine mz_go 24 (c' := (277, [some (.ref 49), some (.ref 50), some (.int 1), some (.int 1), some (.ref 2), some (.int 5), some (.int 10), none, none, none], [.int 1, .int ((t2 * 10) / 100), .int t2, .ref 50], mz_up (mz_up (mz_up (mz_z m) 50 2 t1) 50 3 t2) 50 2 (t1 - (((t1 * 10) / 100) / 1)))) rfl ?_
        refine mz_go 5 (c' := (284, [some (.ref 49), some (.ref 50), some (.int 1), some (.int 1), some (.ref 2), some (.int 5), some (.int 10), none, none, none], [.int 1, .ref 50], mz_up (mz_up (mz_up (mz_up (mz_z m) 50 2 t1) 50 3 t2) 50 2 (t1 - (((t1 * 10) / 100) / 1))) 50 3 (t2 - (((t2 * 10) / 100) / 1)))) rfl ?_
        refine mz_do (R := mz_r39) (as := [.ref 50, .int 1]) (rest := []) (r1 := none) (m1 := mz_up (mz_up (mz_up (mz_up (mz_up (mz_up (mz_z m) 50 2 t1) 50 3 t2) 50 2 (t1 - (((t1 * 10) / 100) / 1))) 50 3 (t2 - (((t2 * 10) / 100) / 1))) 50 0 t5) 50 1 t6) rfl ⟨?_, rfl⟩ ?_
        · refine mz_go 5 (c' := (9, [some (.ref 50), some (.int 1), none, none], [.int 1, .int (t1 - (((t1 * 10) / 100) / 1)), .int ((mz_z m) 50 0)], mz_up (mz_up (mz_up (mz_up (mz_z m) 50 2 t1) 50 3 t2) 50 2 (t1 - (((t1 * 10) / 100) / 1))) 50 3 (t2 - (((t2 * 10) / 100) / 1)))) rfl ?_
          refine mz_do (R := mz_r123) (as := [.int (t1 - (((t1 * 10) / 100) / 1)), .int 1]) (rest := [.int ((mz_z m) 50 0)]) (r1 := some (.int ((t1 - (((t1 * 10) / 100) / 1)) / 1))) (m1 := mz_up (mz_up (mz_up (mz_up (mz_z m) 50 2 t1) 50 3 t2) 50 2 (t1 - (((t1 * 10) / 100) / 1))) 50 3 (t2 - (((t2 * 10) / 100) / 1))) rfl ⟨?_, rfl⟩ ?_
          · refine mz_go 5 (c' := (11, [some (.int (t1 - (((t1 * 10) / 100) / 1))), some (.int 1)], [.int ((t1 - (((t1 * 10) / 100) / 1)) / 1)], mz_up (mz_up (mz_up (mz_up (mz_z m) 50 2 t1) 50 3 t2) 50 2 (t1 - (((t1 * 10) / 100) / 1))) 50 3 (t2 - (((t2 * 10) / 100) / 1)))) rfl ?_
            exact mz_ret rfl
          refine mz_go 7 (c' := (23, [some (.ref 50), some (.int 1), some (.int t3), none], [.int 1, .int (t2 - (((t2 * 10) / 100) / 1)), .int ((mz_z m) 50 1)], mz_up (mz_up (mz_up (mz_up (mz_z m) 50 2 t1) 50 3 t2) 50 2 (t1 - (((t1 * 10) / 100) / 1))) 50 3 (t2 - (((t2 * 10) / 100) / 1)))) rfl ?_
          refine mz_do (R := mz_r123) (as := [.int (t2 - (((t2 * 10) / 100) / 1)), .int 1]) (rest := [.int ((mz_z m) 50 1)]) (r1 := some (.int ((t2 - (((t2 * 10) / 100) / 1)) / 1))) (m1 := mz_up (mz_up (mz_up (mz_up (mz_z m) 50 2 t1) 50 3 t2) 50 2 (t1 - (((t1 * 10) / 100) / 1))) 50 3 (t2 - (((t2 * 10) / 100) / 1))) rfl ⟨?_, rfl⟩ ?_
          · refine mz_go 5 (c' := (11, [some (.int (t2 - (((t2 * 10) / 100) / 1))), some (.int 1)], [.int ((t2 - (((t2 * 10) / 100) / 1)) / 1)], mz_up (mz_up (mz_up (mz_up (mz_z m) 50 2 t1) 50 3 t2) 50 2 (t1 - (((t1 * 10) / 100) / 1))) 50 3 (t2 - (((t2 * 10) / 100) / 1)))) rfl ?_
            exact mz_ret rfl
          refine mz_go 6 (c' := (36, [some (.ref 50), some (.int 1), some (.int t3), some (.int t4)], [.int 1600, .int (-1600), .int t3, .ref 50], mz_up (mz_up (mz_up (mz_up (mz_z m) 50 2 t1) 50 3 t2) 50 2 (t1 - (((t1 * 10) / 100) / 1))) 50 3 (t2 - (((t2 * 10) / 100) / 1)))) rfl ?_
          refine mz_do (R := mz_r122) (as := [.int t3, .int (-1600), .int 1600]) (rest := [.ref 50]) (r1 := some (.int t5)) (m1 := mz_up (mz_up (mz_up (mz_up (mz_z m) 50 2 t1) 50 3 t2) 50 2 (t1 - (((t1 * 10) / 100) / 1))) 50 3 (t2 - (((t2 * 10) / 100) / 1))) rfl ⟨?_, rfl⟩ ?_
          · refine mz_go 5 (c' := (9, [some (.int t3), some (.int (-1600)), some (.int 1600)], [.int t5], mz_up (mz_up (mz_up (mz_up (mz_z m) 50 2 t1) 50 3 t2) 50 2 (t1 - (((t1 * 10) / 100) / 1))) 50 3 (t2 - (((t2 * 10) / 100) / 1)))) rfl ?_
            exact mz_ret rfl
          refine mz_go 5 (c' := (50, [some (.ref 50), some (.int 1), some (.int t3), some (.int t4)], [.int 1600, .int (-1600), .int t4, .ref 50], mz_up (mz_up (mz_up (mz_up (mz_up (mz_z m) 50 2 t1) 50 3 t2) 50 2 (t1 - (((t1 * 10) / 100) / 1))) 50 3 (t2 - (((t2 * 10) / 100) / 1))) 50 0 t5)) rfl ?_
          refine mz_do (R := mz_r122) (as := [.int t4, .int (-1600), .int 1600]) (rest := [.ref 50]) (r1 := some (.int t6)) (m1 := mz_up (mz_up (mz_up (mz_up (mz_up (mz_z m) 50 2 t1) 50 3 t2) 50 2 (t1 - (((t1 * 10) / 100) / 1))) 50 3 (t2 - (((t2 * 10) / 100) / 1))) 50 0 t5) rfl ⟨?_, rfl⟩ ?_
          · refine mz_go 5 (c' := (9, [some (.int t4), some (.int (-1600)), some (.int 1600)], [.int t6], mz_up (mz_up (mz_up (mz_up (mz_up (mz_z m) 50 2 t1) 50 3 t2) 50 2 (t1 - (((t1 * 10) / 100) / 1))) 50 3 (t2 - (((t2 * 10) / 100) / 1))) 50 0 t5)) rfl ?_
            exact mz_ret rfl
          refine mz_go 5 (c' := (if t5 = t3 then 69 else 64, [some (.ref 50), some (.int 1), some (.int t3), some (.int t4)], [], mz_up (mz_up (mz_up (mz_up (mz_up (mz_up (mz_z m) 50 2 t1) 50 3 t2) 50 2 (t1 - (((t1 * 10) / 100) / 1))) 50 3 (t2 - (((t2 * 10) / 100) / 1))) 50 0 t5) 50 1 t6)) rfl ?_
          refine mz_ifT h1 ?_
          refine mz_go 4 (c' := (if t6 = t4 then 82 else 77, [some (.ref 50), some (.int 1), some (.int t3), some (.int t4)], [], mz_up (mz_up (mz_up (mz_up (mz_up (mz_up (mz_z m) 50 2 t1) 50 3 t2) 50 2 (t1 - (((t1 * 10) / 100) / 1))) 50 3 (t2 - (((t2 * 10) / 100) / 1))) 50 0 t5) 50 1 t6)) rfl ?_
          refine mz_ifT h2 ?_
          exact mz_ret rfl
        refine mz_go 6 (c' := (297, [some (.ref 49), some (.ref 50), some (.int 1), some (.int 1), some (.ref 2), some (.int 5), some (.int 10), none, none, none], [], mz_up (mz_up (mz_up (mz_up (mz_up (mz_up (mz_up (mz_z m) 50 2 t1) 50 3 t2) 50 2 (t1 - (((t1 * 10) / 100) / 1))) 50 3 (t2 - (((t2 * 10) / 100) / 1))) 50 0 t5) 50 1 t6) 50 4 (((mz_z m) 50 4) + 1))) rfl ?_
        exact mz_ret rfl
    · refine ⟨mz_up (mz_up (mz_up (mz_up (mz_up (mz_up (mz_up (mz_up (mz_z m) 50 2 t1) 50 3 t2) 50 2 (t1 - (((t1 * 10) / 100) / 1))) 50 3 (t2 - (((t2 * 10) / 100) / 1))) 50 0 t5) 50 1 t6) 50 3 0) 50 4 (((mz_z m) 50 4) + 1), fun i hi => by simp only [mz_up_ne hi], rfl, ⟨?_, rfl⟩⟩
      · refine mz_go 12 (c' := (22, [some (.ref 49), some (.ref 50), some (.int 1), some (.int 1), some (.ref 2), some (.int 0), none, none, none, none], [.int 0, .ref 2], (mz_z m))) rfl ?_
        refine mz_do (R := mz_r21) (as := [.ref 2, .int 0]) (rest := []) (r1 := some (.int 0)) (m1 := (mz_z m)) rfl ⟨?_, rfl⟩ ?_
        · refine mz_go 7 (c' := (23, [some (.ref 2), some (.int 0)], [.int 0], (mz_z m))) rfl ?_
          exact mz_ret rfl
        refine mz_go 24 (c' := (217, [some (.ref 49), some (.ref 50), some (.int 1), some (.int 1), some (.ref 2), some (.int 5), none, none, none, none], [.ref 50, .int ((mz_z m) 50 3), .ref 50], mz_up (mz_z m) 50 2 t1)) rfl ?_
        refine mz_go 11 (c' := (235, [some (.ref 49), some (.ref 50), some (.int 1), some (.int 1), some (.ref 2), some (.int 5), none, none, none, none], [.ref 50, .ref 49], mz_up (mz_up (mz_z m) 50 2 t1) 50 3 t2)) rfl ?_
        refine mz_do (R := mz_r43) (as := [.ref 49, .ref 50]) (rest := []) (r1 := some (.int 10)) (m1 := mz_up (mz_up (mz_z m) 50 2 t1) 50 3 t2) rfl ⟨?_, rfl⟩ ?_
        · refine mz_go 10 (c' := (22, [some (.ref 49), some (.ref 50), none], [.int 10], mz_up (mz_up (mz_z m) 50 2 t1) 50 3 t2)) rfl ?_
          exact mz_ret rfl
        refine mz_go 24 (c' := (277, [some (.ref 49), some (.ref 50), some (.int 1), some (.int 1), some (.ref 2), some (.int 5), some (.int 10), none, none, none], [.int 1, .int ((t2 * 10) / 100), .int t2, .ref 50], mz_up (mz_up (mz_up (mz_z m) 50 2 t1) 50 3 t2) 50 2 (t1 - (((t1 * 10) / 100) / 1)))) rfl ?_
        refine mz_go 5 (c' := (284, [some (.ref 49), some (.ref 50), some (.int 1), some (.int 1), some (.ref 2), some (.int 5), some (.int 10), none, none, none], [.int 1, .ref 50], mz_up (mz_up (mz_up (mz_up (mz_z m) 50 2 t1) 50 3 t2) 50 2 (t1 - (((t1 * 10) / 100) / 1))) 50 3 (t2 - (((t2 * 10) / 100) / 1)))) rfl ?_
        refine mz_do (R := mz_r39) (as := [.ref 50, .int 1]) (rest := []) (r1 := none) (m1 := mz_up (mz_up (mz_up (mz_up (mz_up (mz_up (mz_up (mz_z m) 50 2 t1) 50 3 t2) 50 2 (t1 - (((t1 * 10) / 100) / 1))) 50 3 (t2 - (((t2 * 10) / 100) / 1))) 50 0 t5) 50 1 t6) 50 3 0) rfl ⟨?_, rfl⟩ ?_
        · refine mz_go 5 (c' := (9, [some (.ref 50), some (.int 1), none, none], [.int 1, .int (t1 - (((t1 * 10) / 100) / 1)), .int ((mz_z m) 50 0)], mz_up (mz_up (mz_up (mz_up (mz_z m) 50 2 t1) 50 3 t2) 50 2 (t1 - (((t1 * 10) / 100) / 1))) 50 3 (t2 - (((t2 * 10) / 100) / 1)))) rfl ?_
          refine mz_do (R := mz_r123) (as := [.int (t1 - (((t1 * 10) / 100) / 1)), .int 1]) (rest := [.int ((mz_z m) 50 0)]) (r1 := some (.int ((t1 - (((t1 * 10) / 100) / 1)) / 1))) (m1 := mz_up (mz_up (mz_up (mz_up (mz_z m) 50 2 t1) 50 3 t2) 50 2 (t1 - (((t1 * 10) / 100) / 1))) 50 3 (t2 - (((t2 * 10) / 100) / 1))) rfl ⟨?_, rfl⟩ ?_
          · refine mz_go 5 (c' := (11, [some (.int (t1 - (((t1 * 10) / 100) / 1))), some (.int 1)], [.int ((t1 - (((t1 * 10) / 100) / 1)) / 1)], mz_up (mz_up (mz_up (mz_up (mz_z m) 50 2 t1) 50 3 t2) 50 2 (t1 - (((t1 * 10) / 100) / 1))) 50 3 (t2 - (((t2 * 10) / 100) / 1)))) rfl ?_
            exact mz_ret rfl
          refine mz_go 7 (c' := (23, [some (.ref 50), some (.int 1), some (.int t3), none], [.int 1, .int (t2 - (((t2 * 10) / 100) / 1)), .int ((mz_z m) 50 1)], mz_up (mz_up (mz_up (mz_up (mz_z m) 50 2 t1) 50 3 t2) 50 2 (t1 - (((t1 * 10) / 100) / 1))) 50 3 (t2 - (((t2 * 10) / 100) / 1)))) rfl ?_
          refine mz_do (R := mz_r123) (as := [.int (t2 - (((t2 * 10) / 100) / 1)), .int 1]) (rest := [.int ((mz_z m) 50 1)]) (r1 := some (.int ((t2 - (((t2 * 10) / 100) / 1)) / 1))) (m1 := mz_up (mz_up (mz_up (mz_up (mz_z m) 50 2 t1) 50 3 t2) 50 2 (t1 - (((t1 * 10) / 100) / 1))) 50 3 (t2 - (((t2 * 10) / 100) / 1))) rfl ⟨?_, rfl⟩ ?_
          · refine mz_go 5 (c' := (11, [some (.int (t2 - (((t2 * 10) / 100) / 1))), some (.int 1)], [.int ((t2 - (((t2 * 10) / 100) / 1)) / 1)], mz_up (mz_up (mz_up (mz_up (mz_z m) 50 2 t1) 50 3 t2) 50 2 (t1 - (((t1 * 10) / 100) / 1))) 50 3 (t2 - (((t2 * 10) / 100) / 1)))) rfl ?_
            exact mz_ret rfl
          refine mz_go 6 (c' := (36, [some (.ref 50), some (.int 1), some (.int t3), some (.int t4)], [.int 1600, .int (-1600), .int t3, .ref 50], mz_up (mz_up (mz_up (mz_up (mz_z m) 50 2 t1) 50 3 t2) 50 2 (t1 - (((t1 * 10) / 100) / 1))) 50 3 (t2 - (((t2 * 10) / 100) / 1)))) rfl ?_
          refine mz_do (R := mz_r122) (as := [.int t3, .int (-1600), .int 1600]) (rest := [.ref 50]) (r1 := some (.int t5)) (m1 := mz_up (mz_up (mz_up (mz_up (mz_z m) 50 2 t1) 50 3 t2) 50 2 (t1 - (((t1 * 10) / 100) / 1))) 50 3 (t2 - (((t2 * 10) / 100) / 1))) rfl ⟨?_, rfl⟩ ?_
          · refine mz_go 5 (c' := (9, [some (.int t3), some (.int (-1600)), some (.int 1600)], [.int t5], mz_up (mz_up (mz_up (mz_up (mz_z m) 50 2 t1) 50 3 t2) 50 2 (t1 - (((t1 * 10) / 100) / 1))) 50 3 (t2 - (((t2 * 10) / 100) / 1)))) rfl ?_
            exact mz_ret rfl
          refine mz_go 5 (c' := (50, [some (.ref 50), some (.int 1), some (.int t3), some (.int t4)], [.int 1600, .int (-1600), .int t4, .ref 50], mz_up (mz_up (mz_up (mz_up (mz_up (mz_z m) 50 2 t1) 50 3 t2) 50 2 (t1 - (((t1 * 10) / 100) / 1))) 50 3 (t2 - (((t2 * 10) / 100) / 1))) 50 0 t5)) rfl ?_
          refine mz_do (R := mz_r122) (as := [.int t4, .int (-1600), .int 1600]) (rest := [.ref 50]) (r1 := some (.int t6)) (m1 := mz_up (mz_up (mz_up (mz_up (mz_up (mz_z m) 50 2 t1) 50 3 t2) 50 2 (t1 - (((t1 * 10) / 100) / 1))) 50 3 (t2 - (((t2 * 10) / 100) / 1))) 50 0 t5) rfl ⟨?_, rfl⟩ ?_
          · refine mz_go 5 (c' := (9, [some (.int t4), some (.int (-1600)), some (.int 1600)], [.int t6], mz_up (mz_up (mz_up (mz_up (mz_up (mz_z m) 50 2 t1) 50 3 t2) 50 2 (t1 - (((t1 * 10) / 100) / 1))) 50 3 (t2 - (((t2 * 10) / 100) / 1))) 50 0 t5)) rfl ?_
            exact mz_ret rfl
          refine mz_go 5 (c' := (if t5 = t3 then 69 else 64, [some (.ref 50), some (.int 1), some (.int t3), some (.int t4)], [], mz_up (mz_up (mz_up (mz_up (mz_up (mz_up (mz_z m) 50 2 t1) 50 3 t2) 50 2 (t1 - (((t1 * 10) / 100) / 1))) 50 3 (t2 - (((t2 * 10) / 100) / 1))) 50 0 t5) 50 1 t6)) rfl ?_
          refine mz_ifT h1 ?_
          refine mz_go 4 (c' := (if t6 = t4 then 82 else 77, [some (.ref 50), some (.int 1), some (.int t3), some (.int t4)], [], mz_up (mz_up (mz_up (mz_up (mz_up (mz_up (mz_z m) 50 2 t1) 50 3 t2) 50 2 (t1 - (((t1 * 10) / 100) / 1))) 50 3 (t2 - (((t2 * 10) / 100) / 1))) 50 0 t5) 50 1 t6)) rfl ?_
          refine mz_ifF h2 ?_
          refine mz_go 3 (c' := (82, [some (.ref 50), some (.int 1), some (.int t3), some (.int t4)], [], mz_up (mz_up (mz_up (mz_up (mz_up (mz_up (mz_up (mz_z m) 50 2 t1) 50 3 t2) 50 2 (t1 - (((t1 * 10) / 100) / 1))) 50 3 (t2 - (((t2 * 10) / 100) / 1))) 50 0 t5) 50 1 t6) 50 3 0)) rfl ?_
          exact mz_ret rfl
        refine mz_go 6 (c' := (297, [some (.ref 49), some (.ref 50), some (.int 1), some (.int 1), some (.ref 2), some (.int 5), some (.int 10), none, none, none], [], mz_up (mz_up (mz_up (mz_up (mz_up (mz_up (mz_up (mz_up (mz_z m) 50 2 t1) 50 3 t2) 50 2 (t1 - (((t1 * 10) / 100) / 1))) 50 3 (t2 - (((t2 * 10) / 100) / 1))) 50 0 t5) 50 1 t6) 50 3 0) 50 4 (((mz_z m) 50 4) + 1))) rfl ?_
        exact mz_ret rfl
  · by_cases h3 : t6 = t4
    · refine ⟨mz_up (mz_up (mz_up (mz_up (mz_up (mz_up (mz_up (mz_up (mz_z m) 50 2 t1) 50 3 t2) 50 2 (t1 - (((t1 * 10) / 100) / 1))) 50 3 (t2 - (((t2 * 10) / 100) / 1))) 50 0 t5) 50 1 t6) 50 2 0) 50 4 (((mz_z m) 50 4) + 1), fun i hi => by simp only [mz_up_ne hi], rfl, ⟨?_, rfl⟩⟩
      · refine mz_go 12 (c' := (22, [some (.ref 49), some (.ref 50), some (.int 1), some (.int 1), some (.ref 2), some (.int 0), none, none, none, none], [.int 0, .ref 2], (mz_z m))) rfl ?_
        refine mz_do (R := mz_r21) (as := [.ref 2, .int 0]) (rest := []) (r1 := some (.int 0)) (m1 := (mz_z m)) rfl ⟨?_, rfl⟩ ?_
        · refine mz_go 7 (c' := (23, [some (.ref 2), some (.int 0)], [.int 0], (mz_z m))) rfl ?_
          exact mz_ret rfl
        refine mz_go 24 (c' := (217, [some (.ref 49), some (.ref 50), some (.int 1), some (.int 1), some (.ref 2), some (.int 5), none, none, none, none], [.ref 50, .int ((mz_z m) 50 3), .ref 50], mz_up (mz_z m) 50 2 t1)) rfl ?_
        refine mz_go 11 (c' := (235, [some (.ref 49), some (.ref 50), some (.int 1), some (.int 1), some (.ref 2), some (.int 5), none, none, none, none], [.ref 50, .ref 49], mz_up (mz_up (mz_z m) 50 2 t1) 50 3 t2)) rfl ?_
        refine mz_do (R := mz_r43) (as := [.ref 49, .ref 50]) (rest := []) (r1 := some (.int 10)) (m1 := mz_up (mz_up (mz_z m) 50 2 t1) 50 3 t2) rfl ⟨?_, rfl⟩ ?_
        · refine mz_go 10 (c' := (22, [some (.ref 49), some (.ref 50), none], [.int 10], mz_up (mz_up (mz_z m) 50 2 t1) 50 3 t2)) rfl ?_
          exact mz_ret rfl
        refine mz_go 24 (c' := (277, [some (.ref 49), some (.ref 50), some (.int 1), some (.int 1), some (.ref 2), some (.int 5), some (.int 10), none, none, none], [.int 1, .int ((t2 * 10) / 100), .int t2, .ref 50], mz_up (mz_up (mz_up (mz_z m) 50 2 t1) 50 3 t2) 50 2 (t1 - (((t1 * 10) / 100) / 1)))) rfl ?_
        refine mz_go 5 (c' := (284, [some (.ref 49), some (.ref 50), some (.int 1), some (.int 1), some (.ref 2), some (.int 5), some (.int 10), none, none, none], [.int 1, .ref 50], mz_up (mz_up (mz_up (mz_up (mz_z m) 50 2 t1) 50 3 t2) 50 2 (t1 - (((t1 * 10) / 100) / 1))) 50 3 (t2 - (((t2 * 10) / 100) / 1)))) rfl ?_
        refine mz_do (R := mz_r39) (as := [.ref 50, .int 1]) (rest := []) (r1 := none) (m1 := mz_up (mz_up (mz_up (mz_up (mz_up (mz_up (mz_up (mz_z m) 50 2 t1) 50 3 t2) 50 2 (t1 - (((t1 * 10) / 100) / 1))) 50 3 (t2 - (((t2 * 10) / 100) / 1))) 50 0 t5) 50 1 t6) 50 2 0) rfl ⟨?_, rfl⟩ ?_
        · refine mz_go 5 (c' := (9, [some (.ref 50), some (.int 1), none, none], [.int 1, .int (t1 - (((t1 * 10) / 100) / 1)), .int ((mz_z m) 50 0)], mz_up (mz_up (mz_up (mz_up (mz_z m) 50 2 t1) 50 3 t2) 50 2 (t1 - (((t1 * 10) / 100) / 1))) 50 3 (t2 - (((t2 * 10) / 100) / 1)))) rfl ?_
          refine mz_do (R := mz_r123) (as := [.int (t1 - (((t1 * 10) / 100) / 1)), .int 1]) (rest := [.int ((mz_z m) 50 0)]) (r1 := some (.int ((t1 - (((t1 * 10) / 100) / 1)) / 1))) (m1 := mz_up (mz_up (mz_up (mz_up (mz_z m) 50 2 t1) 50 3 t2) 50 2 (t1 - (((t1 * 10) / 100) / 1))) 50 3 (t2 - (((t2 * 10) / 100) / 1))) rfl ⟨?_, rfl⟩ ?_
          · refine mz_go 5 (c' := (11, [some (.int (t1 - (((t1 * 10) / 100) / 1))), some (.int 1)], [.int ((t1 - (((t1 * 10) / 100) / 1)) / 1)], mz_up (mz_up (mz_up (mz_up (mz_z m) 50 2 t1) 50 3 t2) 50 2 (t1 - (((t1 * 10) / 100) / 1))) 50 3 (t2 - (((t2 * 10) / 100) / 1)))) rfl ?_
            exact mz_ret rfl
          refine mz_go 7 (c' := (23, [some (.ref 50), some (.int 1), some (.int t3), none], [.int 1, .int (t2 - (((t2 * 10) / 100) / 1)), .int ((mz_z m) 50 1)], mz_up (mz_up (mz_up (mz_up (mz_z m) 50 2 t1) 50 3 t2) 50 2 (t1 - (((t1 * 10) / 100) / 1))) 50 3 (t2 - (((t2 * 10) / 100) / 1)))) rfl ?_
          refine mz_do (R := mz_r123) (as := [.int (t2 - (((t2 * 10) / 100) / 1)), .int 1]) (rest := [.int ((mz_z m) 50 1)]) (r1 := some (.int ((t2 - (((t2 * 10) / 100) / 1)) / 1))) (m1 := mz_up (mz_up (mz_up (mz_up (mz_z m) 50 2 t1) 50 3 t2) 50 2 (t1 - (((t1 * 10) / 100) / 1))) 50 3 (t2 - (((t2 * 10) / 100) / 1))) rfl ⟨?_, rfl⟩ ?_
          · refine mz_go 5 (c' := (11, [some (.int (t2 - (((t2 * 10) / 100) / 1))), some (.int 1)], [.int ((t2 - (((t2 * 10) / 100) / 1)) / 1)], mz_up (mz_up (mz_up (mz_up (mz_z m) 50 2 t1) 50 3 t2) 50 2 (t1 - (((t1 * 10) / 100) / 1))) 50 3 (t2 - (((t2 * 10) / 100) / 1)))) rfl ?_
            exact mz_ret rfl
          refine mz_go 6 (c' := (36, [some (.ref 50), some (.int 1), some (.int t3), some (.int t4)], [.int 1600, .int (-1600), .int t3, .ref 50], mz_up (mz_up (mz_up (mz_up (mz_z m) 50 2 t1) 50 3 t2) 50 2 (t1 - (((t1 * 10) / 100) / 1))) 50 3 (t2 - (((t2 * 10) / 100) / 1)))) rfl ?_
          refine mz_do (R := mz_r122) (as := [.int t3, .int (-1600), .int 1600]) (rest := [.ref 50]) (r1 := some (.int t5)) (m1 := mz_up (mz_up (mz_up (mz_up (mz_z m) 50 2 t1) 50 3 t2) 50 2 (t1 - (((t1 * 10) / 100) / 1))) 50 3 (t2 - (((t2 * 10) / 100) / 1))) rfl ⟨?_, rfl⟩ ?_
          · refine mz_go 5 (c' := (9, [some (.int t3), some (.int (-1600)), some (.int 1600)], [.int t5], mz_up (mz_up (mz_up (mz_up (mz_z m) 50 2 t1) 50 3 t2) 50 2 (t1 - (((t1 * 10) / 100) / 1))) 50 3 (t2 - (((t2 * 10) / 100) / 1)))) rfl ?_
            exact mz_ret rfl
          refine mz_go 5 (c' := (50, [some (.ref 50), some (.int 1), some (.int t3), some (.int t4)], [.int 1600, .int (-1600), .int t4, .ref 50], mz_up (mz_up (mz_up (mz_up (mz_up (mz_z m) 50 2 t1) 50 3 t2) 50 2 (t1 - (((t1 * 10) / 100) / 1))) 50 3 (t2 - (((t2 * 10) / 100) / 1))) 50 0 t5)) rfl ?_
          refine mz_do (R := mz_r122) (as := [.int t4, .int (-1600), .int 1600]) (rest := [.ref 50]) (r1 := some (.int t6)) (m1 := mz_up (mz_up (mz_up (mz_up (mz_up (mz_z m) 50 2 t1) 50 3 t2) 50 2 (t1 - (((t1 * 10) / 100) / 1))) 50 3 (t2 - (((t2 * 10) / 100) / 1))) 50 0 t5) rfl ⟨?_, rfl⟩ ?_
          · refine mz_go 5 (c' := (9, [some (.int t4), some (.int (-1600)), some (.int 1600)], [.int t6], mz_up (mz_up (mz_up (mz_up (mz_up (mz_z m) 50 2 t1) 50 3 t2) 50 2 (t1 - (((t1 * 10) / 100) / 1))) 50 3 (t2 - (((t2 * 10) / 100) / 1))) 50 0 t5)) rfl ?_
            exact mz_ret rfl
          refine mz_go 5 (c' := (if t5 = t3 then 69 else 64, [some (.ref 50), some (.int 1), some (.int t3), some (.int t4)], [], mz_up (mz_up (mz_up (mz_up (mz_up (mz_up (mz_z m) 50 2 t1) 50 3 t2) 50 2 (t1 - (((t1 * 10) / 100) / 1))) 50 3 (t2 - (((t2 * 10) / 100) / 1))) 50 0 t5) 50 1 t6)) rfl ?_
          refine mz_ifF h1 ?_
          refine mz_go 7 (c' := (if t6 = t4 then 82 else 77, [some (.ref 50), some (.int 1), some (.int t3), some (.int t4)], [], mz_up (mz_up (mz_up (mz_up (mz_up (mz_up (mz_up (mz_z m) 50 2 t1) 50 3 t2) 50 2 (t1 - (((t1 * 10) / 100) / 1))) 50 3 (t2 - (((t2 * 10) / 100) / 1))) 50 0 t5) 50 1 t6) 50 2 0)) rfl ?_
          refine mz_ifT h3 ?_
          exact mz_ret rfl
        refine mz_go 6 (c' := (297, [some (.ref 49), some (.ref 50), some (.int 1), some (.int 1), some (.ref 2), some (.int 5), some (.int 10), none, none, none], [], mz_up (mz_up (mz_up (mz_up (mz_up (mz_up (mz_up (mz_up (mz_z m) 50 2 t1) 50 3 t2) 50 2 (t1 - (((t1 * 10) / 100) / 1))) 50 3 (t2 - (((t2 * 10) / 100) / 1))) 50 0 t5) 50 1 t6) 50 2 0) 50 4 (((mz_z m) 50 4) + 1))) rfl ?_
        exact mz_ret rfl
    · refine ⟨mz_up (mz_up (mz_up (mz_up (mz_up (mz_up (mz_up (mz_up (mz_up (mz_z m) 50 2 t1) 50 3 t2) 50 2 (t1 - (((t1 * 10) / 100) / 1))) 50 3 (t2 - (((t2 * 10) / 100) / 1))) 50 0 t5) 50 1 t6) 50 2 0) 50 3 0) 50 4 (((mz_z m) 50 4) + 1), fun i hi => by simp only [mz_up_ne hi], rfl, ⟨?_, rfl⟩⟩
      · refine mz_go 12 (c' := (22, [some (.ref 49), some (.ref 50), some (.int 1), some (.int 1), some (.ref 2), some (.int 0), none, none, none, none], [.int 0, .ref 2], (mz_z m))) rfl ?_
        refine mz_do (R := mz_r21) (as := [.ref 2, .int 0]) (rest := []) (r1 := some (.int 0)) (m1 := (mz_z m)) rfl ⟨?_, rfl⟩ ?_
        · refine mz_go 7 (c' := (23, [some (.ref 2), some (.int 0)], [.int 0], (mz_z m))) rfl ?_
          exact mz_ret rfl
        refine mz_go 24 (c' := (217, [some (.ref 49), some (.ref 50), some (.int 1), some (.int 1), some (.ref 2), some (.int 5), none, none, none, none], [.ref 50, .int ((mz_z m) 50 3), .ref 50], mz_up (mz_z m) 50 2 t1)) rfl ?_
        refine mz_go 11 (c' := (235, [some (.ref 49), some (.ref 50), some (.int 1), some (.int 1), some (.ref 2), some (.int 5), none, none, none, none], [.ref 50, .ref 49], mz_up (mz_up (mz_z m) 50 2 t1) 50 3 t2)) rfl ?_
        refine mz_do (R := mz_r43) (as := [.ref 49, .ref 50]) (rest := []) (r1 := some (.int 10)) (m1 := mz_up (mz_up (mz_z m) 50 2 t1) 50 3 t2) rfl ⟨?_, rfl⟩ ?_
        · refine mz_go 10 (c' := (22, [some (.ref 49), some (.ref 50), none], [.int 10], mz_up (mz_up (mz_z m) 50 2 t1) 50 3 t2)) rfl ?_
          exact mz_ret rfl
        refine mz_go 24 (c' := (277, [some (.ref 49), some (.ref 50), some (.int 1), some (.int 1), some (.ref 2), some (.int 5), some (.int 10), none, none, none], [.int 1, .int ((t2 * 10) / 100), .int t2, .ref 50], mz_up (mz_up (mz_up (mz_z m) 50 2 t1) 50 3 t2) 50 2 (t1 - (((t1 * 10) / 100) / 1)))) rfl ?_
        refine mz_go 5 (c' := (284, [some (.ref 49), some (.ref 50), some (.int 1), some (.int 1), some (.ref 2), some (.int 5), some (.int 10), none, none, none], [.int 1, .ref 50], mz_up (mz_up (mz_up (mz_up (mz_z m) 50 2 t1) 50 3 t2) 50 2 (t1 - (((t1 * 10) / 100) / 1))) 50 3 (t2 - (((t2 * 10) / 100) / 1)))) rfl ?_
        refine mz_do (R := mz_r39) (as := [.ref 50, .int 1]) (rest := []) (r1 := none) (m1 := mz_up (mz_up (mz_up (mz_up (mz_up (mz_up (mz_up (mz_up (mz_z m) 50 2 t1) 50 3 t2) 50 2 (t1 - (((t1 * 10) / 100) / 1))) 50 3 (t2 - (((t2 * 10) / 100) / 1))) 50 0 t5) 50 1 t6) 50 2 0) 50 3 0) rfl ⟨?_, rfl⟩ ?_
        · refine mz_go 5 (c' := (9, [some (.ref 50), some (.int 1), none, none], [.int 1, .int (t1 - (((t1 * 10) / 100) / 1)), .int ((mz_z m) 50 0)], mz_up (mz_up (mz_up (mz_up (mz_z m) 50 2 t1) 50 3 t2) 50 2 (t1 - (((t1 * 10) / 100) / 1))) 50 3 (t2 - (((t2 * 10) / 100) / 1)))) rfl ?_
          refine mz_do (R := mz_r123) (as := [.int (t1 - (((t1 * 10) / 100) / 1)), .int 1]) (rest := [.int ((mz_z m) 50 0)]) (r1 := some (.int ((t1 - (((t1 * 10) / 100) / 1)) / 1))) (m1 := mz_up (mz_up (mz_up (mz_up (mz_z m) 50 2 t1) 50 3 t2) 50 2 (t1 - (((t1 * 10) / 100) / 1))) 50 3 (t2 - (((t2 * 10) / 100) / 1))) rfl ⟨?_, rfl⟩ ?_
          · refine mz_go 5 (c' := (11, [some (.int (t1 - (((t1 * 10) / 100) / 1))), some (.int 1)], [.int ((t1 - (((t1 * 10) / 100) / 1)) / 1)], mz_up (mz_up (mz_up (mz_up (mz_z m) 50 2 t1) 50 3 t2) 50 2 (t1 - (((t1 * 10) / 100) / 1))) 50 3 (t2 - (((t2 * 10) / 100) / 1)))) rfl ?_
            exact mz_ret rfl
          refine mz_go 7 (c' := (23, [some (.ref 50), some (.int 1), some (.int t3), none], [.int 1, .int (t2 - (((t2 * 10) / 100) / 1)), .int ((mz_z m) 50 1)], mz_up (mz_up (mz_up (mz_up (mz_z m) 50 2 t1) 50 3 t2) 50 2 (t1 - (((t1 * 10) / 100) / 1))) 50 3 (t2 - (((t2 * 10) / 100) / 1)))) rfl ?_
          refine mz_do (R := mz_r123) (as := [.int (t2 - (((t2 * 10) / 100) / 1)), .int 1]) (rest := [.int ((mz_z m) 50 1)]) (r1 := some (.int ((t2 - (((t2 * 10) / 100) / 1)) / 1))) (m1 := mz_up (mz_up (mz_up (mz_up (mz_z m) 50 2 t1) 50 3 t2) 50 2 (t1 - (((t1 * 10) / 100) / 1))) 50 3 (t2 - (((t2 * 10) / 100) / 1))) rfl ⟨?_, rfl⟩ ?_
          · refine mz_go 5 (c' := (11, [some (.int (t2 - (((t2 * 10) / 100) / 1))), some (.int 1)], [.int ((t2 - (((t2 * 10) / 100) / 1)) / 1)], mz_up (mz_up (mz_up (mz_up (mz_z m) 50 2 t1) 50 3 t2) 50 2 (t1 - (((t1 * 10) / 100) / 1))) 50 3 (t2 - (((t2 * 10) / 100) / 1)))) rfl ?_
            exact mz_ret rfl
          refine mz_go 6 (c' := (36, [some (.ref 50), some (.int 1), some (.int t3), some (.int t4)], [.int 1600, .int (-1600), .int t3, .ref 50], mz_up (mz_up (mz_up (mz_up (mz_z m) 50 2 t1) 50 3 t2) 50 2 (t1 - (((t1 * 10) / 100) / 1))) 50 3 (t2 - (((t2 * 10) / 100) / 1)))) rfl ?_
          refine mz_do (R := mz_r122) (as := [.int t3, .int (-1600), .int 1600]) (rest := [.ref 50]) (r1 := some (.int t5)) (m1 := mz_up (mz_up (mz_up (mz_up (mz_z m) 50 2 t1) 50 3 t2) 50 2 (t1 - (((t1 * 10) / 100) / 1))) 50 3 (t2 - (((t2 * 10) / 100) / 1))) rfl ⟨?_, rfl⟩ ?_
          · refine mz_go 5 (c' := (9, [some (.int t3), some (.int (-1600)), some (.int 1600)], [.int t5], mz_up (mz_up (mz_up (mz_up (mz_z m) 50 2 t1) 50 3 t2) 50 2 (t1 - (((t1 * 10) / 100) / 1))) 50 3 (t2 - (((t2 * 10) / 100) / 1)))) rfl ?_
            exact mz_ret rfl
          refine mz_go 5 (c' := (50, [some (.ref 50), some (.int 1), some (.int t3), some (.int t4)], [.int 1600, .int (-1600), .int t4, .ref 50], mz_up (mz_up (mz_up (mz_up (mz_up (mz_z m) 50 2 t1) 50 3 t2) 50 2 (t1 - (((t1 * 10) / 100) / 1))) 50 3 (t2 - (((t2 * 10) / 100) / 1))) 50 0 t5)) rfl ?_
          refine mz_do (R := mz_r122) (as := [.int t4, .int (-1600), .int 1600]) (rest := [.ref 50]) (r1 := some (.int t6)) (m1 := mz_up (mz_up (mz_up (mz_up (mz_up (mz_z m) 50 2 t1) 50 3 t2) 50 2 (t1 - (((t1 * 10) / 100) / 1))) 50 3 (t2 - (((t2 * 10) / 100) / 1))) 50 0 t5) rfl ⟨?_, rfl⟩ ?_
          · refine mz_go 5 (c' := (9, [some (.int t4), some (.int (-1600)), some (.int 1600)], [.int t6], mz_up (mz_up (mz_up (mz_up (mz_up (mz_z m) 50 2 t1) 50 3 t2) 50 2 (t1 - (((t1 * 10) / 100) / 1))) 50 3 (t2 - (((t2 * 10) / 100) / 1))) 50 0 t5)) rfl ?_
            exact mz_ret rfl
          refine mz_go 5 (c' := (if t5 = t3 then 69 else 64, [some (.ref 50), some (.int 1), some (.int t3), some (.int t4)], [], mz_up (mz_up (mz_up (mz_up (mz_up (mz_up (mz_z m) 50 2 t1) 50 3 t2) 50 2 (t1 - (((t1 * 10) / 100) / 1))) 50 3 (t2 - (((t2 * 10) / 100) / 1))) 50 0 t5) 50 1 t6)) rfl ?_
          refine mz_ifF h1 ?_
          refine mz_go 7 (c' := (if t6 = t4 then 82 else 77, [some (.ref 50), some (.int 1), some (.int t3), some (.int t4)], [], mz_up (mz_up (mz_up (mz_up (mz_up (mz_up (mz_up (mz_z m) 50 2 t1) 50 3 t2) 50 2 (t1 - (((t1 * 10) / 100) / 1))) 50 3 (t2 - (((t2 * 10) / 100) / 1))) 50 0 t5) 50 1 t6) 50 2 0)) rfl ?_
          refine mz_ifF h3 ?_
          refine mz_go 3 (c' := (82, [some (.ref 50), some (.int 1), some (.int t3), some (.int t4)], [], mz_up (mz_up (mz_up (mz_up (mz_up (mz_up (mz_up (mz_up (mz_z m) 50 2 t1) 50 3 t2) 50 2 (t1 - (((t1 * 10) / 100) / 1))) 50 3 (t2 - (((t2 * 10) / 100) / 1))) 50 0 t5) 50 1 t6) 50 2 0) 50 3 0)) rfl ?_
          exact mz_ret rfl
        refine mz_go 6 (c' := (297, [some (.ref 49), some (.ref 50), some (.int 1), some (.int 1), some (.ref 2), some (.int 5), some (.int 10), none, none, none], [], mz_up (mz_up (mz_up (mz_up (mz_up (mz_up (mz_up (mz_up (mz_up (mz_z m) 50 2 t1) 50 3 t2) 50 2 (t1 - (((t1 * 10) / 100) / 1))) 50 3 (t2 - (((t2 * 10) / 100) / 1))) 50 0 t5) 50 1 t6) 50 2 0) 50 3 0) 50 4 (((mz_z m) 50 4) + 1))) rfl ?_
        exact mz_ret rfl
set_option maxHeartbeats 4000000 in
set_option maxRecDepth 100000 in
theorem cz_step_50_2 (m : mz_M) : ∃ m', (∀ i, i ≠ 50 → m' i = mz_z m i) ∧ m' 50 4 = mz_z m 50 4 + 1 ∧ mz_Me 50 mz_r38 [.ref 49, .ref 50, .int 2] (mz_z m) none m' := by
  let t1 : Int32 := ((mz_z m) 50 2) - (((((mz_z m) 50 0) * 5) / 1600) / 2)
  let t2 : Int32 := ((mz_z m) 50 3) - (((((mz_z m) 50 1) * 5) / 1600) / 2)
  let t3 : Int32 := ((mz_z m) 50 0) + ((t1 - (((t1 * 10) / 100) / 2)) / 2)
  let t4 : Int32 := ((mz_z m) 50 1) + ((t2 - (((t2 * 10) / 100) / 2)) / 2)
  let t5 : Int32 := if (-1600) < (if t3 < 1600 then t3 else 1600) then (if t3 < 1600 then t3 else 1600) else (-1600)
  let t6 : Int32 := if (-1600) < (if t4 < 1600 then t4 else 1600) then (if t4 < 1600 then t4 else 1600) else (-1600)
  by_cases h1 : t5 = t3
  · by_cases h2 : t6 = t4
    · refine ⟨mz_up (mz_up (mz_up (mz_up (mz_up (mz_up (mz_up (mz_z m) 50 2 t1) 50 3 t2) 50 2 (t1 - (((t1 * 10) / 100) / 2))) 50 3 (t2 - (((t2 * 10) / 100) / 2))) 50 0 t5) 50 1 t6) 50 4 (((mz_z m) 50 4) + 1), fun i hi => by simp only [mz_up_ne hi], rfl, ⟨?_, rfl⟩⟩
      · refine mz_go 12 (c' := (22, [some (.ref 49), some (.ref 50), some (.int 2), some (.int 2), some (.ref 2), some (.int 0), none, none, none, none], [.int 0, .ref 2], (mz_z m))) rfl ?_
        refine mz_do (R := mz_r21) (as := [.ref 2, .int 0]) (rest := []) (r1 := some (.int 0)) (m1 := (mz_z m)) rfl ⟨?_, rfl⟩ ?_
        · refine mz_go 7 (c' := (23, [some (.ref 2), some (.int 0)], [.int 0], (mz_z m))) rfl ?_
          exact mz_ret rfl
        refine mz_go 24 (c' := (217, [some (.ref 49), some (.ref 50), some (.int 2), some (.int 2), some (.ref 2), some (.int 5), none, none, none, none], [.ref 50, .int ((mz_z m) 50 3), .ref 50], mz_up (mz_z m) 50 2 t1)) rfl ?_
        refine mz_go 11 (c' := (235, [some (.ref 49), some (.ref 50), some (.int 2), some (.int 2), some (.ref 2), some (.int 5), none, none, none, none], [.ref 50, .ref 49], mz_up (mz_up (mz_z m) 50 2 t1) 50 3 t2)) rfl ?_
        refine mz_do (R := mz_r43) (as := [.ref 49, .ref 50]) (rest := []) (r1 := some (.int 10)) (m1 := mz_up (mz_up (mz_z m) 50 2 t1) 50 3 t2) rfl ⟨?_, rfl⟩ ?_
        · refine mz_go 10 (c' := (22, [some (.ref 49), some (.ref 50), none], [.int 10], mz_up (mz_up (mz_z m) 50 2 t1) 50 3 t2)) rfl ?_
          exact mz_ret rfl
        refine mz_go 24 (c' := (277, [some (.ref 49), some (.ref 50), some (.int 2), some (.int 2), some (.ref 2), some (.int 5), some (.int 10), none, none, none], [.int 2, .int ((t2 * 10) / 100), .int t2, .ref 50], mz_up (mz_up (mz_up (mz_z m) 50 2 t1) 50 3 t2) 50 2 (t1 - (((t1 * 10) / 100) / 2)))) rfl ?_
        refine mz_go 5 (c' := (284, [some (.ref 49), some (.ref 50), some (.int 2), some (.int 2), some (.ref 2), some (.int 5), some (.int 10), none, none, none], [.int 2, .ref 50], mz_up (mz_up (mz_up (mz_up (mz_z m) 50 2 t1) 50 3 t2) 50 2 (t1 - (((t1 * 10) / 100) / 2))) 50 3 (t2 - (((t2 * 10) / 100) / 2)))) rfl ?_
        refine mz_do (R := mz_r39) (as := [.ref 50, .int 2]) (rest := []) (r1 := none) (m1 := mz_up (mz_up (mz_up (mz_up (mz_up (mz_up (mz_z m) 50 2 t1) 50 3 t2) 50 2 (t1 - (((t1 * 10) / 100) / 2))) 50 3 (t2 - (((t2 * 10) / 100) / 2))) 50 0 t5) 50 1 t6) rfl ⟨?_, rfl⟩ ?_
        · refine mz_go 5 (c' := (9, [some (.ref 50), some (.int 2), none, none], [.int 2, .int (t1 - (((t1 * 10) / 100) / 2)), .int ((mz_z m) 50 0)], mz_up (mz_up (mz_up (mz_up (mz_z m) 50 2 t1) 50 3 t2) 50 2 (t1 - (((t1 * 10) / 100) / 2))) 50 3 (t2 - (((t2 * 10) / 100) / 2)))) rfl ?_
          refine mz_do (R := mz_r123) (as := [.int (t1 - (((t1 * 10) / 100) / 2)), .int 2]) (rest := [.int ((mz_z m) 50 0)]) (r1 := some (.int ((t1 - (((t1 * 10) / 100) / 2)) / 2))) (m1 := mz_up (mz_up (mz_up (mz_up (mz_z m) 50 2 t1) 50 3 t2) 50 2 (t1 - (((t1 * 10) / 100) / 2))) 50 3 (t2 - (((t2 * 10) / 100) / 2))) rfl ⟨?_, rfl⟩ ?_
          · refine mz_go 5 (c' := (11, [some (.int (t1 - (((t1 * 10) / 100) / 2))), some (.int 2)], [.int ((t1 - (((t1 * 10) / 100) / 2)) / 2)], mz_up (mz_up (mz_up (mz_up (mz_z m) 50 2 t1) 50 3 t2) 50 2 (t1 - (((t1 * 10) / 100) / 2))) 50 3 (t2 - (((t2 * 10) / 100) / 2)))) rfl ?_
            exact mz_ret rfl
          refine mz_go 7 (c' := (23, [some (.ref 50), some (.int 2), some (.int t3), none], [.int 2, .int (t2 - (((t2 * 10) / 100) / 2)), .int ((mz_z m) 50 1)], mz_up (mz_up (mz_up (mz_up (mz_z m) 50 2 t1) 50 3 t2) 50 2 (t1 - (((t1 * 10) / 100) / 2))) 50 3 (t2 - (((t2 * 10) / 100) / 2)))) rfl ?_
          refine mz_do (R := mz_r123) (as := [.int (t2 - (((t2 * 10) / 100) / 2)), .int 2]) (rest := [.int ((mz_z m) 50 1)]) (r1 := some (.int ((t2 - (((t2 * 10) / 100) / 2)) / 2))) (m1 := mz_up (mz_up (mz_up (mz_up (mz_z m) 50 2 t1) 50 3 t2) 50 2 (t1 - (((t1 * 10) / 100) / 2))) 50 3 (t2 - (((t2 * 10) / 100) / 2))) rfl ⟨?_, rfl⟩ ?_
          · refine mz_go 5 (c' := (11, [some (.int (t2 - (((t2 * 10) / 100) / 2))), some (.int 2)], [.int ((t2 - (((t2 * 10) / 100) / 2)) / 2)], mz_up (mz_up (mz_up (mz_up (mz_z m) 50 2 t1) 50 3 t2) 50 2 (t1 - (((t1 * 10) / 100) / 2))) 50 3 (t2 - (((t2 * 10) / 100) / 2)))) rfl ?_
            exact mz_ret rfl
          refine mz_go 6 (c' := (36, [some (.ref 50), some (.int 2), some (.int t3), some (.int t4)], [.int 1600, .int (-1600), .int t3, .ref 50], mz_up (mz_up (mz_up (mz_up (mz_z m) 50 2 t1) 50 3 t2) 50 2 (t1 - (((t1 * 10) / 100) / 2))) 50 3 (t2 - (((t2 * 10) / 100) / 2)))) rfl ?_
          refine mz_do (R := mz_r122) (as := [.int t3, .int (-1600), .int 1600]) (rest := [.ref 50]) (r1 := some (.int t5)) (m1 := mz_up (mz_up (mz_up (mz_up (mz_z m) 50 2 t1) 50 3 t2) 50 2 (t1 - (((t1 * 10) / 100) / 2))) 50 3 (t2 - (((t2 * 10) / 100) / 2))) rfl ⟨?_, rfl⟩ ?_
          · refine mz_go 5 (c' := (9, [some (.int t3), some (.int (-1600)), some (.int 1600)], [.int t5], mz_up (mz_up (mz_up (mz_up (mz_z m) 50 2 t1) 50 3 t2) 50 2 (t1 - (((t1 * 10) / 100) / 2))) 50 3 (t2 - (((t2 * 10) / 100) / 2)))) rfl ?_
            exact mz_ret rfl
          refine mz_go 5 (c' := (50, [some (.ref 50), some (.int 2), some (.int t3), some (.int t4)], [.int 1600, .int (-1600), .int t4, .ref 50], mz_up (mz_up (mz_up (mz_up (mz_up (mz_z m) 50 2 t1) 50 3 t2) 50 2 (t1 - (((t1 * 10) / 100) / 2))) 50 3 (t2 - (((t2 * 10) / 100) / 2))) 50 0 t5)) rfl ?_
          refine mz_do (R := mz_r122) (as := [.int t4, .int (-1600), .int 1600]) (rest := [.ref 50]) (r1 := some (.int t6)) (m1 := mz_up (mz_up (mz_up (mz_up (mz_up (mz_z m) 50 2 t1) 50 3 t2) 50 2 (t1 - (((t1 * 10) / 100) / 2))) 50 3 (t2 - (((t2 * 10) / 100) / 2))) 50 0 t5) rfl ⟨?_, rfl⟩ ?_
          · refine mz_go 5 (c' := (9, [some (.int t4), some (.int (-1600)), some (.int 1600)], [.int t6], mz_up (mz_up (mz_up (mz_up (mz_up (mz_z m) 50 2 t1) 50 3 t2) 50 2 (t1 - (((t1 * 10) / 100) / 2))) 50 3 (t2 - (((t2 * 10) / 100) / 2))) 50 0 t5)) rfl ?_
            exact mz_ret rfl
          refine mz_go 5 (c' := (if t5 = t3 then 69 else 64, [some (.ref 50), some (.int 2), some (.int t3), some (.int t4)], [], mz_up (mz_up (mz_up (mz_up (mz_up (mz_up (mz_z m) 50 2 t1) 50 3 t2) 50 2 (t1 - (((t1 * 10) / 100) / 2))) 50 3 (t2 - (((t2 * 10) / 100) / 2))) 50 0 t5) 50 1 t6)) rfl ?_
          refine mz_ifT h1 ?_
          refine mz_go 4 (c' := (if t6 = t4 then 82 else 77, [some (.ref 50), some (.int 2), some (.int t3), some (.int t4)], [], mz_up (mz_up (mz_up (mz_up (mz_up (mz_up (mz_z m) 50 2 t1) 50 3 t2) 50 2 (t1 - (((t1 * 10) / 100) / 2))) 50 3 (t2 - (((t2 * 10) / 100) / 2))) 50 0 t5) 50 1 t6)) rfl ?_
          refine mz_ifT h2 ?_
          exact mz_ret rfl
        refine mz_go 6 (c' := (297, [some (.ref 49), some (.ref 50), some (.int 2), some (.int 2), some (.ref 2), some (.int 5), some (.int 10), none, none, none], [], mz_up (mz_up (mz_up (mz_up (mz_up (mz_up (mz_up (mz_z m) 50 2 t1) 50 3 t2) 50 2 (t1 - (((t1 * 10) / 100) / 2))) 50 3 (t2 - (((t2 * 10) / 100) / 2))) 50 0 t5) 50 1 t6) 50 4 (((mz_z m) 50 4) + 1))) rfl ?_
        exact mz_ret rfl
    · refine ⟨mz_up (mz_up (mz_up (mz_up (mz_up (mz_up (mz_up (mz_up (mz_z m) 50 2 t1) 50 3 t2) 50 2 (t1 - (((t1 * 10) / 100) / 2))) 50 3 (t2 - (((t2 * 10) / 100) / 2))) 50 0 t5) 50 1 t6) 50 3 0) 50 4 (((mz_z m) 50 4) + 1), fun i hi => by simp only [mz_up_ne hi], rfl, ⟨?_, rfl⟩⟩
      · refine mz_go 12 (c' := (22, [some (.ref 49), some (.ref 50), some (.int 2), some (.int 2), some (.ref 2), some (.int 0), none, none, none, none], [.int 0, .ref 2], (mz_z m))) rfl ?_
        refine mz_do (R := mz_r21) (as := [.ref 2, .int 0]) (rest := []) (r1 := some (.int 0)) (m1 := (mz_z m)) rfl ⟨?_, rfl⟩ ?_
        · refine mz_go 7 (c' := (23, [some (.ref 2), some (.int 0)], [.int 0], (mz_z m))) rfl ?_
          exact mz_ret rfl
        refine mz_go 24 (c' := (217, [some (.ref 49), some (.ref 50), some (.int 2), some (.int 2), some (.ref 2), some (.int 5), none, none, none, none], [.ref 50, .int ((mz_z m) 50 3), .ref 50], mz_up (mz_z m) 50 2 t1)) rfl ?_
        refine mz_go 11 (c' := (235, [some (.ref 49), some (.ref 50), some (.int 2), some (.int 2), some (.ref 2), some (.int 5), none, none, none, none], [.ref 50, .ref 49], mz_up (mz_up (mz_z m) 50 2 t1) 50 3 t2)) rfl ?_
        refine mz_do (R := mz_r43) (as := [.ref 49, .ref 50]) (rest := []) (r1 := some (.int 10)) (m1 := mz_up (mz_up (mz_z m) 50 2 t1) 50 3 t2) rfl ⟨?_, rfl⟩ ?_
        · refine mz_go 10 (c' := (22, [some (.ref 49), some (.ref 50), none], [.int 10], mz_up (mz_up (mz_z m) 50 2 t1) 50 3 t2)) rfl ?_
          exact mz_ret rfl
        refine mz_go 24 (c' := (277, [some (.ref 49), some (.ref 50), some (.int 2), some (.int 2), some (.ref 2), some (.int 5), some (.int 10), none, none, none], [.int 2, .int ((t2 * 10) / 100), .int t2, .ref 50], mz_up (mz_up (mz_up (mz_z m) 50 2 t1) 50 3 t2) 50 2 (t1 - (((t1 * 10) / 100) / 2)))) rfl ?_
        refine mz_go 5 (c' := (284, [some (.ref 49), some (.ref 50), some (.int 2), some (.int 2), some (.ref 2), some (.int 5), some (.int 10), none, none, none], [.int 2, .ref 50], mz_up (mz_up (mz_up (mz_up (mz_z m) 50 2 t1) 50 3 t2) 50 2 (t1 - (((t1 * 10) / 100) / 2))) 50 3 (t2 - (((t2 * 10) / 100) / 2)))) rfl ?_
        refine mz_do (R := mz_r39) (as := [.ref 50, .int 2]) (rest := []) (r1 := none) (m1 := mz_up (mz_up (mz_up (mz_up (mz_up (mz_up (mz_up (mz_z m) 50 2 t1) 50 3 t2) 50 2 (t1 - (((t1 * 10) / 100) / 2))) 50 3 (t2 - (((t2 * 10) / 100) / 2))) 50 0 t5) 50 1 t6) 50 3 0) rfl ⟨?_, rfl⟩ ?_
        · refine mz_go 5 (c' := (9, [some (.ref 50), some (.int 2), none, none], [.int 2, .int (t1 - (((t1 * 10) / 100) / 2)), .int ((mz_z m) 50 0)], mz_up (mz_up (mz_up (mz_up (mz_z m) 50 2 t1) 50 3 t2) 50 2 (t1 - (((t1 * 10) / 100) / 2))) 50 3 (t2 - (((t2 * 10) / 100) / 2)))) rfl ?_
          refine mz_do (R := mz_r123) (as := [.int (t1 - (((t1 * 10) / 100) / 2)), .int 2]) (rest := [.int ((mz_z m) 50 0)]) (r1 := some (.int ((t1 - (((t1 * 10) / 100) / 2)) / 2))) (m1 := mz_up (mz_up (mz_up (mz_up (mz_z m) 50 2 t1) 50 3 t2) 50 2 (t1 - (((t1 * 10) / 100) / 2))) 50 3 (t2 - (((t2 * 10) / 100) / 2))) rfl ⟨?_, rfl⟩ ?_
          · refine mz_go 5 (c' := (11, [some (.int (t1 - (((t1 * 10) / 100) / 2))), some (.int 2)], [.int ((t1 - (((t1 * 10) / 100) / 2)) / 2)], mz_up (mz_up (mz_up (mz_up (mz_z m) 50 2 t1) 50 3 t2) 50 2 (t1 - (((t1 * 10) / 100) / 2))) 50 3 (t2 - (((t2 * 10) / 100) / 2)))) rfl ?_
            exact mz_ret rfl
          refine mz_go 7 (c' := (23, [some (.ref 50), some (.int 2), some (.int t3), none], [.int 2, .int (t2 - (((t2 * 10) / 100) / 2)), .int ((mz_z m) 50 1)], mz_up (mz_up (mz_up (mz_up (mz_z m) 50 2 t1) 50 3 t2) 50 2 (t1 - (((t1 * 10) / 100) / 2))) 50 3 (t2 - (((t2 * 10) / 100) / 2)))) rfl ?_
          refine mz_do (R := mz_r123) (as := [.int (t2 - (((t2 * 10) / 100) / 2)), .int 2]) (rest := [.int ((mz_z m) 50 1)]) (r1 := some (.int ((t2 - (((t2 * 10) / 100) / 2)) / 2))) (m1 := mz_up (mz_up (mz_up (mz_up (mz_z m) 50 2 t1) 50 3 t2) 50 2 (t1 - (((t1 * 10) / 100) / 2))) 50 3 (t2 - (((t2 * 10) / 100) / 2))) rfl ⟨?_, rfl⟩ ?_
          · refine mz_go 5 (c' := (11, [some (.int (t2 - (((t2 * 10) / 100) / 2))), some (.int 2)], [.int ((t2 - (((t2 * 10) / 100) / 2)) / 2)], mz_up (mz_up (mz_up (mz_up (mz_z m) 50 2 t1) 50 3 t2) 50 2 (t1 - (((t1 * 10) / 100) / 2))) 50 3 (t2 - (((t2 * 10) / 100) / 2)))) rfl ?_
            exact mz_ret rfl
          refine mz_go 6 (c' := (36, [some (.ref 50), some (.int 2), some (.int t3), some (.int t4)], [.int 1600, .int (-1600), .int t3, .ref 50], mz_up (mz_up (mz_up (mz_up (mz_z m) 50 2 t1) 50 3 t2) 50 2 (t1 - (((t1 * 10) / 100) / 2))) 50 3 (t2 - (((t2 * 10) / 100) / 2)))) rfl ?_
          refine mz_do (R := mz_r122) (as := [.int t3, .int (-1600), .int 1600]) (rest := [.ref 50]) (r1 := some (.int t5)) (m1 := mz_up (mz_up (mz_up (mz_up (mz_z m) 50 2 t1) 50 3 t2) 50 2 (t1 - (((t1 * 10) / 100) / 2))) 50 3 (t2 - (((t2 * 10) / 100) / 2))) rfl ⟨?_, rfl⟩ ?_
          · refine mz_go 5 (c' := (9, [some (.int t3), some (.int (-1600)), some (.int 1600)], [.int t5], mz_up (mz_up (mz_up (mz_up (mz_z m) 50 2 t1) 50 3 t2) 50 2 (t1 - (((t1 * 10) / 100) / 2))) 50 3 (t2 - (((t2 * 10) / 100) / 2)))) rfl ?_
            exact mz_ret rfl
          refine mz_go 5 (c' := (50, [some (.ref 50), some (.int 2), some (.int t3), some (.int t4)], [.int 1600, .int (-1600), .int t4, .ref 50], mz_up (mz_up (mz_up (mz_up (mz_up (mz_z m) 50 2 t1) 50 3 t2) 50 2 (t1 - (((t1 * 10) / 100) / 2))) 50 3 (t2 - (((t2 * 10) / 100) / 2))) 50 0 t5)) rfl ?_
          refine mz_do (R := mz_r122) (as := [.int t4, .int (-1600), .int 1600]) (rest := [.ref 50]) (r1 := some (.int t6)) (m1 := mz_up (mz_up (mz_up (mz_up (mz_up (mz_z m) 50 2 t1) 50 3 t2) 50 2 (t1 - (((t1 * 10) / 100) / 2))) 50 3 (t2 - (((t2 * 10) / 100) / 2))) 50 0 t5) rfl ⟨?_, rfl⟩ ?_
          · refine mz_go 5 (c' := (9, [some (.int t4), some (.int (-1600)), some (.int 1600)], [.int t6], mz_up (mz_up (mz_up (mz_up (mz_up (mz_z m) 50 2 t1) 50 3 t2) 50 2 (t1 - (((t1 * 10) / 100) / 2))) 50 3 (t2 - (((t2 * 10) / 100) / 2))) 50 0 t5)) rfl ?_
            exact mz_ret rfl
          refine mz_go 5 (c' := (if t5 = t3 then 69 else 64, [some (.ref 50), some (.int 2), some (.int t3), some (.int t4)], [], mz_up (mz_up (mz_up (mz_up (mz_up (mz_up (mz_z m) 50 2 t1) 50 3 t2) 50 2 (t1 - (((t1 * 10) / 100) / 2))) 50 3 (t2 - (((t2 * 10) / 100) / 2))) 50 0 t5) 50 1 t6)) rfl ?_
          refine mz_ifT h1 ?_
          refine mz_go 4 (c' := (if t6 = t4 then 82 else 77, [some (.ref 50), some (.int 2), some (.int t3), some (.int t4)], [], mz_up (mz_up (mz_up (mz_up (mz_up (mz_up (mz_z m) 50 2 t1) 50 3 t2) 50 2 (t1 - (((t1 * 10) / 100) / 2))) 50 3 (t2 - (((t2 * 10) / 100) / 2))) 50 0 t5) 50 1 t6)) rfl ?_
          refine mz_ifF h2 ?_
          refine mz_go 3 (c' := (82, [some (.ref 50), some (.int 2), some (.int t3), some (.int t4)], [], mz_up (mz_up (mz_up (mz_up (mz_up (mz_up (mz_up (mz_z m) 50 2 t1) 50 3 t2) 50 2 (t1 - (((t1 * 10) / 100) / 2))) 50 3 (t2 - (((t2 * 10) / 100) / 2))) 50 0 t5) 50 1 t6) 50 3 0)) rfl ?_
          exact mz_ret rfl
        refine mz_go 6 (c' := (297, [some (.ref 49), some (.ref 50), some (.int 2), some (.int 2), some (.ref 2), some (.int 5), some (.int 10), none, none, none], [], mz_up (mz_up (mz_up (mz_up (mz_up (mz_up (mz_up (mz_up (mz_z m) 50 2 t1) 50 3 t2) 50 2 (t1 - (((t1 * 10) / 100) / 2))) 50 3 (t2 - (((t2 * 10) / 100) / 2))) 50 0 t5) 50 1 t6) 50 3 0) 50 4 (((mz_z m) 50 4) + 1))) rfl ?_
        exact mz_ret rfl
  · by_cases h3 : t6 = t4
    · refine ⟨mz_up (mz_up (mz_up (mz_up (mz_up (mz_up (mz_up (mz_up (mz_z m) 50 2 t1) 50 3 t2) 50 2 (t1 - (((t1 * 10) / 100) / 2))) 50 3 (t2 - (((t2 * 10) / 100) / 2))) 50 0 t5) 50 1 t6) 50 2 0) 50 4 (((mz_z m) 50 4) + 1), fun i hi => by simp only [mz_up_ne hi], rfl, ⟨?_, rfl⟩⟩
      · refine mz_go 12 (c' := (22, [some (.ref 49), some (.ref 50), some (.int 2), some (.int 2), some (.ref 2), some (.int 0), none, none, none, none], [.int 0, .ref 2], (mz_z m))) rfl ?_
        refine mz_do (R := mz_r21) (as := [.ref 2, .int 0]) (rest := []) (r1 := some (.int 0)) (m1 := (mz_z m)) rfl ⟨?_, rfl⟩ ?_
        · refine mz_go 7 (c' := (23, [some (.ref 2), some (.int 0)], [.int 0], (mz_z m))) rfl ?_
          exact mz_ret rfl
        refine mz_go 24 (c' := (217, [some (.ref 49), some (.ref 50), some (.int 2), some (.int 2), some (.ref 2), some (.int 5), none, none, none, none], [.ref 50, .int ((mz_z m) 50 3), .ref 50], mz_up (mz_z m) 50 2 t1)) rfl ?_
        refine mz_go 11 (c' := (235, [some (.ref 49), some (.ref 50), some (.int 2), some (.int 2), some (.ref 2), some (.int 5), none, none, none, none], [.ref 50, .ref 49], mz_up (mz_up (mz_z m) 50 2 t1) 50 3 t2)) rfl ?_
        refine mz_do (R := mz_r43) (as := [.ref 49, .ref 50]) (rest := []) (r1 := some (.int 10)) (m1 := mz_up (mz_up (mz_z m) 50 2 t1) 50 3 t2) rfl ⟨?_, rfl⟩ ?_
        · refine mz_go 10 (c' := (22, [some (.ref 49), some (.ref 50), none], [.int 10], mz_up (mz_up (mz_z m) 50 2 t1) 50 3 t2)) rfl ?_
          exact mz_ret rfl
        refine mz_go 24 (c' := (277, [some (.ref 49), some (.ref 50), some (.int 2), some (.int 2), some (.ref 2), some (.int 5), some (.int 10), none, none, none], [.int 2, .int ((t2 * 10) / 100), .int t2, .ref 50], mz_up (mz_up (mz_up (mz_z m) 50 2 t1) 50 3 t2) 50 2 (t1 - (((t1 * 10) / 100) / 2)))) rfl ?_
        refine mz_go 5 (c' := (284, [some (.ref 49), some (.ref 50), some (.int 2), some (.int 2), some (.ref 2), some (.int 5), some (.int 10), none, none, none], [.int 2, .ref 50], mz_up (mz_up (mz_up (mz_up (mz_z m) 50 2 t1) 50 3 t2) 50 2 (t1 - (((t1 * 10) / 100) / 2))) 50 3 (t2 - (((t2 * 10) / 100) / 2)))) rfl ?_
        refine mz_do (R := mz_r39) (as := [.ref 50, .int 2]) (rest := []) (r1 := none) (m1 := mz_up (mz_up (mz_up (mz_up (mz_up (mz_up (mz_up (mz_z m) 50 2 t1) 50 3 t2) 50 2 (t1 - (((t1 * 10) / 100) / 2))) 50 3 (t2 - (((t2 * 10) / 100) / 2))) 50 0 t5) 50 1 t6) 50 2 0) rfl ⟨?_, rfl⟩ ?_
        · refine mz_go 5 (c' := (9, [some (.ref 50), some (.int 2), none, none], [.int 2, .int (t1 - (((t1 * 10) / 100) / 2)), .int ((mz_z m) 50 0)], mz_up (mz_up (mz_up (mz_up (mz_z m) 50 2 t1) 50 3 t2) 50 2 (t1 - (((t1 * 10) / 100) / 2))) 50 3 (t2 - (((t2 * 10) / 100) / 2)))) rfl ?_
          refine mz_do (R := mz_r123) (as := [.int (t1 - (((t1 * 10) / 100) / 2)), .int 2]) (rest := [.int ((mz_z m) 50 0)]) (r1 := some (.int ((t1 - (((t1 * 10) / 100) / 2)) / 2))) (m1 := mz_up (mz_up (mz_up (mz_up (mz_z m) 50 2 t1) 50 3 t2) 50 2 (t1 - (((t1 * 10) / 100) / 2))) 50 3 (t2 - (((t2 * 10) / 100) / 2))) rfl ⟨?_, rfl⟩ ?_
          · refine mz_go 5 (c' := (11, [some (.int (t1 - (((t1 * 10) / 100) / 2))), some (.int 2)], [.int ((t1 - (((t1 * 10) / 100) / 2)) / 2)], mz_up (mz_up (mz_up (mz_up (mz_z m) 50 2 t1) 50 3 t2) 50 2 (t1 - (((t1 * 10) / 100) / 2))) 50 3 (t2 - (((t2 * 10) / 100) / 2)))) rfl ?_
            exact mz_ret rfl
          refine mz_go 7 (c' := (23, [some (.ref 50), some (.int 2), some (.int t3), none], [.int 2, .int (t2 - (((t2 * 10) / 100) / 2)), .int ((mz_z m) 50 1)], mz_up (mz_up (mz_up (mz_up (mz_z m) 50 2 t1) 50 3 t2) 50 2 (t1 - (((t1 * 10) / 100) / 2))) 50 3 (t2 - (((t2 * 10) / 100) / 2)))) rfl ?_
          refine mz_do (R := mz_r123) (as := [.int (t2 - (((t2 * 10) / 100) / 2)), .int 2]) (rest := [.int ((mz_z m) 50 1)]) (r1 := some (.int ((t2 - (((t2 * 10) / 100) / 2)) / 2))) (m1 := mz_up (mz_up (mz_up (mz_up (mz_z m) 50 2 t1) 50 3 t2) 50 2 (t1 - (((t1 * 10) / 100) / 2))) 50 3 (t2 - (((t2 * 10) / 100) / 2))) rfl ⟨?_, rfl⟩ ?_
          · refine mz_go 5 (c' := (11, [some (.int (t2 - (((t2 * 10) / 100) / 2))), some (.int 2)], [.int ((t2 - (((t2 * 10) / 100) / 2)) / 2)], mz_up (mz_up (mz_up (mz_up (mz_z m) 50 2 t1) 50 3 t2) 50 2 (t1 - (((t1 * 10) / 100) / 2))) 50 3 (t2 - (((t2 * 10) / 100) / 2)))) rfl ?_
            exact mz_ret rfl
          refine mz_go 6 (c' := (36, [some (.ref 50), some (.int 2), some (.int t3), some (.int t4)], [.int 1600, .int (-1600), .int t3, .ref 50], mz_up (mz_up (mz_up (mz_up (mz_z m) 50 2 t1) 50 3 t2) 50 2 (t1 - (((t1 * 10) / 100) / 2))) 50 3 (t2 - (((t2 * 10) / 100) / 2)))) rfl ?_
          refine mz_do (R := mz_r122) (as := [.int t3, .int (-1600), .int 1600]) (rest := [.ref 50]) (r1 := some (.int t5)) (m1 := mz_up (mz_up (mz_up (mz_up (mz_z m) 50 2 t1) 50 3 t2) 50 2 (t1 - (((t1 * 10) / 100) / 2))) 50 3 (t2 - (((t2 * 10) / 100) / 2))) rfl ⟨?_, rfl⟩ ?_
          · refine mz_go 5 (c' := (9, [some (.int t3), some (.int (-1600)), some (.int 1600)], [.int t5], mz_up (mz_up (mz_up (mz_up (mz_z m) 50 2 t1) 50 3 t2) 50 2 (t1 - (((t1 * 10) / 100) / 2))) 50 3 (t2 - (((t2 * 10) / 100) / 2)))) rfl ?_
            exact mz_ret rfl
          refine mz_go 5 (c' := (50, [some (.ref 50), some (.int 2), some (.int t3), some (.int t4)], [.int 1600, .int (-1600), .int t4, .ref 50], mz_up (mz_up (mz_up (mz_up (mz_up (mz_z m) 50 2 t1) 50 3 t2) 50 2 (t1 - (((t1 * 10) / 100) / 2))) 50 3 (t2 - (((t2 * 10) / 100) / 2))) 50 0 t5)) rfl ?_
          refine mz_do (R := mz_r122) (as := [.int t4, .int (-1600), .int 1600]) (rest := [.ref 50]) (r1 := some (.int t6)) (m1 := mz_up (mz_up (mz_up (mz_up (mz_up (mz_z m) 50 2 t1) 50 3 t2) 50 2 (t1 - (((t1 * 10) / 100) / 2))) 50 3 (t2 - (((t2 * 10) / 100) / 2))) 50 0 t5) rfl ⟨?_, rfl⟩ ?_
          · refine mz_go 5 (c' := (9, [some (.int t4), some (.int (-1600)), some (.int 1600)], [.int t6], mz_up (mz_up (mz_up (mz_up (mz_up (mz_z m) 50 2 t1) 50 3 t2) 50 2 (t1 - (((t1 * 10) / 100) / 2))) 50 3 (t2 - (((t2 * 10) / 100) / 2))) 50 0 t5)) rfl ?_
            exact mz_ret rfl
          refine mz_go 5 (c' := (if t5 = t3 then 69 else 64, [some (.ref 50), some (.int 2), some (.int t3), some (.int t4)], [], mz_up (mz_up (mz_up (mz_up (mz_up (mz_up (mz_z m) 50 2 t1) 50 3 t2) 50 2 (t1 - (((t1 * 10) / 100) / 2))) 50 3 (t2 - (((t2 * 10) / 100) / 2))) 50 0 t5) 50 1 t6)) rfl ?_
          refine mz_ifF h1 ?_
          refine mz_go 7 (c' := (if t6 = t4 then 82 else 77, [some (.ref 50), some (.int 2), some (.int t3), some (.int t4)], [], mz_up (mz_up (mz_up (mz_up (mz_up (mz_up (mz_up (mz_z m) 50 2 t1) 50 3 t2) 50 2 (t1 - (((t1 * 10) / 100) / 2))) 50 3 (t2 - (((t2 * 10) / 100) / 2))) 50 0 t5) 50 1 t6) 50 2 0)) rfl ?_
          refine mz_ifT h3 ?_
          exact mz_ret rfl
        refine mz_go 6 (c' := (297, [some (.ref 49), some (.ref 50), some (.int 2), some (.int 2), some (.ref 2), some (.int 5), some (.int 10), none, none, none], [], mz_up (mz_up (mz_up (mz_up (mz_up (mz_up (mz_up (mz_up (mz_z m) 50 2 t1) 50 3 t2) 50 2 (t1 - (((t1 * 10) / 100) / 2))) 50 3 (t2 - (((t2 * 10) / 100) / 2))) 50 0 t5) 50 1 t6) 50 2 0) 50 4 (((mz_z m) 50 4) + 1))) rfl ?_
        exact mz_ret rfl
    · refine ⟨mz_up (mz_up (mz_up (mz_up (mz_up (mz_up (mz_up (mz_up (mz_up (mz_z m) 50 2 t1) 50 3 t2) 50 2 (t1 - (((t1 * 10) / 100) / 2))) 50 3 (t2 - (((t2 * 10) / 100) / 2))) 50 0 t5) 50 1 t6) 50 2 0) 50 3 0) 50 4 (((mz_z m) 50 4) + 1), fun i hi => by simp only [mz_up_ne hi], rfl, ⟨?_, rfl⟩⟩
      · refine mz_go 12 (c' := (22, [some (.ref 49), some (.ref 50), some (.int 2), some (.int 2), some (.ref 2), some (.int 0), none, none, none, none], [.int 0, .ref 2], (mz_z m))) rfl ?_
        refine mz_do (R := mz_r21) (as := [.ref 2, .int 0]) (rest := []) (r1 := some (.int 0)) (m1 := (mz_z m)) rfl ⟨?_, rfl⟩ ?_
        · refine mz_go 7 (c' := (23, [some (.ref 2), some (.int 0)], [.int 0], (mz_z m))) rfl ?_
          exact mz_ret rfl
        refine mz_go 24 (c' := (217, [some (.ref 49), some (.ref 50), some (.int 2), some (.int 2), some (.ref 2), some (.int 5), none, none, none, none], [.ref 50, .int ((mz_z m) 50 3), .ref 50], mz_up (mz_z m) 50 2 t1)) rfl ?_
        refine mz_go 11 (c' := (235, [some (.ref 49), some (.ref 50), some (.int 2), some (.int 2), some (.ref 2), some (.int 5), none, none, none, none], [.ref 50, .ref 49], mz_up (mz_up (mz_z m) 50 2 t1) 50 3 t2)) rfl ?_
        refine mz_do (R := mz_r43) (as := [.ref 49, .ref 50]) (rest := []) (r1 := some (.int 10)) (m1 := mz_up (mz_up (mz_z m) 50 2 t1) 50 3 t2) rfl ⟨?_, rfl⟩ ?_
        · refine mz_go 10 (c' := (22, [some (.ref 49), some (.ref 50), none], [.int 10], mz_up (mz_up (mz_z m) 50 2 t1) 50 3 t2)) rfl ?_
          exact mz_ret rfl
        refine mz_go 24 (c' := (277, [some (.ref 49), some (.ref 50), some (.int 2), some (.int 2), some (.ref 2), some (.int 5), some (.int 10), none, none, none], [.int 2, .int ((t2 * 10) / 100), .int t2, .ref 50], mz_up (mz_up (mz_up (mz_z m) 50 2 t1) 50 3 t2) 50 2 (t1 - (((t1 * 10) / 100) / 2)))) rfl ?_
        refine mz_go 5 (c' := (284, [some (.ref 49), some (.ref 50), some (.int 2), some (.int 2), some (.ref 2), some (.int 5), some (.int 10), none, none, none], [.int 2, .ref 50], mz_up (mz_up (mz_up (mz_up (mz_z m) 50 2 t1) 50 3 t2) 50 2 (t1 - (((t1 * 10) / 100) / 2))) 50 3 (t2 - (((t2 * 10) / 100) / 2)))) rfl ?_
        refine mz_do (R := mz_r39) (as := [.ref 50, .int 2]) (rest := []) (r1 := none) (m1 := mz_up (mz_up (mz_up (mz_up (mz_up (mz_up (mz_up (mz_up (mz_z m) 50 2 t1) 50 3 t2) 50 2 (t1 - (((t1 * 10) / 100) / 2))) 50 3 (t2 - (((t2 * 10) / 100) / 2))) 50 0 t5) 50 1 t6) 50 2 0) 50 3 0) rfl ⟨?_, rfl⟩ ?_
        · refine mz_go 5 (c' := (9, [some (.ref 50), some (.int 2), none, none], [.int 2, .int (t1 - (((t1 * 10) / 100) / 2)), .int ((mz_z m) 50 0)], mz_up (mz_up (mz_up (mz_up (mz_z m) 50 2 t1) 50 3 t2) 50 2 (t1 - (((t1 * 10) / 100) / 2))) 50 3 (t2 - (((t2 * 10) / 100) / 2)))) rfl ?_
          refine mz_do (R := mz_r123) (as := [.int (t1 - (((t1 * 10) / 100) / 2)), .int 2]) (rest := [.int ((mz_z m) 50 0)]) (r1 := some (.int ((t1 - (((t1 * 10) / 100) / 2)) / 2))) (m1 := mz_up (mz_up (mz_up (mz_up (mz_z m) 50 2 t1) 50 3 t2) 50 2 (t1 - (((t1 * 10) / 100) / 2))) 50 3 (t2 - (((t2 * 10) / 100) / 2))) rfl ⟨?_, rfl⟩ ?_
          · refine mz_go 5 (c' := (11, [some (.int (t1 - (((t1 * 10) / 100) / 2))), some (.int 2)], [.int ((t1 - (((t1 * 10) / 100) / 2)) / 2)], mz_up (mz_up (mz_up (mz_up (mz_z m) 50 2 t1) 50 3 t2) 50 2 (t1 - (((t1 * 10) / 100) / 2))) 50 3 (t2 - (((t2 * 10) / 100) / 2)))) rfl ?_
            exact mz_ret rfl
          refine mz_go 7 (c' := (23, [some (.ref 50), some (.int 2), some (.int t3), none], [.int 2, .int (t2 - (((t2 * 10) / 100) / 2)), .int ((mz_z m) 50 1)], mz_up (mz_up (mz_up (mz_up (mz_z m) 50 2 t1) 50 3 t2) 50 2 (t1 - (((t1 * 10) / 100) / 2))) 50 3 (t2 - (((t2 * 10) / 100) / 2)))) rfl ?_
          refine mz_do (R := mz_r123) (as := [.int (t2 - (((t2 * 10) / 100) / 2)), .int 2]) (rest := [.int ((mz_z m) 50 1)]) (r1 := some (.int ((t2 - (((t2 * 10) / 100) / 2)) / 2))) (m1 := mz_up (mz_up (mz_up (mz_up (mz_z m) 50 2 t1) 50 3 t2) 50 2 (t1 - (((t1 * 10) / 100) / 2))) 50 3 (t2 - (((t2 * 10) / 100) / 2))) rfl ⟨?_, rfl⟩ ?_
          · refine mz_go 5 (c' := (11, [some (.int (t2 - (((t2 * 10) / 100) / 2))), some (.int 2)], [.int ((t2 - (((t2 * 10) / 100) / 2)) / 2)], mz_up (mz_up (mz_up (mz_up (mz_z m) 50 2 t1) 50 3 t2) 50 2 (t1 - (((t1 * 10) / 100) / 2))) 50 3 (t2 - (((t2 * 10) / 100) / 2)))) rfl ?_
            exact mz_ret rfl
          refine mz_go 6 (c' := (36, [some (.ref 50), some (.int 2), some (.int t3), some (.int t4)], [.int 1600, .int (-1600), .int t3, .ref 50], mz_up (mz_up (mz_up (mz_up (mz_z m) 50 2 t1) 50 3 t2) 50 2 (t1 - (((t1 * 10) / 100) / 2))) 50 3 (t2 - (((t2 * 10) / 100) / 2)))) rfl ?_
          refine mz_do (R := mz_r122) (as := [.int t3, .int (-1600), .int 1600]) (rest := [.ref 50]) (r1 := some (.int t5)) (m1 := mz_up (mz_up (mz_up (mz_up (mz_z m) 50 2 t1) 50 3 t2) 50 2 (t1 - (((t1 * 10) / 100) / 2))) 50 3 (t2 - (((t2 * 10) / 100) / 2))) rfl ⟨?_, rfl⟩ ?_
          · refine mz_go 5 (c' := (9, [some (.int t3), some (.int (-1600)), some (.int 1600)], [.int t5], mz_up (mz_up (mz_up (mz_up (mz_z m) 50 2 t1) 50 3 t2) 50 2 (t1 - (((t1 * 10) / 100) / 2))) 50 3 (t2 - (((t2 * 10) / 100) / 2)))) rfl ?_
            exact mz_ret rfl
          refine mz_go 5 (c' := (50, [some (.ref 50), some (.int 2), some (.int t3), some (.int t4)], [.int 1600, .int (-1600), .int t4, .ref 50], mz_up (mz_up (mz_up (mz_up (mz_up (mz_z m) 50 2 t1) 50 3 t2) 50 2 (t1 - (((t1 * 10) / 100) / 2))) 50 3 (t2 - (((t2 * 10) / 100) / 2))) 50 0 t5)) rfl ?_
          refine mz_do (R := mz_r122) (as := [.int t4, .int (-1600), .int 1600]) (rest := [.ref 50]) (r1 := some (.int t6)) (m1 := mz_up (mz_up (mz_up (mz_up (mz_up (mz_z m) 50 2 t1) 50 3 t2) 50 2 (t1 - (((t1 * 10) / 100) / 2))) 50 3 (t2 - (((t2 * 10) / 100) / 2))) 50 0 t5) rfl ⟨?_, rfl⟩ ?_
          · refine mz_go 5 (c' := (9, [some (.int t4), some (.int (-1600)), some (.int 1600)], [.int t6], mz_up (mz_up (mz_up (mz_up (mz_up (mz_z m) 50 2 t1) 50 3 t2) 50 2 (t1 - (((t1 * 10) / 100) / 2))) 50 3 (t2 - (((t2 * 10) / 100) / 2))) 50 0 t5)) rfl ?_
            exact mz_ret rfl
          refine mz_go 5 (c' := (if t5 = t3 then 69 else 64, [some (.ref 50), some (.int 2), some (.int t3), some (.int t4)], [], mz_up (mz_up (mz_up (mz_up (mz_up (mz_up (mz_z m) 50 2 t1) 50 3 t2) 50 2 (t1 - (((t1 * 10) / 100) / 2))) 50 3 (t2 - (((t2 * 10) / 100) / 2))) 50 0 t5) 50 1 t6)) rfl ?_
          refine mz_ifF h1 ?_
          refine mz_go 7 (c' := (if t6 = t4 then 82 else 77, [some (.ref 50), some (.int 2), some (.int t3), some (.int t4)], [], mz_up (mz_up (mz_up (mz_up (mz_up (mz_up (mz_up (mz_z m) 50 2 t1) 50 3 t2) 50 2 (t1 - (((t1 * 10) / 100) / 2))) 50 3 (t2 - (((t2 * 10) / 100) / 2))) 50 0 t5) 50 1 t6) 50 2 0)) rfl ?_
          refine mz_ifF h3 ?_
          refine mz_go 3 (c' := (82, [some (.ref 50), some (.int 2), some (.int t3), some (.int t4)], [], mz_up (mz_up (mz_up (mz_up (mz_up (mz_up (mz_up (mz_up (mz_z m) 50 2 t1) 50 3 t2) 50 2 (t1 - (((t1 * 10) / 100) / 2))) 50 3 (t2 - (((t2 * 10) / 100) / 2))) 50 0 t5) 50 1 t6) 50 2 0) 50 3 0)) rfl ?_
          exact mz_ret rfl
        refine mz_go 6 (c' := (297, [some (.ref 49), some (.ref 50), some (.int 2), some (.int 2), some (.ref 2), some (.int 5), some (.int 10), none, none, none], [], mz_up (mz_up (mz_up (mz_up (mz_up (mz_up (mz_up (mz_up (mz_up (mz_z m) 50 2 t1) 50 3 t2) 50 2 (t1 - (((t1 * 10) / 100) / 2))) 50 3 (t2 - (((t2 * 10) / 100) / 2))) 50 0 t5) 50 1 t6) 50 2 0) 50 3 0) 50 4 (((mz_z m) 50 4) + 1))) rfl ?_
        exact mz_ret rfl
set_option maxHeartbeats 4000000 in
set_option maxRecDepth 100000 in
theorem cz_rest (m : mz_M) : mz_Me 50 mz_r37 [.ref 49, .ref 50] (mz_z m) (some (.int 9)) (mz_z m) := by
  let t1 : Int32 := if 0 ≤ ((mz_z m) 50 2) then ((mz_z m) 50 2) else 0 - ((mz_z m) 50 2)
  let t2 : Int32 := if 0 ≤ ((mz_z m) 50 3) then ((mz_z m) 50 3) else 0 - ((mz_z m) 50 3)
  by_cases h1 : (t1 + t2) ≤ 8
  · refine ⟨?_, rfl⟩
    · refine mz_go 13 (c' := (if (t1 + t2) ≤ 8 then 30 else 27, [some (.ref 49), some (.ref 50), none], [], (mz_z m))) rfl ?_
      refine mz_ifT h1 ?_
      refine mz_go 8 (c' := (46, [some (.ref 49), some (.ref 50), none], [.int 1, .int ((mz_z m) 50 1), .int ((mz_z m) 50 0), .ref 2], (mz_z m))) rfl ?_
      refine mz_do (R := mz_r25) (as := [.ref 2, .int ((mz_z m) 50 0), .int ((mz_z m) 50 1), .int 1]) (rest := []) (r1 := some (.int (-1))) (m1 := (mz_z m)) rfl ⟨?_, rfl⟩ ?_
      · refine mz_go 11 (c' := (69, [some (.ref 2), some (.int ((mz_z m) 50 0)), some (.int ((mz_z m) 50 1)), some (.int 1), some (.int (-1)), some (.int 0), some (.int 0), none], [.int (-1)], (mz_z m))) rfl ?_
        exact mz_ret rfl
      refine mz_go 4 (c' := (87, [some (.ref 49), some (.ref 50), some (.int (-1))], [.int 9], (mz_z m))) rfl ?_
      exact mz_ret rfl
  · refine ⟨?_, rfl⟩
    · refine mz_go 13 (c' := (if (t1 + t2) ≤ 8 then 30 else 27, [some (.ref 49), some (.ref 50), none], [], (mz_z m))) rfl ?_
      refine mz_ifF h1 ?_
      refine mz_go 1 (c' := (29, [some (.ref 49), some (.ref 50), none], [.int 9], (mz_z m))) rfl ?_
      exact mz_ret rfl
set_option maxHeartbeats 4000000 in
set_option maxRecDepth 100000 in
theorem rz_rest (m : mz_M) : mz_Me 50 mz_r153 [.ref 65] (mz_z m) (some (.int 9)) (mz_z m) := by
  by_cases h1 : 0 ≤ ((mz_z m) 65 6)
  · by_cases h2 : 0 ≤ ((mz_z m) 65 7)
    · by_cases h3 : (((mz_z m) 65 6) + ((mz_z m) 65 7)) ≤ 8
      · refine ⟨?_, rfl⟩
        · refine mz_go 2 (c' := (4, [some (.ref 65), none], [.int ((mz_z m) 65 6)], (mz_z m))) rfl ?_
          refine mz_do (R := mz_r129) (as := [.int ((mz_z m) 65 6)]) (rest := []) (r1 := some (.int ((mz_z m) 65 6))) (m1 := (mz_z m)) rfl ⟨?_, rfl⟩ ?_
          · refine mz_go 2 (c' := (if 0 ≤ ((mz_z m) 65 6) then 9 else 4, [some (.int ((mz_z m) 65 6))], [], (mz_z m))) rfl ?_
            refine mz_ifT h1 ?_
            refine mz_go 1 (c' := (10, [some (.int ((mz_z m) 65 6))], [.int ((mz_z m) 65 6)], (mz_z m))) rfl ?_
            exact mz_ret rfl
          refine mz_go 2 (c' := (11, [some (.ref 65), none], [.int ((mz_z m) 65 7), .int ((mz_z m) 65 6)], (mz_z m))) rfl ?_
          refine mz_do (R := mz_r129) (as := [.int ((mz_z m) 65 7)]) (rest := [.int ((mz_z m) 65 6)]) (r1 := some (.int ((mz_z m) 65 7))) (m1 := (mz_z m)) rfl ⟨?_, rfl⟩ ?_
          · refine mz_go 2 (c' := (if 0 ≤ ((mz_z m) 65 7) then 9 else 4, [some (.int ((mz_z m) 65 7))], [], (mz_z m))) rfl ?_
            refine mz_ifT h2 ?_
            refine mz_go 1 (c' := (10, [some (.int ((mz_z m) 65 7))], [.int ((mz_z m) 65 7)], (mz_z m))) rfl ?_
            exact mz_ret rfl
          refine mz_go 6 (c' := (if (((mz_z m) 65 6) + ((mz_z m) 65 7)) ≤ 8 then 28 else 25, [some (.ref 65), none], [], (mz_z m))) rfl ?_
          refine mz_ifT h3 ?_
          refine mz_go 2 (c' := (30, [some (.ref 65), none], [.int 0, .ref 65], (mz_z m))) rfl ?_
          refine mz_do (R := mz_r148) (as := [.ref 65, .int 0]) (rest := []) (r1 := some (.int (-1))) (m1 := (mz_z m)) rfl ⟨?_, rfl⟩ ?_
          · refine mz_go 11 (c' := (73, [some (.ref 65), some (.int 0), some (.int (-1)), some (.int 0), none], [.int (-1)], (mz_z m))) rfl ?_
            exact mz_ret rfl
          refine mz_go 4 (c' := (59, [some (.ref 65), some (.int (-1))], [.int 9], (mz_z m))) rfl ?_
          exact mz_ret rfl
      · refine ⟨?_, rfl⟩
        · refine mz_go 2 (c' := (4, [some (.ref 65), none], [.int ((mz_z m) 65 6)], (mz_z m))) rfl ?_
          refine mz_do (R := mz_r129) (as := [.int ((mz_z m) 65 6)]) (rest := []) (r1 := some (.int ((mz_z m) 65 6))) (m1 := (mz_z m)) rfl ⟨?_, rfl⟩ ?_
          · refine mz_go 2 (c' := (if 0 ≤ ((mz_z m) 65 6) then 9 else 4, [some (.int ((mz_z m) 65 6))], [], (mz_z m))) rfl ?_
            refine mz_ifT h1 ?_
            refine mz_go 1 (c' := (10, [some (.int ((mz_z m) 65 6))], [.int ((mz_z m) 65 6)], (mz_z m))) rfl ?_
            exact mz_ret rfl
          refine mz_go 2 (c' := (11, [some (.ref 65), none], [.int ((mz_z m) 65 7), .int ((mz_z m) 65 6)], (mz_z m))) rfl ?_
          refine mz_do (R := mz_r129) (as := [.int ((mz_z m) 65 7)]) (rest := [.int ((mz_z m) 65 6)]) (r1 := some (.int ((mz_z m) 65 7))) (m1 := (mz_z m)) rfl ⟨?_, rfl⟩ ?_
          · refine mz_go 2 (c' := (if 0 ≤ ((mz_z m) 65 7) then 9 else 4, [some (.int ((mz_z m) 65 7))], [], (mz_z m))) rfl ?_
            refine mz_ifT h2 ?_
            refine mz_go 1 (c' := (10, [some (.int ((mz_z m) 65 7))], [.int ((mz_z m) 65 7)], (mz_z m))) rfl ?_
            exact mz_ret rfl
          refine mz_go 6 (c' := (if (((mz_z m) 65 6) + ((mz_z m) 65 7)) ≤ 8 then 28 else 25, [some (.ref 65), none], [], (mz_z m))) rfl ?_
          refine mz_ifF h3 ?_
          refine mz_go 1 (c' := (27, [some (.ref 65), none], [.int 9], (mz_z m))) rfl ?_
          exact mz_ret rfl
    · by_cases h4 : (((mz_z m) 65 6) + (-((mz_z m) 65 7))) ≤ 8
      · refine ⟨?_, rfl⟩
        · refine mz_go 2 (c' := (4, [some (.ref 65), none], [.int ((mz_z m) 65 6)], (mz_z m))) rfl ?_
          refine mz_do (R := mz_r129) (as := [.int ((mz_z m) 65 6)]) (rest := []) (r1 := some (.int ((mz_z m) 65 6))) (m1 := (mz_z m)) rfl ⟨?_, rfl⟩ ?_
          · refine mz_go 2 (c' := (if 0 ≤ ((mz_z m) 65 6) then 9 else 4, [some (.int ((mz_z m) 65 6))], [], (mz_z m))) rfl ?_
            refine mz_ifT h1 ?_
            refine mz_go 1 (c' := (10, [some (.int ((mz_z m) 65 6))], [.int ((mz_z m) 65 6)], (mz_z m))) rfl ?_
            exact mz_ret rfl
          refine mz_go 2 (c' := (11, [some (.ref 65), none], [.int ((mz_z m) 65 7), .int ((mz_z m) 65 6)], (mz_z m))) rfl ?_
          refine mz_do (R := mz_r129) (as := [.int ((mz_z m) 65 7)]) (rest := [.int ((mz_z m) 65 6)]) (r1 := some (.int (-((mz_z m) 65 7)))) (m1 := (mz_z m)) rfl ⟨?_, rfl⟩ ?_
          · refine mz_go 2 (c' := (if 0 ≤ ((mz_z m) 65 7) then 9 else 4, [some (.int ((mz_z m) 65 7))], [], (mz_z m))) rfl ?_
            refine mz_ifF h2 ?_
            refine mz_go 3 (c' := (10, [some (.int ((mz_z m) 65 7))], [.int (-((mz_z m) 65 7))], (mz_z m))) rfl ?_
            exact mz_ret rfl
          refine mz_go 6 (c' := (if (((mz_z m) 65 6) + (-((mz_z m) 65 7))) ≤ 8 then 28 else 25, [some (.ref 65), none], [], (mz_z m))) rfl ?_
          refine mz_ifT h4 ?_
          refine mz_go 2 (c' := (30, [some (.ref 65), none], [.int 0, .ref 65], (mz_z m))) rfl ?_
          refine mz_do (R := mz_r148) (as := [.ref 65, .int 0]) (rest := []) (r1 := some (.int (-1))) (m1 := (mz_z m)) rfl ⟨?_, rfl⟩ ?_
          · refine mz_go 11 (c' := (73, [some (.ref 65), some (.int 0), some (.int (-1)), some (.int 0), none], [.int (-1)], (mz_z m))) rfl ?_
            exact mz_ret rfl
          refine mz_go 4 (c' := (59, [some (.ref 65), some (.int (-1))], [.int 9], (mz_z m))) rfl ?_
          exact mz_ret rfl
      · refine ⟨?_, rfl⟩
        · refine mz_go 2 (c' := (4, [some (.ref 65), none], [.int ((mz_z m) 65 6)], (mz_z m))) rfl ?_
          refine mz_do (R := mz_r129) (as := [.int ((mz_z m) 65 6)]) (rest := []) (r1 := some (.int ((mz_z m) 65 6))) (m1 := (mz_z m)) rfl ⟨?_, rfl⟩ ?_
          · refine mz_go 2 (c' := (if 0 ≤ ((mz_z m) 65 6) then 9 else 4, [some (.int ((mz_z m) 65 6))], [], (mz_z m))) rfl ?_
            refine mz_ifT h1 ?_
            refine mz_go 1 (c' := (10, [some (.int ((mz_z m) 65 6))], [.int ((mz_z m) 65 6)], (mz_z m))) rfl ?_
            exact mz_ret rfl
          refine mz_go 2 (c' := (11, [some (.ref 65), none], [.int ((mz_z m) 65 7), .int ((mz_z m) 65 6)], (mz_z m))) rfl ?_
          refine mz_do (R := mz_r129) (as := [.int ((mz_z m) 65 7)]) (rest := [.int ((mz_z m) 65 6)]) (r1 := some (.int (-((mz_z m) 65 7)))) (m1 := (mz_z m)) rfl ⟨?_, rfl⟩ ?_
          · refine mz_go 2 (c' := (if 0 ≤ ((mz_z m) 65 7) then 9 else 4, [some (.int ((mz_z m) 65 7))], [], (mz_z m))) rfl ?_
            refine mz_ifF h2 ?_
            refine mz_go 3 (c' := (10, [some (.int ((mz_z m) 65 7))], [.int (-((mz_z m) 65 7))], (mz_z m))) rfl ?_
            exact mz_ret rfl
          refine mz_go 6 (c' := (if (((mz_z m) 65 6) + (-((mz_z m) 65 7))) ≤ 8 then 28 else 25, [some (.ref 65), none], [], (mz_z m))) rfl ?_
          refine mz_ifF h4 ?_
          refine mz_go 1 (c' := (27, [some (.ref 65), none], [.int 9], (mz_z m))) rfl ?_
          exact mz_ret rfl
  · by_cases h5 : 0 ≤ ((mz_z m) 65 7)
    · by_cases h6 : ((-((mz_z m) 65 6)) + ((mz_z m) 65 7)) ≤ 8
      · refine ⟨?_, rfl⟩
        · refine mz_go 2 (c' := (4, [some (.ref 65), none], [.int ((mz_z m) 65 6)], (mz_z m))) rfl ?_
          refine mz_do (R := mz_r129) (as := [.int ((mz_z m) 65 6)]) (rest := []) (r1 := some (.int (-((mz_z m) 65 6)))) (m1 := (mz_z m)) rfl ⟨?_, rfl⟩ ?_
          · refine mz_go 2 (c' := (if 0 ≤ ((mz_z m) 65 6) then 9 else 4, [some (.int ((mz_z m) 65 6))], [], (mz_z m))) rfl ?_
            refine mz_ifF h1 ?_
            refine mz_go 3 (c' := (10, [some (.int ((mz_z m) 65 6))], [.int (-((mz_z m) 65 6))], (mz_z m))) rfl ?_
            exact mz_ret rfl
          refine mz_go 2 (c' := (11, [some (.ref 65), none], [.int ((mz_z m) 65 7), .int (-((mz_z m) 65 6))], (mz_z m))) rfl ?_
          refine mz_do (R := mz_r129) (as := [.int ((mz_z m) 65 7)]) (rest := [.int (-((mz_z m) 65 6))]) (r1 := some (.int ((mz_z m) 65 7))) (m1 := (mz_z m)) rfl ⟨?_, rfl⟩ ?_
          · refine mz_go 2 (c' := (if 0 ≤ ((mz_z m) 65 7) then 9 else 4, [some (.int ((mz_z m) 65 7))], [], (mz_z m))) rfl ?_
            refine mz_ifT h5 ?_
            refine mz_go 1 (c' := (10, [some (.int ((mz_z m) 65 7))], [.int ((mz_z m) 65 7)], (mz_z m))) rfl ?_
            exact mz_ret rfl
          refine mz_go 6 (c' := (if ((-((mz_z m) 65 6)) + ((mz_z m) 65 7)) ≤ 8 then 28 else 25, [some (.ref 65), none], [], (mz_z m))) rfl ?_
          refine mz_ifT h6 ?_
          refine mz_go 2 (c' := (30, [some (.ref 65), none], [.int 0, .ref 65], (mz_z m))) rfl ?_
          refine mz_do (R := mz_r148) (as := [.ref 65, .int 0]) (rest := []) (r1 := some (.int (-1))) (m1 := (mz_z m)) rfl ⟨?_, rfl⟩ ?_
          · refine mz_go 11 (c' := (73, [some (.ref 65), some (.int 0), some (.int (-1)), some (.int 0), none], [.int (-1)], (mz_z m))) rfl ?_
            exact mz_ret rfl
          refine mz_go 4 (c' := (59, [some (.ref 65), some (.int (-1))], [.int 9], (mz_z m))) rfl ?_
          exact mz_ret rfl
      · refine ⟨?_, rfl⟩
        · refine mz_go 2 (c' := (4, [some (.ref 65), none], [.int ((mz_z m) 65 6)], (mz_z m))) rfl ?_
          refine mz_do (R := mz_r129) (as := [.int ((mz_z m) 65 6)]) (rest := []) (r1 := some (.int (-((mz_z m) 65 6)))) (m1 := (mz_z m)) rfl ⟨?_, rfl⟩ ?_
          · refine mz_go 2 (c' := (if 0 ≤ ((mz_z m) 65 6) then 9 else 4, [some (.int ((mz_z m) 65 6))], [], (mz_z m))) rfl ?_
            refine mz_ifF h1 ?_
            refine mz_go 3 (c' := (10, [some (.int ((mz_z m) 65 6))], [.int (-((mz_z m) 65 6))], (mz_z m))) rfl ?_
            exact mz_ret rfl
          refine mz_go 2 (c' := (11, [some (.ref 65), none], [.int ((mz_z m) 65 7), .int (-((mz_z m) 65 6))], (mz_z m))) rfl ?_
          refine mz_do (R := mz_r129) (as := [.int ((mz_z m) 65 7)]) (rest := [.int (-((mz_z m) 65 6))]) (r1 := some (.int ((mz_z m) 65 7))) (m1 := (mz_z m)) rfl ⟨?_, rfl⟩ ?_
          · refine mz_go 2 (c' := (if 0 ≤ ((mz_z m) 65 7) then 9 else 4, [some (.int ((mz_z m) 65 7))], [], (mz_z m))) rfl ?_
            refine mz_ifT h5 ?_
            refine mz_go 1 (c' := (10, [some (.int ((mz_z m) 65 7))], [.int ((mz_z m) 65 7)], (mz_z m))) rfl ?_
            exact mz_ret rfl
          refine mz_go 6 (c' := (if ((-((mz_z m) 65 6)) + ((mz_z m) 65 7)) ≤ 8 then 28 else 25, [some (.ref 65), none], [], (mz_z m))) rfl ?_
          refine mz_ifF h6 ?_
          refine mz_go 1 (c' := (27, [some (.ref 65), none], [.int 9], (mz_z m))) rfl ?_
          exact mz_ret rfl
    · by_cases h7 : ((-((mz_z m) 65 6)) + (-((mz_z m) 65 7))) ≤ 8
      · refine ⟨?_, rfl⟩
        · refine mz_go 2 (c' := (4, [some (.ref 65), none], [.int ((mz_z m) 65 6)], (mz_z m))) rfl ?_
          refine mz_do (R := mz_r129) (as := [.int ((mz_z m) 65 6)]) (rest := []) (r1 := some (.int (-((mz_z m) 65 6)))) (m1 := (mz_z m)) rfl ⟨?_, rfl⟩ ?_
          · refine mz_go 2 (c' := (if 0 ≤ ((mz_z m) 65 6) then 9 else 4, [some (.int ((mz_z m) 65 6))], [], (mz_z m))) rfl ?_
            refine mz_ifF h1 ?_
            refine mz_go 3 (c' := (10, [some (.int ((mz_z m) 65 6))], [.int (-((mz_z m) 65 6))], (mz_z m))) rfl ?_
            exact mz_ret rfl
          refine mz_go 2 (c' := (11, [some (.ref 65), none], [.int ((mz_z m) 65 7), .int (-((mz_z m) 65 6))], (mz_z m))) rfl ?_
          refine mz_do (R := mz_r129) (as := [.int ((mz_z m) 65 7)]) (rest := [.int (-((mz_z m) 65 6))]) (r1 := some (.int (-((mz_z m) 65 7)))) (m1 := (mz_z m)) rfl ⟨?_, rfl⟩ ?_
          · refine mz_go 2 (c' := (if 0 ≤ ((mz_z m) 65 7) then 9 else 4, [some (.int ((mz_z m) 65 7))], [], (mz_z m))) rfl ?_
            refine mz_ifF h5 ?_
            refine mz_go 3 (c' := (10, [some (.int ((mz_z m) 65 7))], [.int (-((mz_z m) 65 7))], (mz_z m))) rfl ?_
            exact mz_ret rfl
          refine mz_go 6 (c' := (if ((-((mz_z m) 65 6)) + (-((mz_z m) 65 7))) ≤ 8 then 28 else 25, [some (.ref 65), none], [], (mz_z m))) rfl ?_
          refine mz_ifT h7 ?_
          refine mz_go 2 (c' := (30, [some (.ref 65), none], [.int 0, .ref 65], (mz_z m))) rfl ?_
          refine mz_do (R := mz_r148) (as := [.ref 65, .int 0]) (rest := []) (r1 := some (.int (-1))) (m1 := (mz_z m)) rfl ⟨?_, rfl⟩ ?_
          · refine mz_go 11 (c' := (73, [some (.ref 65), some (.int 0), some (.int (-1)), some (.int 0), none], [.int (-1)], (mz_z m))) rfl ?_
            exact mz_ret rfl
          refine mz_go 4 (c' := (59, [some (.ref 65), some (.int (-1))], [.int 9], (mz_z m))) rfl ?_
          exact mz_ret rfl
      · refine ⟨?_, rfl⟩
        · refine mz_go 2 (c' := (4, [some (.ref 65), none], [.int ((mz_z m) 65 6)], (mz_z m))) rfl ?_
          refine mz_do (R := mz_r129) (as := [.int ((mz_z m) 65 6)]) (rest := []) (r1 := some (.int (-((mz_z m) 65 6)))) (m1 := (mz_z m)) rfl ⟨?_, rfl⟩ ?_
          · refine mz_go 2 (c' := (if 0 ≤ ((mz_z m) 65 6) then 9 else 4, [some (.int ((mz_z m) 65 6))], [], (mz_z m))) rfl ?_
            refine mz_ifF h1 ?_
            refine mz_go 3 (c' := (10, [some (.int ((mz_z m) 65 6))], [.int (-((mz_z m) 65 6))], (mz_z m))) rfl ?_
            exact mz_ret rfl
          refine mz_go 2 (c' := (11, [some (.ref 65), none], [.int ((mz_z m) 65 7), .int (-((mz_z m) 65 6))], (mz_z m))) rfl ?_
          refine mz_do (R := mz_r129) (as := [.int ((mz_z m) 65 7)]) (rest := [.int (-((mz_z m) 65 6))]) (r1 := some (.int (-((mz_z m) 65 7)))) (m1 := (mz_z m)) rfl ⟨?_, rfl⟩ ?_
          · refine mz_go 2 (c' := (if 0 ≤ ((mz_z m) 65 7) then 9 else 4, [some (.int ((mz_z m) 65 7))], [], (mz_z m))) rfl ?_
            refine mz_ifF h5 ?_
            refine mz_go 3 (c' := (10, [some (.int ((mz_z m) 65 7))], [.int (-((mz_z m) 65 7))], (mz_z m))) rfl ?_
            exact mz_ret rfl
          refine mz_go 6 (c' := (if ((-((mz_z m) 65 6)) + (-((mz_z m) 65 7))) ≤ 8 then 28 else 25, [some (.ref 65), none], [], (mz_z m))) rfl ?_
          refine mz_ifF h7 ?_
          refine mz_go 1 (c' := (27, [some (.ref 65), none], [.int 9], (mz_z m))) rfl ?_
          exact mz_ret rfl
