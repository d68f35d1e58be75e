set_option maxHeartbeats 4000000 in
set_option maxRecDepth 100000 in
theorem cz_paint (x y e s w h i j : Int32) (hi0 : ¬ i < 0) (hiw : ¬ w ≤ i) (hi6 : ¬ 6 ≤ i) (hj0 : ¬ j < 0) (hjh : ¬ h ≤ j) (hj6 : ¬ 6 ≤ j) (hin : mz_in (j * 6 + i) 36 = true) (l10 : Option Value) (m : mz_M) (hz : Zf m) (h2 : m 20 2 = w) (h3 : m 20 3 = h) : ∃ (m' : mz_M) (a : Int32), Zf m' ∧ m' 20 2 = w ∧ m' 20 3 = h ∧ (∀ c, m' 21 c = if c = (j * 6 + i).toNatClampNeg then 9 else m 21 c) ∧ ∀ r, mz_Ex 70 mz_k85 (118, [some (.ref 0), some (.int x), some (.int y), some (.int e), some (.int s), some (.int w), some (.int h), some (.ref 20), some (.int j), some (.int (i + 1)), some (.int a)], [], m') r → mz_Ex 70 mz_k85 (118, [some (.ref 0), some (.int x), some (.int y), some (.int e), some (.int s), some (.int w), some (.int h), some (.ref 20), some (.int j), some (.int i), l10], [], m) r := by
  have key : ∃ (m' : mz_M) (a : Int32), Zf m' ∧ m' 20 2 = w ∧ m' 20 3 = h ∧ (∀ c, m' 21 c = if c = (j * 6 + i).toNatClampNeg then 9 else (mz_up (mz_up (mz_z m) 20 2 w) 20 3 h) 21 c) ∧ ∀ r, mz_Ex 70 mz_k85 (118, [some (.ref 0), some (.int x), some (.int y), some (.int e), some (.int s), some (.int w), some (.int h), some (.ref 20), some (.int j), some (.int (i + 1)), some (.int a)], [], m') r → mz_Ex 70 mz_k85 (118, [some (.ref 0), some (.int x), some (.int y), some (.int e), some (.int s), some (.int w), some (.int h), some (.ref 20), some (.int j), some (.int i), l10], [], (mz_up (mz_up (mz_z m) 20 2 w) 20 3 h)) r := by
    obtain ⟨mm1, me1, mg1, ms1⟩ := cz_end_1 (mz_up (mz_up (mz_z m) 20 2 w) 20 3 h) rfl (x + (i * s)) (y + (j * s)) 0 0
    have mw1 : Zf mm1 := zf_row (show Zf (mz_up (mz_up (mz_z m) 20 2 w) 20 3 h) from rfl) rfl me1
    have ms1 : mz_Me 60 mz_r36 [.ref 49, .int (x + (i * s)), .int (y + (j * s)), .int 0, .int 0, .int 1] (mz_up (mz_up (mz_z m) 20 2 w) 20 3 h) (some (.int 9)) (mz_up (mz_up (mz_up (mz_z mm1) 50 4 60) 20 2 w) 20 3 h) := by rw [zf_eq mw1, mz_up_id mg1, mz_up_id (show mm1 20 2 = w by rw [me1 20 (by decide)]; rfl), mz_up_id (show mm1 20 3 = h by rw [me1 20 (by decide)]; rfl)]; exact ms1
    refine ⟨mz_up (mz_up (mz_up (mz_up (mz_up (mz_z mm1) 50 4 60) 20 2 w) 20 3 h) 21 (((j * 6) + i).toNatClampNeg) 9) 22 (((j * 6) + i).toNatClampNeg) 60, 9, rfl, rfl, rfl, fun c => ?_, fun r hr => ?_⟩
    · show cond (c == (j * 6 + i).toNatClampNeg) 9 (mm1 21 c) = _
      rw [me1 21 (by decide)]
      show cond (c == (j * 6 + i).toNatClampNeg) 9 (m 21 c) = if c = (j * 6 + i).toNatClampNeg then 9 else m 21 c
      by_cases hc : c = (j * 6 + i).toNatClampNeg
      · rw [if_pos hc, beq_iff_eq.mpr hc]
        rfl
      · rw [if_neg hc, beq_eq_false_iff_ne.mpr hc]
        rfl
    · refine mz_go 3 (c' := (if w ≤ i then 186 else 125, [some (.ref 0), some (.int x), some (.int y), some (.int e), some (.int s), some (.int w), some (.int h), some (.ref 20), some (.int j), some (.int i), l10], [], mz_up (mz_up (mz_z m) 20 2 w) 20 3 h)) rfl ?_
      refine mz_ifF hiw ?_
      refine mz_go 19 (c' := (154, [some (.ref 0), some (.int x), some (.int y), some (.int e), some (.int s), some (.int w), some (.int h), some (.ref 20), some (.int j), some (.int i), l10], [.int 1, .int 0, .int 0, .int (y + (j * s)), .int (x + (i * s)), .ref 49], mz_up (mz_up (mz_z m) 20 2 w) 20 3 h)) rfl ?_
      refine mz_do (R := mz_r36) (as := [.ref 49, .int (x + (i * s)), .int (y + (j * s)), .int 0, .int 0, .int 1]) (rest := []) (r1 := some (.int 9)) (m1 := mz_up (mz_up (mz_up (mz_z mm1) 50 4 60) 20 2 w) 20 3 h) rfl (mz_Me.deep ms1 (by decide)) ?_
      refine mz_go 9 (c' := (177, [some (.ref 0), some (.int x), some (.int y), some (.int e), some (.int s), some (.int w), some (.int h), some (.ref 20), some (.int j), some (.int i), some (.int 9)], [.int 60, .int 9, .int j, .int i, .ref 20], mz_up (mz_up (mz_up (mz_z mm1) 50 4 60) 20 2 w) 20 3 h)) rfl ?_
      refine mz_do (R := mz_r6) (as := [.ref 20, .int i, .int j, .int 9, .int 60]) (rest := []) (r1 := none) (m1 := mz_up (mz_up (mz_up (mz_up (mz_up (mz_z mm1) 50 4 60) 20 2 w) 20 3 h) 21 (((j * 6) + i).toNatClampNeg) 9) 22 (((j * 6) + i).toNatClampNeg) 60) rfl ⟨?_, rfl⟩ ?_
      · refine mz_go 3 (c' := (3, [some (.ref 20), some (.int i), some (.int j), some (.int 9), some (.int 60)], [.int j, .int i, .ref 20], mz_up (mz_up (mz_up (mz_z mm1) 50 4 60) 20 2 w) 20 3 h)) rfl ?_
        refine mz_do (R := mz_r4) (as := [.ref 20, .int i, .int j]) (rest := []) (r1 := some (.int 1)) (m1 := mz_up (mz_up (mz_up (mz_z mm1) 50 4 60) 20 2 w) 20 3 h) rfl ⟨?_, rfl⟩ ?_
        · refine mz_go 2 (c' := (if i < 0 then 40 else 4, [some (.ref 20), some (.int i), some (.int j)], [], mz_up (mz_up (mz_up (mz_z mm1) 50 4 60) 20 2 w) 20 3 h)) rfl ?_
          refine mz_ifF hi0 ?_
          refine mz_go 4 (c' := (if w ≤ i then 40 else 12, [some (.ref 20), some (.int i), some (.int j)], [], mz_up (mz_up (mz_up (mz_z mm1) 50 4 60) 20 2 w) 20 3 h)) rfl ?_
          refine mz_ifF hiw ?_
          refine mz_go 3 (c' := (if 6 ≤ i then 40 else 18, [some (.ref 20), some (.int i), some (.int j)], [], mz_up (mz_up (mz_up (mz_z mm1) 50 4 60) 20 2 w) 20 3 h)) rfl ?_
          refine mz_ifF hi6 ?_
          refine mz_go 2 (c' := (if j < 0 then 40 else 22, [some (.ref 20), some (.int i), some (.int j)], [], mz_up (mz_up (mz_up (mz_z mm1) 50 4 60) 20 2 w) 20 3 h)) rfl ?_
          refine mz_ifF hj0 ?_
          refine mz_go 4 (c' := (if h ≤ j then 40 else 30, [some (.ref 20), some (.int i), some (.int j)], [], mz_up (mz_up (mz_up (mz_z mm1) 50 4 60) 20 2 w) 20 3 h)) rfl ?_
          refine mz_ifF hjh ?_
          refine mz_go 3 (c' := (if 6 ≤ j then 40 else 36, [some (.ref 20), some (.int i), some (.int j)], [], mz_up (mz_up (mz_up (mz_z mm1) 50 4 60) 20 2 w) 20 3 h)) rfl ?_
          refine mz_ifF hj6 ?_
          refine mz_go 2 (c' := (41, [some (.ref 20), some (.int i), some (.int j)], [.int 1], mz_up (mz_up (mz_up (mz_z mm1) 50 4 60) 20 2 w) 20 3 h)) rfl ?_
          exact mz_ret rfl
        refine mz_go 9 (c' := (20, [some (.ref 20), some (.int i), some (.int j), some (.int 9), some (.int 60)], [.int 9, .int ((j * 6) + i), .ref 21], mz_up (mz_up (mz_up (mz_z mm1) 50 4 60) 20 2 w) 20 3 h)) rfl ?_
        refine mz_arr (c' := (21, [some (.ref 20), some (.int i), some (.int j), some (.int 9), some (.int 60)], [], mz_up (mz_up (mz_up (mz_up (mz_z mm1) 50 4 60) 20 2 w) 20 3 h) 21 (((j * 6) + i).toNatClampNeg) 9)) rfl hin ?_
        refine mz_go 8 (c' := (33, [some (.ref 20), some (.int i), some (.int j), some (.int 9), some (.int 60)], [.int 60, .int ((j * 6) + i), .ref 22], mz_up (mz_up (mz_up (mz_up (mz_z mm1) 50 4 60) 20 2 w) 20 3 h) 21 (((j * 6) + i).toNatClampNeg) 9)) rfl ?_
        refine mz_arr (c' := (34, [some (.ref 20), some (.int i), some (.int j), some (.int 9), some (.int 60)], [], mz_up (mz_up (mz_up (mz_up (mz_up (mz_z mm1) 50 4 60) 20 2 w) 20 3 h) 21 (((j * 6) + i).toNatClampNeg) 9) 22 (((j * 6) + i).toNatClampNeg) 60)) rfl hin ?_
        exact mz_ret rfl
      refine mz_go 2 (c' := (118, [some (.ref 0), some (.int x), some (.int y), some (.int e), some (.int s), some (.int w), some (.int h), some (.ref 20), some (.int j), some (.int (i + 1)), some (.int 9)], [], mz_up (mz_up (mz_up (mz_up (mz_up (mz_z mm1) 50 4 60) 20 2 w) 20 3 h) 21 (((j * 6) + i).toNatClampNeg) 9) 22 (((j * 6) + i).toNatClampNeg) 60)) rfl ?_
      exact hr
  rw [zf_eq hz, mz_up_id h2, mz_up_id h3] at key
  exact key
set_option maxHeartbeats 4000000 in
set_option maxRecDepth 100000 in
theorem rz_paint (x y e s w h k : Int32) (hw : ¬ w = 0) (hk : ¬ (w * h) ≤ k) (h70 : mz_in (70 + ((6 * (k / w)) + (k - k / w * w))) 650 = true) (h110 : mz_in (110 + ((6 * (k / w)) + (k - k / w * w))) 650 = true) (l7 : Int32) (l9 : Option Value) (m : mz_M) : ∃ (m' : mz_M) (a9 : Int32), (∀ i, i ≠ 65 → i ≠ 66 → m' i = mz_z m i) ∧ (∀ c, m' 66 c = if c = (110 + ((6 * (k / w)) + (k - k / w * w))).toNatClampNeg then 60 else if c = (70 + ((6 * (k / w)) + (k - k / w * w))).toNatClampNeg then 9 else mz_z m 66 c) ∧ ∀ r, mz_Ex 70 mz_k190 (141, [some (.ref 65), some (.int x), some (.int y), some (.int e), some (.int s), some (.int w), some (.int h), some (.int l7), some (.int (k + 1)), some (.int a9)], [], m') r → mz_Ex 70 mz_k190 (141, [some (.ref 65), some (.int x), some (.int y), some (.int e), some (.int s), some (.int w), some (.int h), some (.int l7), some (.int k), l9], [], mz_z m) r := by
  obtain ⟨mm1, me1, mg1, ms1⟩ := rz_runs_1 (mz_up (mz_up (mz_up (mz_up (mz_up (mz_z m) 65 4 (16 * (x + ((k - k / w * w) * s)))) 65 5 (16 * (y + ((k / w) * s)))) 65 6 0) 65 7 0) 65 8 0) rfl rfl
  have mw1 : Zf mm1 := zf_row (show Zf (mz_up (mz_up (mz_up (mz_up (mz_up (mz_z m) 65 4 (16 * (x + ((k - k / w * w) * s)))) 65 5 (16 * (y + ((k / w) * s)))) 65 6 0) 65 7 0) 65 8 0) from rfl) rfl me1
  have ms1 : mz_Me 60 mz_r154 [.ref 65, .int 1] (mz_up (mz_up (mz_up (mz_up (mz_up (mz_z m) 65 4 (16 * (x + ((k - k / w * w) * s)))) 65 5 (16 * (y + ((k / w) * s)))) 65 6 0) 65 7 0) 65 8 0) (some (.int 9)) (mz_up (mz_z mm1) 65 8 60) := by rw [zf_eq mw1, mz_up_id mg1]; exact ms1
  refine ⟨mz_up (mz_up (mz_up (mz_z mm1) 65 8 60) 66 ((70 + ((6 * (k / w)) + (k - k / w * w))).toNatClampNeg) 9) 66 ((110 + ((6 * (k / w)) + (k - k / w * w))).toNatClampNeg) 60, (6 * (k / w)) + (k - k / w * w), fun i h1 h2 => ?_, fun c => ?_, fun r hr => ?_⟩
  · rw [mz_up_ne h2, mz_up_ne h2, mz_up_ne h1, zf_eq mw1, me1 i h1]
    simp only [mz_up_ne h1]
  · rw [mz_up_eq, mz_up_eq, mz_up_ne (show (66 : Nat) ≠ 65 by decide), zf_eq mw1, me1 66 (by decide)]
    rfl
  · refine mz_go 5 (c' := (if (w * h) ≤ k then 225 else 151, [some (.ref 65), some (.int x), some (.int y), some (.int e), some (.int s), some (.int w), some (.int h), some (.int l7), some (.int k), l9], [], (mz_z m))) rfl ?_
    refine mz_ifF hk ?_
    refine mz_go 3 (c' := (157, [some (.ref 65), some (.int x), some (.int y), some (.int e), some (.int s), some (.int w), some (.int h), some (.int l7), some (.int k), l9], [.int w, .int k, .int 6], (mz_z m))) rfl ?_
    refine mz_div (c' := (158, [some (.ref 65), some (.int x), some (.int y), some (.int e), some (.int s), some (.int w), some (.int h), some (.int l7), some (.int k), l9], [.int (k / w), .int 6], (mz_z m))) rfl hw ?_
    refine mz_go 3 (c' := (163, [some (.ref 65), some (.int x), some (.int y), some (.int e), some (.int s), some (.int w), some (.int h), some (.int l7), some (.int k), l9], [.int w, .int k, .int (6 * (k / w))], (mz_z m))) rfl ?_
    refine mz_div (c' := (164, [some (.ref 65), some (.int x), some (.int y), some (.int e), some (.int s), some (.int w), some (.int h), some (.int l7), some (.int k), l9], [.int (k - k / w * w), .int (6 * (k / w))], (mz_z m))) rfl hw ?_
    refine mz_go 11 (c' := (182, [some (.ref 65), some (.int x), some (.int y), some (.int e), some (.int s), some (.int w), some (.int h), some (.int l7), some (.int k), some (.int ((6 * (k / w)) + (k - k / w * w)))], [.int w, .int k, .int x, .ref 65, .int (70 + ((6 * (k / w)) + (k - k / w * w))), .ref 66], (mz_z m))) rfl ?_
    refine mz_div (c' := (183, [some (.ref 65), some (.int x), some (.int y), some (.int e), some (.int s), some (.int w), some (.int h), some (.int l7), some (.int k), some (.int ((6 * (k / w)) + (k - k / w * w)))], [.int (k - k / w * w), .int x, .ref 65, .int (70 + ((6 * (k / w)) + (k - k / w * w))), .ref 66], (mz_z m))) rfl hw ?_
    refine mz_go 6 (c' := (192, [some (.ref 65), some (.int x), some (.int y), some (.int e), some (.int s), some (.int w), some (.int h), some (.int l7), some (.int k), some (.int ((6 * (k / w)) + (k - k / w * w)))], [.int w, .int k, .int y, .int (x + ((k - k / w * w) * s)), .ref 65, .int (70 + ((6 * (k / w)) + (k - k / w * w))), .ref 66], (mz_z m))) rfl ?_
    refine mz_div (c' := (193, [some (.ref 65), some (.int x), some (.int y), some (.int e), some (.int s), some (.int w), some (.int h), some (.int l7), some (.int k), some (.int ((6 * (k / w)) + (k - k / w * w)))], [.int (k / w), .int y, .int (x + ((k - k / w * w) * s)), .ref 65, .int (70 + ((6 * (k / w)) + (k - k / w * w))), .ref 66], (mz_z m))) rfl hw ?_
    refine mz_go 4 (c' := (198, [some (.ref 65), some (.int x), some (.int y), some (.int e), some (.int s), some (.int w), some (.int h), some (.int l7), some (.int k), some (.int ((6 * (k / w)) + (k - k / w * w)))], [.ref 65, .int (y + ((k / w) * s)), .int (x + ((k - k / w * w) * s)), .ref 65, .int (70 + ((6 * (k / w)) + (k - k / w * w))), .ref 66], (mz_z m))) rfl ?_
    refine mz_do (R := mz_r156) (as := [.ref 65]) (rest := [.int (y + ((k / w) * s)), .int (x + ((k - k / w * w) * s)), .ref 65, .int (70 + ((6 * (k / w)) + (k - k / w * w))), .ref 66]) (r1 := some (.int 1)) (m1 := (mz_z m)) rfl ⟨?_, rfl⟩ ?_
    · refine mz_go 4 (c' := (7, [some (.ref 65)], [.int 1], (mz_z m))) rfl ?_
      exact mz_ret rfl
    refine mz_do (R := mz_r155) (as := [.ref 65, .int (x + ((k - k / w * w) * s)), .int (y + ((k / w) * s)), .int 1]) (rest := [.int (70 + ((6 * (k / w)) + (k - k / w * w))), .ref 66]) (r1 := some (.int 9)) (m1 := mz_up (mz_z mm1) 65 8 60) rfl ⟨?_, rfl⟩ ?_
    · refine mz_go 5 (c' := (5, [some (.ref 65), some (.int (x + ((k - k / w * w) * s))), some (.int (y + ((k / w) * s))), some (.int 1)], [.int 0, .int 0, .int (y + ((k / w) * s)), .int (x + ((k - k / w * w) * s)), .ref 65], (mz_z m))) rfl ?_
      refine mz_do (R := mz_r144) (as := [.ref 65, .int (x + ((k - k / w * w) * s)), .int (y + ((k / w) * s)), .int 0, .int 0]) (rest := []) (r1 := none) (m1 := mz_up (mz_up (mz_up (mz_up (mz_up (mz_z m) 65 4 (16 * (x + ((k - k / w * w) * s)))) 65 5 (16 * (y + ((k / w) * s)))) 65 6 0) 65 7 0) 65 8 0) rfl ⟨?_, rfl⟩ ?_
      · refine mz_go 19 (c' := (32, [some (.ref 65), some (.int (x + ((k - k / w * w) * s))), some (.int (y + ((k / w) * s))), some (.int 0), some (.int 0)], [], mz_up (mz_up (mz_up (mz_up (mz_up (mz_z m) 65 4 (16 * (x + ((k - k / w * w) * s)))) 65 5 (16 * (y + ((k / w) * s)))) 65 6 0) 65 7 0) 65 8 0)) rfl ?_
        exact mz_ret rfl
      refine mz_go 2 (c' := (10, [some (.ref 65), some (.int (x + ((k - k / w * w) * s))), some (.int (y + ((k / w) * s))), some (.int 1)], [.int 1, .ref 65], mz_up (mz_up (mz_up (mz_up (mz_up (mz_z m) 65 4 (16 * (x + ((k - k / w * w) * s)))) 65 5 (16 * (y + ((k / w) * s)))) 65 6 0) 65 7 0) 65 8 0)) rfl ?_
      refine mz_do (R := mz_r154) (as := [.ref 65, .int 1]) (rest := []) (r1 := some (.int 9)) (m1 := mz_up (mz_z mm1) 65 8 60) rfl (mz_Me.deep ms1 (by decide)) ?_
      exact mz_ret rfl
    refine mz_arr (c' := (205, [some (.ref 65), some (.int x), some (.int y), some (.int e), some (.int s), some (.int w), some (.int h), some (.int l7), some (.int k), some (.int ((6 * (k / w)) + (k - k / w * w)))], [], mz_up (mz_up (mz_z mm1) 65 8 60) 66 ((70 + ((6 * (k / w)) + (k - k / w * w))).toNatClampNeg) 9)) rfl h70 ?_
    refine mz_go 7 (c' := (218, [some (.ref 65), some (.int x), some (.int y), some (.int e), some (.int s), some (.int w), some (.int h), some (.int l7), some (.int k), some (.int ((6 * (k / w)) + (k - k / w * w)))], [.int 60, .int (110 + ((6 * (k / w)) + (k - k / w * w))), .ref 66], mz_up (mz_up (mz_z mm1) 65 8 60) 66 ((70 + ((6 * (k / w)) + (k - k / w * w))).toNatClampNeg) 9)) rfl ?_
    refine mz_arr (c' := (219, [some (.ref 65), some (.int x), some (.int y), some (.int e), some (.int s), some (.int w), some (.int h), some (.int l7), some (.int k), some (.int ((6 * (k / w)) + (k - k / w * w)))], [], mz_up (mz_up (mz_up (mz_z mm1) 65 8 60) 66 ((70 + ((6 * (k / w)) + (k - k / w * w))).toNatClampNeg) 9) 66 ((110 + ((6 * (k / w)) + (k - k / w * w))).toNatClampNeg) 60)) rfl h110 ?_
    refine mz_go 2 (c' := (141, [some (.ref 65), some (.int x), some (.int y), some (.int e), some (.int s), some (.int w), some (.int h), some (.int l7), some (.int (k + 1)), some (.int ((6 * (k / w)) + (k - k / w * w)))], [], mz_up (mz_up (mz_up (mz_z mm1) 65 8 60) 66 ((70 + ((6 * (k / w)) + (k - k / w * w))).toNatClampNeg) 9) 66 ((110 + ((6 * (k / w)) + (k - k / w * w))).toNatClampNeg) 60)) rfl ?_
    exact hr
theorem px_ix : ∀ J, J < 6 → ∀ I, I < 6 → nI J * 6 + nI I = nI (6 * J + I) := by decide +kernel
theorem px_a1 : ∀ A, A < 13 → ¬ (6 : Int32) < nI A - 6 := by decide +kernel
theorem px_a2 : ∀ A, A < 13 → nI A - 6 + 1 = nI (A + 1) - 6 := by decide +kernel
theorem px_a3 : (6 : Int32) < nI 13 - 6 := by decide +kernel
theorem px_a4 : nI 6 - 6 = 0 := by decide +kernel
set_option maxHeartbeats 4000000 in
set_option maxRecDepth 100000 in
theorem cz_prow (x y e s : Int32) (W H J : Nat) (hW : W ≤ 6) (hH : H ≤ 6) (hJ : J < H) : ∀ n I : Nat, I + n = W → ∀ (l10 : Option Value) (m : mz_M), Zf m → m 20 2 = nI W → m 20 3 = nI H → (∀ b, b < J → ∀ a, a < W → m 21 (6 * b + a) = 9) → (∀ a, a < I → m 21 (6 * J + a) = 9) → ∃ (m' : mz_M) (o : Option Value), Zf m' ∧ m' 20 2 = nI W ∧ m' 20 3 = nI H ∧ (∀ b, b < J + 1 → ∀ a, a < W → m' 21 (6 * b + a) = 9) ∧ ∀ r, mz_Ex 70 mz_k85 (108, [some (.ref 0), some (.int x), some (.int y), some (.int e), some (.int s), some (.int (nI W)), some (.int (nI H)), some (.ref 20), some (.int (nI (J + 1))), some (.int (nI W)), o], [], m') r → mz_Ex 70 mz_k85 (118, [some (.ref 0), some (.int x), some (.int y), some (.int e), some (.int s), some (.int (nI W)), some (.int (nI H)), some (.ref 20), some (.int (nI J)), some (.int (nI I)), l10], [], m) r := by
  intro n
  induction n with
  | zero =>
    intro I hI l10 m hz h2 h3 hb ha
    have hI2 : I = W := by omega
    subst hI2
    refine ⟨m, l10, hz, h2, h3, fun b hb1 a ha1 => ?_, fun r hr => ?_⟩
    · rcases Nat.lt_or_ge b J with h | h
      · exact hb b h a ha1
      · have : b = J := by omega
        subst this
        exact ha a ha1
    · rw [nI_succ] at hr
      refine mz_go 3 (c' := (if nI I ≤ nI I then 186 else 125, [some (.ref 0), some (.int x), some (.int y), some (.int e), some (.int s), some (.int (nI I)), some (.int (nI H)), some (.ref 20), some (.int (nI J)), some (.int (nI I)), l10], [], m)) rfl ?_
      refine mz_ifT (Int32.le_refl _) ?_
      refine mz_go 2 (c' := (108, [some (.ref 0), some (.int x), some (.int y), some (.int e), some (.int s), some (.int (nI I)), some (.int (nI H)), some (.ref 20), some (.int (nI J + 1)), some (.int (nI I)), l10], [], m)) rfl ?_
      exact hr
  | succ n ih =>
    intro I hI l10 m hz h2 h3 hb ha
    have hI6 : I < 6 := by omega
    have hJ6 : J < 6 := by omega
    have e1 := px_ix J hJ6 I hI6
    have hin : mz_in (nI J * 6 + nI I) 36 = true := by
      rw [e1]
      exact mz_inH (nI_pos (by omega)) (nI_lt (show 6 * J + I < 36 by omega) (by decide)) (by decide)
    obtain ⟨m1, a1, z1, g2, g3, g21, f1⟩ := cz_paint x y e s (nI W) (nI H) (nI I) (nI J) (nI_pos (by omega)) (nI_ge (show I < W by omega) (by omega)) (nI_ge hI6 (by decide)) (nI_pos (by omega)) (nI_ge hJ (by omega)) (nI_ge hJ6 (by decide)) hin l10 m hz h2 h3
    rw [e1, nI_clamp (show 6 * J + I < 2 ^ 31 by omega)] at g21
    obtain ⟨m2, o2, z2, k2, k3, kc, f2⟩ := ih (I + 1) (by omega) (some (.int a1)) m1 z1 g2 g3 (fun b hb1 a ha1 => by
      rw [g21, if_neg (by omega)]
      exact hb b hb1 a ha1) (fun a ha1 => by
      rw [g21]
      by_cases h : a = I
      · rw [if_pos (by omega)]
      · rw [if_neg (by omega)]
        exact ha a (by omega))
    rw [nI_succ I] at f2
    exact ⟨m2, o2, z2, k2, k3, kc, fun r hr => f1 r (f2 r hr)⟩
set_option maxHeartbeats 4000000 in
set_option maxRecDepth 100000 in
theorem cz_pcol (x y e s : Int32) (W H : Nat) (hW : W ≤ 6) (hH : H ≤ 6) : ∀ n J : Nat, J + n = H → ∀ (l9 l10 : Option Value) (m : mz_M), Zf m → m 20 2 = nI W → m 20 3 = nI H → (∀ b, b < J → ∀ a, a < W → m 21 (6 * b + a) = 9) → ∃ (m' : mz_M) (o9 o10 : Option Value), Zf m' ∧ m' 20 2 = nI W ∧ m' 20 3 = nI H ∧ (∀ b, b < H → ∀ a, a < W → m' 21 (6 * b + a) = 9) ∧ ∀ r, mz_Ex 70 mz_k85 (192, [some (.ref 0), some (.int x), some (.int y), some (.int e), some (.int s), some (.int (nI W)), some (.int (nI H)), some (.ref 20), some (.int (nI H)), o9, o10], [], m') r → mz_Ex 70 mz_k85 (108, [some (.ref 0), some (.int x), some (.int y), some (.int e), some (.int s), some (.int (nI W)), some (.int (nI H)), some (.ref 20), some (.int (nI J)), l9, l10], [], m) r := by
  intro n
  induction n with
  | zero =>
    intro J hJ l9 l10 m hz h2 h3 hb
    have hJ2 : J = H := by omega
    subst hJ2
    refine ⟨m, l9, l10, hz, h2, h3, hb, fun r hr => ?_⟩
    refine mz_go 3 (c' := (if nI J ≤ nI J then 192 else 115, [some (.ref 0), some (.int x), some (.int y), some (.int e), some (.int s), some (.int (nI W)), some (.int (nI J)), some (.ref 20), some (.int (nI J)), l9, l10], [], m)) rfl ?_
    exact mz_ifT (Int32.le_refl _) hr
  | succ n ih =>
    intro J hJ l9 l10 m hz h2 h3 hb
    obtain ⟨m1, o1, z1, g2, g3, gc, f1⟩ := cz_prow x y e s W H J hW hH (by omega) W 0 (by omega) l10 m hz h2 h3 hb (fun a ha => absurd ha (Nat.not_lt_zero a))
    obtain ⟨m2, p9, p10, z2, k2, k3, kc, f2⟩ := ih (J + 1) (by omega) (some (.int (nI W))) o1 m1 z1 g2 g3 gc
    refine ⟨m2, p9, p10, z2, k2, k3, kc, fun r hr => ?_⟩
    refine mz_go 3 (c' := (if nI H ≤ nI J then 192 else 115, [some (.ref 0), some (.int x), some (.int y), some (.int e), some (.int s), some (.int (nI W)), some (.int (nI H)), some (.ref 20), some (.int (nI J)), l9, l10], [], m)) rfl ?_
    refine mz_ifF (nI_ge (show J < H by omega) (by omega)) ?_
    refine mz_go 2 (c' := (118, [some (.ref 0), some (.int x), some (.int y), some (.int e), some (.int s), some (.int (nI W)), some (.int (nI H)), some (.ref 20), some (.int (nI J)), some (.int (nI 0)), l10], [], m)) rfl ?_
    exact f1 r (f2 r hr)
/-! the class's counting of colours -/
set_option maxHeartbeats 4000000 in
set_option maxRecDepth 100000 in
theorem cz_has0 {W H : Nat} {m : mz_M} (h2 : m 20 2 = nI W) (h3 : m 20 3 = nI H) {a b : Int32} (h : a < 0 ∨ nI W ≤ a ∨ b < 0 ∨ nI H ≤ b) : mz_Me 5 mz_r4 [.ref 20, .int a, .int b] m (some (.int 0)) m := by
  refine ⟨?_, rfl⟩
  have hend : mz_Ex 5 mz_k4 (40, [some (.ref 20), some (.int a), some (.int b)], [], m) (some (.int 0), m) := by
    refine mz_go 1 (c' := (41, [some (.ref 20), some (.int a), some (.int b)], [.int 0], m)) rfl ?_
    exact mz_ret rfl
  refine mz_go 2 (c' := (if a < 0 then 40 else 4, [some (.ref 20), some (.int a), some (.int b)], [], m)) rfl ?_
  refine mz_if (fun _ => hend) fun n1 => ?_
  refine mz_go 4 (c' := (if m 20 2 ≤ a then 40 else 12, [some (.ref 20), some (.int a), some (.int b)], [], m)) rfl ?_
  refine mz_if (fun _ => hend) fun n2 => ?_
  refine mz_go 3 (c' := (if 6 ≤ a then 40 else 18, [some (.ref 20), some (.int a), some (.int b)], [], m)) rfl ?_
  refine mz_if (fun _ => hend) fun n3 => ?_
  refine mz_go 2 (c' := (if b < 0 then 40 else 22, [some (.ref 20), some (.int a), some (.int b)], [], m)) rfl ?_
  refine mz_if (fun _ => hend) fun n4 => ?_
  refine mz_go 4 (c' := (if m 20 3 ≤ b then 40 else 30, [some (.ref 20), some (.int a), some (.int b)], [], m)) rfl ?_
  refine mz_if (fun _ => hend) fun n5 => ?_
  rw [h2] at n2
  rw [h3] at n5
  rcases h with h | h | h | h
  · exact absurd h n1
  · exact absurd h n2
  · exact absurd h n4
  · exact absurd h n5
set_option maxHeartbeats 4000000 in
set_option maxRecDepth 100000 in
theorem cz_has1 {W H : Nat} (hW : W ≤ 6) (hH : H ≤ 6) {m : mz_M} (h2 : m 20 2 = nI W) (h3 : m 20 3 = nI H) {I J : Nat} (hI : I < W) (hJ : J < H) : mz_Me 5 mz_r4 [.ref 20, .int (nI I), .int (nI J)] m (some (.int 1)) m := by
  refine ⟨?_, rfl⟩
  refine mz_go 2 (c' := (if nI I < 0 then 40 else 4, [some (.ref 20), some (.int (nI I)), some (.int (nI J))], [], m)) rfl ?_
  refine mz_ifF (nI_pos (by omega)) ?_
  refine mz_go 4 (c' := (if m 20 2 ≤ nI I then 40 else 12, [some (.ref 20), some (.int (nI I)), some (.int (nI J))], [], m)) rfl ?_
  refine mz_ifF (by rw [h2]; exact nI_ge hI (by omega)) ?_
  refine mz_go 3 (c' := (if 6 ≤ nI I then 40 else 18, [some (.ref 20), some (.int (nI I)), some (.int (nI J))], [], m)) rfl ?_
  refine mz_ifF (nI_ge (show I < 6 by omega) (by decide)) ?_
  refine mz_go 2 (c' := (if nI J < 0 then 40 else 22, [some (.ref 20), some (.int (nI I)), some (.int (nI J))], [], m)) rfl ?_
  refine mz_ifF (nI_pos (by omega)) ?_
  refine mz_go 4 (c' := (if m 20 3 ≤ nI J then 40 else 30, [some (.ref 20), some (.int (nI I)), some (.int (nI J))], [], m)) rfl ?_
  refine mz_ifF (by rw [h3]; exact nI_ge hJ (by omega)) ?_
  refine mz_go 3 (c' := (if 6 ≤ nI J then 40 else 36, [some (.ref 20), some (.int (nI I)), some (.int (nI J))], [], m)) rfl ?_
  refine mz_ifF (nI_ge (show J < 6 by omega) (by decide)) ?_
  refine mz_go 2 (c' := (41, [some (.ref 20), some (.int (nI I)), some (.int (nI J))], [.int 1], m)) rfl ?_
  exact mz_ret rfl
set_option maxHeartbeats 4000000 in
set_option maxRecDepth 100000 in
theorem cz_colour {W H : Nat} (hW : W ≤ 6) (hH : H ≤ 6) {m : mz_M} (h2 : m 20 2 = nI W) (h3 : m 20 3 = nI H) (hc : ∀ b, b < H → ∀ a, a < W → m 21 (6 * b + a) = 9) {I J : Nat} (hI : I < W) (hJ : J < H) : mz_Me 6 mz_r7 [.ref 20, .int (nI I), .int (nI J)] m (some (.int 9)) m := by
  refine ⟨?_, rfl⟩
  have e1 := px_ix J (by omega) I (by omega)
  have hin : mz_in (nI J * 6 + nI I) 36 = true := by
    rw [e1]
    exact mz_inH (nI_pos (by omega)) (nI_lt (show 6 * J + I < 36 by omega) (by decide)) (by decide)
  refine mz_go 3 (c' := (3, [some (.ref 20), some (.int (nI I)), some (.int (nI J))], [.int (nI J), .int (nI I), .ref 20], m)) rfl ?_
  refine mz_do (R := mz_r4) (as := [.ref 20, .int (nI I), .int (nI J)]) (rest := []) (r1 := some (.int 1)) (m1 := m) rfl (cz_has1 hW hH h2 h3 hI hJ) ?_
  refine mz_go 1 (c' := (if (1 : Int32) = 0 then 23 else 9, [some (.ref 20), some (.int (nI I)), some (.int (nI J))], [], m)) rfl ?_
  refine mz_ifF (by decide) ?_
  refine mz_go 7 (c' := (19, [some (.ref 20), some (.int (nI I)), some (.int (nI J))], [.int (nI J * 6 + nI I), .ref 21], m)) rfl ?_
  refine mz_arr (c' := (20, [some (.ref 20), some (.int (nI I)), some (.int (nI J))], [.int (m 21 (nI J * 6 + nI I).toNatClampNeg)], m)) rfl hin ?_
  rw [e1, nI_clamp (show 6 * J + I < 2 ^ 31 by omega), hc J hJ I hI]
  refine mz_go 1 (c' := (25, [some (.ref 20), some (.int (nI I)), some (.int (nI J))], [.int 9], m)) rfl ?_
  exact mz_ret rfl
set_option maxHeartbeats 4000000 in
set_option maxRecDepth 100000 in
theorem cz_cell {W H : Nat} (hW : W ≤ 6) (hH : H ≤ 6) (hW0 : 0 < W) (hH0 : 0 < H) {m : mz_M} (h2 : m 20 2 = nI W) (h3 : m 20 3 = nI H) (hc : ∀ b, b < H → ∀ a, a < W → m 21 (6 * b + a) = 9) (c a b : Int32) (n : Nat) : ∃ k : Nat, k ≤ 1 ∧ (c ≠ 9 → k = 0) ∧ (c = 9 → a = 0 → b = 0 → k = 1) ∧ ∀ r, mz_Ex 20 mz_k10 (56, [some (.ref 20), some (.int 0), some (.int 0), some (.int 6), some (.int c), some (.int (nI (n + k))), some (.int b), some (.int a)], [], m) r → mz_Ex 20 mz_k10 (29, [some (.ref 20), some (.int 0), some (.int 0), some (.int 6), some (.int c), some (.int (nI n)), some (.int b), some (.int a)], [], m) r := by
  by_cases hP : a < 0 ∨ nI W ≤ a ∨ b < 0 ∨ nI H ≤ b
  · refine ⟨0, by decide, fun _ => rfl, fun _ h0 h1 => ?_, fun r hr => ?_⟩
    · subst h0
      subst h1
      exfalso
      rcases hP with h | h | h | h
      · exact absurd h (by decide)
      · exact nI_ge hW0 (by omega) h
      · exact absurd h (by decide)
      · exact nI_ge hH0 (by omega) h
    · refine mz_go 3 (c' := (34, [some (.ref 20), some (.int 0), some (.int 0), some (.int 6), some (.int c), some (.int (nI n)), some (.int b), some (.int a)], [.int b, .int a, .ref 20], m)) rfl ?_
      refine mz_do (R := mz_r4) (as := [.ref 20, .int a, .int b]) (rest := []) (r1 := some (.int 0)) (m1 := m) rfl ((cz_has0 h2 h3 hP).deep (by decide)) ?_
      refine mz_go 1 (c' := (if (0 : Int32) = 0 then 56 else 40, [some (.ref 20), some (.int 0), some (.int 0), some (.int 6), some (.int c), some (.int (nI n)), some (.int b), some (.int a)], [], m)) rfl ?_
      exact mz_ifT rfl hr
  · have p1 : ¬ a < 0 := fun h => hP (Or.inl h)
    have p2 : ¬ nI W ≤ a := fun h => hP (Or.inr (Or.inl h))
    have p3 : ¬ b < 0 := fun h => hP (Or.inr (Or.inr (Or.inl h)))
    have p4 : ¬ nI H ≤ b := fun h => hP (Or.inr (Or.inr (Or.inr h)))
    obtain ⟨I, hI, rfl⟩ := nI_of p1
    obtain ⟨J, hJ, rfl⟩ := nI_of p3
    have hI2 : I < W := by
      rcases Nat.lt_or_ge I W with h | h
      · exact h
      · exact absurd (nI_le h hI) p2
    have hJ2 : J < H := by
      rcases Nat.lt_or_ge J H with h | h
      · exact h
      · exact absurd (nI_le h hJ) p4
    by_cases h9 : c = 9
    · subst h9
      refine ⟨1, by decide, fun h => absurd rfl h, fun _ _ _ => rfl, fun r hr => ?_⟩
      rw [nI_succ] at hr
      refine mz_go 3 (c' := (34, [some (.ref 20), some (.int 0), some (.int 0), some (.int 6), some (.int 9), some (.int (nI n)), some (.int (nI J)), some (.int (nI I))], [.int (nI J), .int (nI I), .ref 20], m)) rfl ?_
      refine mz_do (R := mz_r4) (as := [.ref 20, .int (nI I), .int (nI J)]) (rest := []) (r1 := some (.int 1)) (m1 := m) rfl ((cz_has1 hW hH h2 h3 hI2 hJ2).deep (by decide)) ?_
      refine mz_go 1 (c' := (if (1 : Int32) = 0 then 56 else 40, [some (.ref 20), some (.int 0), some (.int 0), some (.int 6), some (.int 9), some (.int (nI n)), some (.int (nI J)), some (.int (nI I))], [], m)) rfl ?_
      refine mz_ifF (by decide) ?_
      refine mz_go 3 (c' := (45, [some (.ref 20), some (.int 0), some (.int 0), some (.int 6), some (.int 9), some (.int (nI n)), some (.int (nI J)), some (.int (nI I))], [.int (nI J), .int (nI I), .ref 20], m)) rfl ?_
      refine mz_do (R := mz_r7) (as := [.ref 20, .int (nI I), .int (nI J)]) (rest := []) (r1 := some (.int 9)) (m1 := m) rfl ((cz_colour hW hH h2 h3 hc hI2 hJ2).deep (by decide)) ?_
      refine mz_go 2 (c' := (if (9 : Int32) = 9 then 53 else 56, [some (.ref 20), some (.int 0), some (.int 0), some (.int 6), some (.int 9), some (.int (nI n)), some (.int (nI J)), some (.int (nI I))], [], m)) rfl ?_
      refine mz_ifT rfl ?_
      exact mz_go 1 (c' := (56, [some (.ref 20), some (.int 0), some (.int 0), some (.int 6), some (.int 9), some (.int (nI n + 1)), some (.int (nI J)), some (.int (nI I))], [], m)) rfl hr
    · refine ⟨0, by decide, fun _ => rfl, fun h => absurd h h9, fun r hr => ?_⟩
      refine mz_go 3 (c' := (34, [some (.ref 20), some (.int 0), some (.int 0), some (.int 6), some (.int c), some (.int (nI n)), some (.int (nI J)), some (.int (nI I))], [.int (nI J), .int (nI I), .ref 20], m)) rfl ?_
      refine mz_do (R := mz_r4) (as := [.ref 20, .int (nI I), .int (nI J)]) (rest := []) (r1 := some (.int 1)) (m1 := m) rfl ((cz_has1 hW hH h2 h3 hI2 hJ2).deep (by decide)) ?_
      refine mz_go 1 (c' := (if (1 : Int32) = 0 then 56 else 40, [some (.ref 20), some (.int 0), some (.int 0), some (.int 6), some (.int c), some (.int (nI n)), some (.int (nI J)), some (.int (nI I))], [], m)) rfl ?_
      refine mz_ifF (by decide) ?_
      refine mz_go 3 (c' := (45, [some (.ref 20), some (.int 0), some (.int 0), some (.int 6), some (.int c), some (.int (nI n)), some (.int (nI J)), some (.int (nI I))], [.int (nI J), .int (nI I), .ref 20], m)) rfl ?_
      refine mz_do (R := mz_r7) (as := [.ref 20, .int (nI I), .int (nI J)]) (rest := []) (r1 := some (.int 9)) (m1 := m) rfl ((cz_colour hW hH h2 h3 hc hI2 hJ2).deep (by decide)) ?_
      refine mz_go 2 (c' := (if (9 : Int32) = c then 53 else 56, [some (.ref 20), some (.int 0), some (.int 0), some (.int 6), some (.int c), some (.int (nI n)), some (.int (nI J)), some (.int (nI I))], [], m)) rfl ?_
      exact mz_ifF (fun h => h9 h.symm) hr
set_option maxHeartbeats 4000000 in
set_option maxRecDepth 100000 in
theorem cz_in {W H : Nat} (hW : W ≤ 6) (hH : H ≤ 6) (hW0 : 0 < W) (hH0 : 0 < H) {m : mz_M} (h2 : m 20 2 = nI W) (h3 : m 20 3 = nI H) (hc : ∀ b, b < H → ∀ a, a < W → m 21 (6 * b + a) = 9) (c b : Int32) : ∀ j A : Nat, A + j = 13 → ∀ n : Nat, ∃ k : Nat, k ≤ j ∧ (c ≠ 9 → k = 0) ∧ (c = 9 → b = 0 → A ≤ 6 → 1 ≤ k) ∧ ∀ r, mz_Ex 20 mz_k10 (62, [some (.ref 20), some (.int 0), some (.int 0), some (.int 6), some (.int c), some (.int (nI (n + k))), some (.int b), some (.int (nI 13 - 6))], [], m) r → mz_Ex 20 mz_k10 (21, [some (.ref 20), some (.int 0), some (.int 0), some (.int 6), some (.int c), some (.int (nI n)), some (.int b), some (.int (nI A - 6))], [], m) r := by
  intro j
  induction j with
  | zero =>
    intro A hA n
    have hA2 : A = 13 := by omega
    subst hA2
    refine ⟨0, Nat.le_refl 0, fun _ => rfl, fun _ _ h => absurd h (by decide), fun r hr => ?_⟩
    refine mz_go 5 (c' := (if (6 : Int32) < nI 13 - 6 then 62 else 29, [some (.ref 20), some (.int 0), some (.int 0), some (.int 6), some (.int c), some (.int (nI n)), some (.int b), some (.int (nI 13 - 6))], [], m)) rfl ?_
    exact mz_ifT px_a3 hr
  | succ j ih =>
    intro A hA n
    obtain ⟨k1, q1, q2, q3, f1⟩ := cz_cell hW hH hW0 hH0 h2 h3 hc c (nI A - 6) b n
    obtain ⟨k2, s1, s2, s3, f2⟩ := ih (A + 1) (by omega) (n + k1)
    refine ⟨k1 + k2, by omega, fun h => by rw [q2 h, s2 h], fun h9 hb hA6 => ?_, fun r hr => ?_⟩
    · by_cases h : A = 6
      · subst h
        have := q3 h9 px_a4 hb
        omega
      · have := s3 h9 hb (by omega)
        omega
    · rw [← Nat.add_assoc] at hr
      have g := f2 r hr
      rw [← px_a2 A (by omega)] at g
      refine mz_go 5 (c' := (if (6 : Int32) < nI A - 6 then 62 else 29, [some (.ref 20), some (.int 0), some (.int 0), some (.int 6), some (.int c), some (.int (nI n)), some (.int b), some (.int (nI A - 6))], [], m)) rfl ?_
      refine mz_ifF (px_a1 A (by omega)) ?_
      refine f1 r ?_
      exact mz_go 2 (c' := (21, [some (.ref 20), some (.int 0), some (.int 0), some (.int 6), some (.int c), some (.int (nI (n + k1))), some (.int b), some (.int (nI A - 6 + 1))], [], m)) rfl g
set_option maxHeartbeats 4000000 in
set_option maxRecDepth 100000 in
theorem cz_out {W H : Nat} (hW : W ≤ 6) (hH : H ≤ 6) (hW0 : 0 < W) (hH0 : 0 < H) {m : mz_M} (h2 : m 20 2 = nI W) (h3 : m 20 3 = nI H) (hc : ∀ b, b < H → ∀ a, a < W → m 21 (6 * b + a) = 9) (c : Int32) : ∀ j B : Nat, B + j = 13 → ∀ (n : Nat) (l7 : Option Value), ∃ (k : Nat) (o7 : Option Value), k ≤ 13 * j ∧ (c ≠ 9 → k = 0) ∧ (c = 9 → B ≤ 6 → 1 ≤ k) ∧ ∀ r, mz_Ex 20 mz_k10 (68, [some (.ref 20), some (.int 0), some (.int 0), some (.int 6), some (.int c), some (.int (nI (n + k))), some (.int (nI 13 - 6)), o7], [], m) r → mz_Ex 20 mz_k10 (8, [some (.ref 20), some (.int 0), some (.int 0), some (.int 6), some (.int c), some (.int (nI n)), some (.int (nI B - 6)), l7], [], m) r := by
  intro j
  induction j with
  | zero =>
    intro B hB n l7
    have hB2 : B = 13 := by omega
    subst hB2
    refine ⟨0, l7, Nat.le_refl 0, fun _ => rfl, fun _ h => absurd h (by decide), fun r hr => ?_⟩
    refine mz_go 5 (c' := (if (6 : Int32) < nI 13 - 6 then 68 else 16, [some (.ref 20), some (.int 0), some (.int 0), some (.int 6), some (.int c), some (.int (nI n)), some (.int (nI 13 - 6)), l7], [], m)) rfl ?_
    exact mz_ifT px_a3 hr
  | succ j ih =>
    intro B hB n l7
    obtain ⟨k1, q1, q2, q3, f1⟩ := cz_in hW hH hW0 hH0 h2 h3 hc c (nI B - 6) 13 0 (by decide) n
    obtain ⟨k2, o2, s1, s2, s3, f2⟩ := ih (B + 1) (by omega) (n + k1) (some (.int (nI 13 - 6)))
    refine ⟨k1 + k2, o2, by omega, fun h => by rw [q2 h, s2 h], fun h9 hB6 => ?_, fun r hr => ?_⟩
    · by_cases h : B = 6
      · subst h
        have := q3 h9 px_a4 (by decide)
        omega
      · have := s3 h9 (by omega)
        omega
    · rw [← Nat.add_assoc] at hr
      have g := f2 r hr
      rw [← px_a2 B (by omega)] at g
      refine mz_go 5 (c' := (if (6 : Int32) < nI B - 6 then 68 else 16, [some (.ref 20), some (.int 0), some (.int 0), some (.int 6), some (.int c), some (.int (nI n)), some (.int (nI B - 6)), l7], [], m)) rfl ?_
      refine mz_ifF (px_a1 B (by omega)) ?_
      refine mz_go 4 (c' := (21, [some (.ref 20), some (.int 0), some (.int 0), some (.int 6), some (.int c), some (.int (nI n)), some (.int (nI B - 6)), some (.int (nI 0 - 6))], [], m)) rfl ?_
      refine f1 r ?_
      exact mz_go 2 (c' := (8, [some (.ref 20), some (.int 0), some (.int 0), some (.int 6), some (.int c), some (.int (nI (n + k1))), some (.int (nI B - 6 + 1)), some (.int (nI 13 - 6))], [], m)) rfl g
set_option maxHeartbeats 4000000 in
set_option maxRecDepth 100000 in
theorem cz_of {W H : Nat} (hW : W ≤ 6) (hH : H ≤ 6) (hW0 : 0 < W) (hH0 : 0 < H) {m : mz_M} (h2 : m 20 2 = nI W) (h3 : m 20 3 = nI H) (hc : ∀ b, b < H → ∀ a, a < W → m 21 (6 * b + a) = 9) (c : Int32) : ∃ k : Nat, k ≤ 169 ∧ (c ≠ 9 → k = 0) ∧ (c = 9 → 1 ≤ k) ∧ mz_Me 22 mz_r9 [.ref 20, .int c] m (some (.int (nI k))) m := by
  obtain ⟨k, o7, q1, q2, q3, f⟩ := cz_out hW hH hW0 hH0 h2 h3 hc c 13 0 (by decide) 0 none
  refine ⟨k, q1, q2, fun h => q3 h (by decide), ⟨?_, rfl⟩⟩
  refine mz_go 5 (c' := (6, [some (.ref 20), some (.int c)], [.int c, .int 6, .int 0, .int 0, .ref 20], m)) rfl ?_
  refine mz_do (R := mz_r10) (as := [.ref 20, .int 0, .int 0, .int 6, .int c]) (rest := []) (r1 := some (.int (nI k))) (m1 := m) rfl (mz_Me.deep (d := 20) ⟨?_, rfl⟩ (by decide)) ?_
  · refine mz_go 6 (c' := (8, [some (.ref 20), some (.int 0), some (.int 0), some (.int 6), some (.int c), some (.int (nI 0)), some (.int (nI 0 - 6)), none], [], m)) rfl ?_
    refine f _ ?_
    refine mz_go 1 (c' := (70, [some (.ref 20), some (.int 0), some (.int 0), some (.int 6), some (.int c), some (.int (nI (0 + k))), some (.int (nI 13 - 6)), o7], [.int (nI (0 + k))], m)) rfl ?_
    rw [Nat.zero_add]
    exact mz_ret rfl
  · exact mz_ret rfl
set_option maxHeartbeats 4000000 in
set_option maxRecDepth 100000 in
theorem cz_col0 {W H : Nat} (hW : W ≤ 6) (hH : H ≤ 6) (hW0 : 0 < W) (hH0 : 0 < H) {m : mz_M} (h2 : m 20 2 = nI W) (h3 : m 20 3 = nI H) (hc : ∀ b, b < H → ∀ a, a < W → m 21 (6 * b + a) = 9) (v c : Int32) (h9 : c ≠ 9) (h10 : ¬ 10 ≤ c) {r : Option Value × mz_M} (hr : mz_Ex 30 mz_k11 (4, [some (.ref 20), some (.int v), some (.int (c + 1))], [], m) r) : mz_Ex 30 mz_k11 (4, [some (.ref 20), some (.int v), some (.int c)], [], m) r := by
  obtain ⟨k, -, q2, -, f⟩ := cz_of hW hH hW0 hH0 h2 h3 hc c
  rw [q2 h9] at f
  refine mz_go 3 (c' := (if 10 ≤ c then 27 else 10, [some (.ref 20), some (.int v), some (.int c)], [], m)) rfl ?_
  refine mz_ifF h10 ?_
  refine mz_go 2 (c' := (12, [some (.ref 20), some (.int v), some (.int c)], [.int c, .ref 20], m)) rfl ?_
  refine mz_do (R := mz_r9) (as := [.ref 20, .int c]) (rest := []) (r1 := some (.int (nI 0))) (m1 := m) rfl (f.deep (by decide)) ?_
  refine mz_go 1 (c' := (if nI 0 ≤ 0 then 21 else 18, [some (.ref 20), some (.int v), some (.int c)], [], m)) rfl ?_
  refine mz_ifT (by decide) ?_
  exact mz_go 2 (c' := (4, [some (.ref 20), some (.int v), some (.int (c + 1))], [], m)) rfl hr
set_option maxHeartbeats 4000000 in
set_option maxRecDepth 100000 in
theorem cz_colours {W H : Nat} (hW : W ≤ 6) (hH : H ≤ 6) (hW0 : 0 < W) (hH0 : 0 < H) {m : mz_M} (h2 : m 20 2 = nI W) (h3 : m 20 3 = nI H) (hc : ∀ b, b < H → ∀ a, a < W → m 21 (6 * b + a) = 9) : mz_Me 30 mz_r11 [.ref 20] m (some (.int 1)) m := by
  obtain ⟨k, q1, -, q3, f⟩ := cz_of hW hH hW0 hH0 h2 h3 hc 9
  have hk := q3 rfl
  have st := fun v c (h9 : c ≠ 9) (h10 : ¬ (10 : Int32) ≤ c) (r : Option Value × mz_M) hr => cz_col0 hW hH hW0 hH0 h2 h3 hc v c h9 h10 (r := r) hr
  refine ⟨?_, rfl⟩
  refine mz_go 4 (c' := (4, [some (.ref 20), some (.int 0), some (.int 0)], [], m)) rfl ?_
  refine st 0 0 (by decide) (by decide) _ ?_
  refine st 0 1 (by decide) (by decide) _ ?_
  refine st 0 2 (by decide) (by decide) _ ?_
  refine st 0 3 (by decide) (by decide) _ ?_
  refine st 0 4 (by decide) (by decide) _ ?_
  refine st 0 5 (by decide) (by decide) _ ?_
  refine st 0 6 (by decide) (by decide) _ ?_
  refine st 0 7 (by decide) (by decide) _ ?_
  refine st 0 8 (by decide) (by decide) _ ?_
  refine mz_go 3 (c' := (if (10 : Int32) ≤ 9 then 27 else 10, [some (.ref 20), some (.int 0), some (.int 9)], [], m)) rfl ?_
  refine mz_ifF (by decide) ?_
  refine mz_go 2 (c' := (12, [some (.ref 20), some (.int 0), some (.int 9)], [.int 9, .ref 20], m)) rfl ?_
  refine mz_do (R := mz_r9) (as := [.ref 20, .int 9]) (rest := []) (r1 := some (.int (nI k))) (m1 := m) rfl (f.deep (by decide)) ?_
  refine mz_go 1 (c' := (if nI k ≤ 0 then 21 else 18, [some (.ref 20), some (.int 0), some (.int 9)], [], m)) rfl ?_
  refine mz_ifF (nI_nle hk (by omega)) ?_
  refine mz_go 3 (c' := (4, [some (.ref 20), some (.int 1), some (.int 10)], [], m)) rfl ?_
  refine mz_go 3 (c' := (if (10 : Int32) ≤ 10 then 27 else 10, [some (.ref 20), some (.int 1), some (.int 10)], [], m)) rfl ?_
  refine mz_ifT (by decide) ?_
  refine mz_go 1 (c' := (28, [some (.ref 20), some (.int 1), some (.int 10)], [.int 1], m)) rfl ?_
  exact mz_ret rfl
set_option maxHeartbeats 4000000 in
set_option maxRecDepth 100000 in
theorem cz_pictured (x y e s w h : Int32) (hw1 : ¬ w < 1) (hw6 : ¬ 6 < w) (hh1 : ¬ h < 1) (hh6 : ¬ 6 < h) (m : mz_M) (hz : Zf m) (h2 : m 20 2 = w) (h3 : m 20 3 = h) : ∃ m', Zf m' ∧ mz_Ex 80 mz_k85 (108, [some (.ref 0), some (.int x), some (.int y), some (.int e), some (.int s), some (.int w), some (.int h), some (.ref 20), some (.int 0), none, none], [], m) (some (.int 1), m') := by
  obtain ⟨W, hW, rfl⟩ := nI_of2 (M := 6) (n := 6) rfl (fun h => hw1 (Int32.lt_trans h (by decide))) (Int32.not_lt.mp hw6)
  obtain ⟨H, hH, rfl⟩ := nI_of2 (M := 6) (n := 6) rfl (fun h => hh1 (Int32.lt_trans h (by decide))) (Int32.not_lt.mp hh6)
  have hW0 : 0 < W := by
    rcases Nat.eq_zero_or_pos W with h | h
    · subst h
      exact absurd (by decide) hw1
    · exact h
  have hH0 : 0 < H := by
    rcases Nat.eq_zero_or_pos H with h | h
    · subst h
      exact absurd (by decide) hh1
    · exact h
  obtain ⟨m1, o9, o10, z1, g2, g3, gc, f⟩ := cz_pcol x y e s W H hW hH H 0 (by omega) none none m hz h2 h3 (fun b hb => absurd hb (Nat.not_lt_zero b))
  refine ⟨m1, z1, mz_Ex.deep (d := 70) (f _ ?_) (by decide)⟩
  refine mz_go 1 (c' := (194, [some (.ref 0), some (.int x), some (.int y), some (.int e), some (.int s), some (.int (nI W)), some (.int (nI H)), some (.ref 20), some (.int (nI H)), o9, o10], [.ref 20], m1)) rfl ?_
  refine mz_do (R := mz_r11) (as := [.ref 20]) (rest := []) (r1 := some (.int 1)) (m1 := m1) rfl ((cz_colours hW hH hW0 hH0 g2 g3 gc).deep (by decide)) ?_
  exact mz_ret rfl
