set_option maxHeartbeats 4000000 in
set_option maxRecDepth 100000 in
theorem tc_nmS0 {m : mz_M} {R S g v : Nat → Int32} {c : Int32} {p s j : Nat} (hc : sm_N 255 c) (hj : tx_name 0 c = some j) (h60 : s < 60) (hR : R 3 = nI p) (hn2 : R 2 = nI (2001 + 0)) (hs : S 2 = nI s) (hj5 : j < 5) : mz_Me 20 mz_r34 [.ref 53, .int c] (mz_set (mz_set (mz_set (mz_set m 53 R) 54 S) 55 g) 56 v) none (mz_set (mz_set (mz_set (mz_set m 53 (sm_upd R 3 ((nI p) + 1))) 54 (sm_upd S 2 (nI s + 1))) 55 (sm_upd g s 1)) 56 (sm_upd v s (nI j))) := by
  have hnm : (R 2).toNatClampNeg = 2001 := by rw [hn2]; exact nI_clamp (by decide)
  have hix : tx_ix 0 c = nI j := by
    unfold tx_ix
    rw [hj]
  refine ⟨?_, rfl⟩
  refine mz_go 2 (c' := (if 0 ≤ c then 8 else 4, [some (.ref 53), some (.int c), none], [], mz_set (mz_set (mz_set (mz_set m 53 R) 54 S) 55 g) 56 v)) rfl ?_
  refine mz_ifT (Int32.not_lt.mp (sm_N_nlt hc)) ?_
  refine mz_go 2 (c' := (12, [some (.ref 53), some (.int c), none], [.ref ((R 2).toNatClampNeg)], mz_set (mz_set (mz_set (mz_set m 53 R) 54 S) 55 g) 56 v)) rfl ?_
  rw [hnm]
  refine mz_go 2 (c' := (14, [some (.ref 53), some (.int c), none], [.int ((c.toUInt32 % 65536).toInt32), .ref 2001], mz_set (mz_set (mz_set (mz_set m 53 R) 54 S) 55 g) 56 v)) rfl ?_
  refine mz_doQ (R := mz_r230) (as := [.ref 2001, .int ((c.toUInt32 % 65536).toInt32)]) (rest := []) (r1 := some (.int (tx_ix 0 c))) (m1 := mz_set (mz_set (mz_set (mz_set m 53 R) 54 S) 55 g) 56 v) mz_t230 mz_v230_2001 rfl rfl rfl rfl rfl ((tc_ix0 (m := mz_set (mz_set (mz_set (mz_set m 53 R) 54 S) 55 g) 56 v) hc).deep (by omega)) ?_
  rw [hix]
  refine mz_go 3 (c' := (if 0 ≤ (nI j) then 28 else 22, [some (.ref 53), some (.int c), some (.int (nI j))], [], mz_set (mz_set (mz_set (mz_set m 53 R) 54 S) 55 g) 56 v)) rfl ?_
  refine mz_ifT (show (0 ≤ (nI j)) from (sm_leN rfl rfl (show 0 ≤ j by omega) (show j < 2 ^ 31 by omega))) ?_
  refine mz_go 3 (c' := (33, [some (.ref 53), some (.int c), some (.int (nI j))], [.int (R 3), .ref 53], mz_set (mz_set (mz_set (mz_set m 53 R) 54 S) 55 g) 56 v)) rfl ?_
  rw [hR]
  refine mz_go 3 (c' := (38, [some (.ref 53), some (.int c), some (.int (nI j))], [], mz_up (mz_set (mz_set (mz_set (mz_set m 53 R) 54 S) 55 g) 56 v) 53 3 ((nI p) + 1))) rfl ?_
  rw [tx_up53]
  refine mz_go 4 (c' := (44, [some (.ref 53), some (.int c), some (.int (nI j))], [.int (nI j), .int 1, .ref 54], mz_set (mz_set (mz_set (mz_set m 53 (sm_upd R 3 ((nI p) + 1))) 54 S) 55 g) 56 v)) rfl ?_
  refine mz_doQ (R := mz_r56) (as := [.ref 54, .int 1, .int (nI j)]) (rest := []) (r1 := none) (m1 := mz_set (mz_set (mz_set (mz_set m 53 (sm_upd R 3 ((nI p) + 1))) 54 (sm_upd S 2 (nI s + 1))) 55 (sm_upd g s 1)) 56 (sm_upd v s (nI j))) mz_t56 mz_v56_54 rfl rfl rfl rfl rfl ((tc_add2 (m := m) (R := sm_upd R 3 ((nI p) + 1)) (S := S) (g := g) (v := v) h60 hs 1 (nI j)).deep (by omega)) ?_
  exact mz_ret rfl
set_option maxHeartbeats 4000000 in
set_option maxRecDepth 100000 in
theorem tc_nmF0 {m : mz_M} {R S g v : Nat → Int32} {c : Int32} (hc0 : c = -1 ∨ sm_N 255 c) (hj : tx_name 0 c = none) (hn2 : R 2 = nI (2001 + 0)) : mz_Me 20 mz_r34 [.ref 53, .int c] (mz_set (mz_set (mz_set (mz_set m 53 R) 54 S) 55 g) 56 v) none (mz_set (mz_set (mz_set (mz_set m 53 (sm_upd R 4 0)) 54 S) 55 g) 56 v) := by
  have hnm : (R 2).toNatClampNeg = 2001 := by rw [hn2]; exact nI_clamp (by decide)
  rcases hc0 with rfl | hc
  · refine ⟨?_, rfl⟩
    refine mz_go 10 (c' := (27, [some (.ref 53), some (.int (-1)), some (.int (-1))], [], mz_up (mz_set (mz_set (mz_set (mz_set m 53 R) 54 S) 55 g) 56 v) 53 4 0)) rfl ?_
    rw [tx_up53]
    exact mz_ret rfl
  · have hix : tx_ix 0 c = -1 := by
      unfold tx_ix
      rw [hj]
    refine ⟨?_, rfl⟩
    refine mz_go 2 (c' := (if 0 ≤ c then 8 else 4, [some (.ref 53), some (.int c), none], [], mz_set (mz_set (mz_set (mz_set m 53 R) 54 S) 55 g) 56 v)) rfl ?_
    refine mz_ifT (Int32.not_lt.mp (sm_N_nlt hc)) ?_
    refine mz_go 2 (c' := (12, [some (.ref 53), some (.int c), none], [.ref ((R 2).toNatClampNeg)], mz_set (mz_set (mz_set (mz_set m 53 R) 54 S) 55 g) 56 v)) rfl ?_
    rw [hnm]
    refine mz_go 2 (c' := (14, [some (.ref 53), some (.int c), none], [.int ((c.toUInt32 % 65536).toInt32), .ref 2001], mz_set (mz_set (mz_set (mz_set m 53 R) 54 S) 55 g) 56 v)) rfl ?_
    refine mz_doQ (R := mz_r230) (as := [.ref 2001, .int ((c.toUInt32 % 65536).toInt32)]) (rest := []) (r1 := some (.int (tx_ix 0 c))) (m1 := mz_set (mz_set (mz_set (mz_set m 53 R) 54 S) 55 g) 56 v) mz_t230 mz_v230_2001 rfl rfl rfl rfl rfl ((tc_ix0 (m := mz_set (mz_set (mz_set (mz_set m 53 R) 54 S) 55 g) 56 v) hc).deep (by omega)) ?_
    rw [hix]
    refine mz_go 6 (c' := (27, [some (.ref 53), some (.int c), some (.int (-1))], [], mz_up (mz_set (mz_set (mz_set (mz_set m 53 R) 54 S) 55 g) 56 v) 53 4 0)) rfl ?_
    rw [tx_up53]
    exact mz_ret rfl
set_option maxHeartbeats 4000000 in
set_option maxRecDepth 100000 in
theorem tc_nmS1 {m : mz_M} {R S g v : Nat → Int32} {c : Int32} {p s j : Nat} (hc : sm_N 255 c) (hj : tx_name 1 c = some j) (h60 : s < 60) (hR : R 3 = nI p) (hn2 : R 2 = nI (2001 + 1)) (hs : S 2 = nI s) (hj5 : j < 5) : mz_Me 20 mz_r34 [.ref 53, .int c] (mz_set (mz_set (mz_set (mz_set m 53 R) 54 S) 55 g) 56 v) none (mz_set (mz_set (mz_set (mz_set m 53 (sm_upd R 3 ((nI p) + 1))) 54 (sm_upd S 2 (nI s + 1))) 55 (sm_upd g s 1)) 56 (sm_upd v s (nI j))) := by
  have hnm : (R 2).toNatClampNeg = 2002 := by rw [hn2]; exact nI_clamp (by decide)
  have hix : tx_ix 1 c = nI j := by
    unfold tx_ix
    rw [hj]
  refine ⟨?_, rfl⟩
  refine mz_go 2 (c' := (if 0 ≤ c then 8 else 4, [some (.ref 53), some (.int c), none], [], mz_set (mz_set (mz_set (mz_set m 53 R) 54 S) 55 g) 56 v)) rfl ?_
  refine mz_ifT (Int32.not_lt.mp (sm_N_nlt hc)) ?_
  refine mz_go 2 (c' := (12, [some (.ref 53), some (.int c), none], [.ref ((R 2).toNatClampNeg)], mz_set (mz_set (mz_set (mz_set m 53 R) 54 S) 55 g) 56 v)) rfl ?_
  rw [hnm]
  refine mz_go 2 (c' := (14, [some (.ref 53), some (.int c), none], [.int ((c.toUInt32 % 65536).toInt32), .ref 2002], mz_set (mz_set (mz_set (mz_set m 53 R) 54 S) 55 g) 56 v)) rfl ?_
  refine mz_doQ (R := mz_r230) (as := [.ref 2002, .int ((c.toUInt32 % 65536).toInt32)]) (rest := []) (r1 := some (.int (tx_ix 1 c))) (m1 := mz_set (mz_set (mz_set (mz_set m 53 R) 54 S) 55 g) 56 v) mz_t230 mz_v230_2002 rfl rfl rfl rfl rfl ((tc_ix1 (m := mz_set (mz_set (mz_set (mz_set m 53 R) 54 S) 55 g) 56 v) hc).deep (by omega)) ?_
  rw [hix]
  refine mz_go 3 (c' := (if 0 ≤ (nI j) then 28 else 22, [some (.ref 53), some (.int c), some (.int (nI j))], [], mz_set (mz_set (mz_set (mz_set m 53 R) 54 S) 55 g) 56 v)) rfl ?_
  refine mz_ifT (show (0 ≤ (nI j)) from (sm_leN rfl rfl (show 0 ≤ j by omega) (show j < 2 ^ 31 by omega))) ?_
  refine mz_go 3 (c' := (33, [some (.ref 53), some (.int c), some (.int (nI j))], [.int (R 3), .ref 53], mz_set (mz_set (mz_set (mz_set m 53 R) 54 S) 55 g) 56 v)) rfl ?_
  rw [hR]
  refine mz_go 3 (c' := (38, [some (.ref 53), some (.int c), some (.int (nI j))], [], mz_up (mz_set (mz_set (mz_set (mz_set m 53 R) 54 S) 55 g) 56 v) 53 3 ((nI p) + 1))) rfl ?_
  rw [tx_up53]
  refine mz_go 4 (c' := (44, [some (.ref 53), some (.int c), some (.int (nI j))], [.int (nI j), .int 1, .ref 54], mz_set (mz_set (mz_set (mz_set m 53 (sm_upd R 3 ((nI p) + 1))) 54 S) 55 g) 56 v)) rfl ?_
  refine mz_doQ (R := mz_r56) (as := [.ref 54, .int 1, .int (nI j)]) (rest := []) (r1 := none) (m1 := mz_set (mz_set (mz_set (mz_set m 53 (sm_upd R 3 ((nI p) + 1))) 54 (sm_upd S 2 (nI s + 1))) 55 (sm_upd g s 1)) 56 (sm_upd v s (nI j))) mz_t56 mz_v56_54 rfl rfl rfl rfl rfl ((tc_add2 (m := m) (R := sm_upd R 3 ((nI p) + 1)) (S := S) (g := g) (v := v) h60 hs 1 (nI j)).deep (by omega)) ?_
  exact mz_ret rfl
set_option maxHeartbeats 4000000 in
set_option maxRecDepth 100000 in
theorem tc_nmF1 {m : mz_M} {R S g v : Nat → Int32} {c : Int32} (hc0 : c = -1 ∨ sm_N 255 c) (hj : tx_name 1 c = none) (hn2 : R 2 = nI (2001 + 1)) : mz_Me 20 mz_r34 [.ref 53, .int c] (mz_set (mz_set (mz_set (mz_set m 53 R) 54 S) 55 g) 56 v) none (mz_set (mz_set (mz_set (mz_set m 53 (sm_upd R 4 0)) 54 S) 55 g) 56 v) := by
  have hnm : (R 2).toNatClampNeg = 2002 := by rw [hn2]; exact nI_clamp (by decide)
  rcases hc0 with rfl | hc
  · refine ⟨?_, rfl⟩
    refine mz_go 10 (c' := (27, [some (.ref 53), some (.int (-1)), some (.int (-1))], [], mz_up (mz_set (mz_set (mz_set (mz_set m 53 R) 54 S) 55 g) 56 v) 53 4 0)) rfl ?_
    rw [tx_up53]
    exact mz_ret rfl
  · have hix : tx_ix 1 c = -1 := by
      unfold tx_ix
      rw [hj]
    refine ⟨?_, rfl⟩
    refine mz_go 2 (c' := (if 0 ≤ c then 8 else 4, [some (.ref 53), some (.int c), none], [], mz_set (mz_set (mz_set (mz_set m 53 R) 54 S) 55 g) 56 v)) rfl ?_
    refine mz_ifT (Int32.not_lt.mp (sm_N_nlt hc)) ?_
    refine mz_go 2 (c' := (12, [some (.ref 53), some (.int c), none], [.ref ((R 2).toNatClampNeg)], mz_set (mz_set (mz_set (mz_set m 53 R) 54 S) 55 g) 56 v)) rfl ?_
    rw [hnm]
    refine mz_go 2 (c' := (14, [some (.ref 53), some (.int c), none], [.int ((c.toUInt32 % 65536).toInt32), .ref 2002], mz_set (mz_set (mz_set (mz_set m 53 R) 54 S) 55 g) 56 v)) rfl ?_
    refine mz_doQ (R := mz_r230) (as := [.ref 2002, .int ((c.toUInt32 % 65536).toInt32)]) (rest := []) (r1 := some (.int (tx_ix 1 c))) (m1 := mz_set (mz_set (mz_set (mz_set m 53 R) 54 S) 55 g) 56 v) mz_t230 mz_v230_2002 rfl rfl rfl rfl rfl ((tc_ix1 (m := mz_set (mz_set (mz_set (mz_set m 53 R) 54 S) 55 g) 56 v) hc).deep (by omega)) ?_
    rw [hix]
    refine mz_go 6 (c' := (27, [some (.ref 53), some (.int c), some (.int (-1))], [], mz_up (mz_set (mz_set (mz_set (mz_set m 53 R) 54 S) 55 g) 56 v) 53 4 0)) rfl ?_
    rw [tx_up53]
    exact mz_ret rfl
set_option maxHeartbeats 4000000 in
set_option maxRecDepth 100000 in
theorem tc_nmS2 {m : mz_M} {R S g v : Nat → Int32} {c : Int32} {p s j : Nat} (hc : sm_N 255 c) (hj : tx_name 2 c = some j) (h60 : s < 60) (hR : R 3 = nI p) (hn2 : R 2 = nI (2001 + 2)) (hs : S 2 = nI s) (hj5 : j < 5) : mz_Me 20 mz_r34 [.ref 53, .int c] (mz_set (mz_set (mz_set (mz_set m 53 R) 54 S) 55 g) 56 v) none (mz_set (mz_set (mz_set (mz_set m 53 (sm_upd R 3 ((nI p) + 1))) 54 (sm_upd S 2 (nI s + 1))) 55 (sm_upd g s 1)) 56 (sm_upd v s (nI j))) := by
  have hnm : (R 2).toNatClampNeg = 2003 := by rw [hn2]; exact nI_clamp (by decide)
  have hix : tx_ix 2 c = nI j := by
    unfold tx_ix
    rw [hj]
  refine ⟨?_, rfl⟩
  refine mz_go 2 (c' := (if 0 ≤ c then 8 else 4, [some (.ref 53), some (.int c), none], [], mz_set (mz_set (mz_set (mz_set m 53 R) 54 S) 55 g) 56 v)) rfl ?_
  refine mz_ifT (Int32.not_lt.mp (sm_N_nlt hc)) ?_
  refine mz_go 2 (c' := (12, [some (.ref 53), some (.int c), none], [.ref ((R 2).toNatClampNeg)], mz_set (mz_set (mz_set (mz_set m 53 R) 54 S) 55 g) 56 v)) rfl ?_
  rw [hnm]
  refine mz_go 2 (c' := (14, [some (.ref 53), some (.int c), none], [.int ((c.toUInt32 % 65536).toInt32), .ref 2003], mz_set (mz_set (mz_set (mz_set m 53 R) 54 S) 55 g) 56 v)) rfl ?_
  refine mz_doQ (R := mz_r230) (as := [.ref 2003, .int ((c.toUInt32 % 65536).toInt32)]) (rest := []) (r1 := some (.int (tx_ix 2 c))) (m1 := mz_set (mz_set (mz_set (mz_set m 53 R) 54 S) 55 g) 56 v) mz_t230 mz_v230_2003 rfl rfl rfl rfl rfl ((tc_ix2 (m := mz_set (mz_set (mz_set (mz_set m 53 R) 54 S) 55 g) 56 v) hc).deep (by omega)) ?_
  rw [hix]
  refine mz_go 3 (c' := (if 0 ≤ (nI j) then 28 else 22, [some (.ref 53), some (.int c), some (.int (nI j))], [], mz_set (mz_set (mz_set (mz_set m 53 R) 54 S) 55 g) 56 v)) rfl ?_
  refine mz_ifT (show (0 ≤ (nI j)) from (sm_leN rfl rfl (show 0 ≤ j by omega) (show j < 2 ^ 31 by omega))) ?_
  refine mz_go 3 (c' := (33, [some (.ref 53), some (.int c), some (.int (nI j))], [.int (R 3), .ref 53], mz_set (mz_set (mz_set (mz_set m 53 R) 54 S) 55 g) 56 v)) rfl ?_
  rw [hR]
  refine mz_go 3 (c' := (38, [some (.ref 53), some (.int c), some (.int (nI j))], [], mz_up (mz_set (mz_set (mz_set (mz_set m 53 R) 54 S) 55 g) 56 v) 53 3 ((nI p) + 1))) rfl ?_
  rw [tx_up53]
  refine mz_go 4 (c' := (44, [some (.ref 53), some (.int c), some (.int (nI j))], [.int (nI j), .int 1, .ref 54], mz_set (mz_set (mz_set (mz_set m 53 (sm_upd R 3 ((nI p) + 1))) 54 S) 55 g) 56 v)) rfl ?_
  refine mz_doQ (R := mz_r56) (as := [.ref 54, .int 1, .int (nI j)]) (rest := []) (r1 := none) (m1 := mz_set (mz_set (mz_set (mz_set m 53 (sm_upd R 3 ((nI p) + 1))) 54 (sm_upd S 2 (nI s + 1))) 55 (sm_upd g s 1)) 56 (sm_upd v s (nI j))) mz_t56 mz_v56_54 rfl rfl rfl rfl rfl ((tc_add2 (m := m) (R := sm_upd R 3 ((nI p) + 1)) (S := S) (g := g) (v := v) h60 hs 1 (nI j)).deep (by omega)) ?_
  exact mz_ret rfl
set_option maxHeartbeats 4000000 in
set_option maxRecDepth 100000 in
theorem tc_nmF2 {m : mz_M} {R S g v : Nat → Int32} {c : Int32} (hc0 : c = -1 ∨ sm_N 255 c) (hj : tx_name 2 c = none) (hn2 : R 2 = nI (2001 + 2)) : mz_Me 20 mz_r34 [.ref 53, .int c] (mz_set (mz_set (mz_set (mz_set m 53 R) 54 S) 55 g) 56 v) none (mz_set (mz_set (mz_set (mz_set m 53 (sm_upd R 4 0)) 54 S) 55 g) 56 v) := by
  have hnm : (R 2).toNatClampNeg = 2003 := by rw [hn2]; exact nI_clamp (by decide)
  rcases hc0 with rfl | hc
  · refine ⟨?_, rfl⟩
    refine mz_go 10 (c' := (27, [some (.ref 53), some (.int (-1)), some (.int (-1))], [], mz_up (mz_set (mz_set (mz_set (mz_set m 53 R) 54 S) 55 g) 56 v) 53 4 0)) rfl ?_
    rw [tx_up53]
    exact mz_ret rfl
  · have hix : tx_ix 2 c = -1 := by
      unfold tx_ix
      rw [hj]
    refine ⟨?_, rfl⟩
    refine mz_go 2 (c' := (if 0 ≤ c then 8 else 4, [some (.ref 53), some (.int c), none], [], mz_set (mz_set (mz_set (mz_set m 53 R) 54 S) 55 g) 56 v)) rfl ?_
    refine mz_ifT (Int32.not_lt.mp (sm_N_nlt hc)) ?_
    refine mz_go 2 (c' := (12, [some (.ref 53), some (.int c), none], [.ref ((R 2).toNatClampNeg)], mz_set (mz_set (mz_set (mz_set m 53 R) 54 S) 55 g) 56 v)) rfl ?_
    rw [hnm]
    refine mz_go 2 (c' := (14, [some (.ref 53), some (.int c), none], [.int ((c.toUInt32 % 65536).toInt32), .ref 2003], mz_set (mz_set (mz_set (mz_set m 53 R) 54 S) 55 g) 56 v)) rfl ?_
    refine mz_doQ (R := mz_r230) (as := [.ref 2003, .int ((c.toUInt32 % 65536).toInt32)]) (rest := []) (r1 := some (.int (tx_ix 2 c))) (m1 := mz_set (mz_set (mz_set (mz_set m 53 R) 54 S) 55 g) 56 v) mz_t230 mz_v230_2003 rfl rfl rfl rfl rfl ((tc_ix2 (m := mz_set (mz_set (mz_set (mz_set m 53 R) 54 S) 55 g) 56 v) hc).deep (by omega)) ?_
    rw [hix]
    refine mz_go 6 (c' := (27, [some (.ref 53), some (.int c), some (.int (-1))], [], mz_up (mz_set (mz_set (mz_set (mz_set m 53 R) 54 S) 55 g) 56 v) 53 4 0)) rfl ?_
    rw [tx_up53]
    exact mz_ret rfl
set_option maxHeartbeats 4000000 in
set_option maxRecDepth 100000 in
theorem tc_nmS {u : Nat} (hu : u < 3) {m : mz_M} {R S g v : Nat → Int32} {c : Int32} {p s j : Nat} (hc : sm_N 255 c) (hj : tx_name u c = some j) (h60 : s < 60) (hR : R 3 = nI p) (hn2 : R 2 = nI (2001 + u)) (hs : S 2 = nI s) (hj5 : j < 5) : mz_Me 20 mz_r34 [.ref 53, .int c] (mz_set (mz_set (mz_set (mz_set m 53 R) 54 S) 55 g) 56 v) none (mz_set (mz_set (mz_set (mz_set m 53 (sm_upd R 3 ((nI p) + 1))) 54 (sm_upd S 2 (nI s + 1))) 55 (sm_upd g s 1)) 56 (sm_upd v s (nI j))) := by
  rcases (show u = 0 ∨ u = 1 ∨ u = 2 by omega) with rfl | rfl | rfl
  · exact tc_nmS0 hc hj h60 hR hn2 hs hj5
  · exact tc_nmS1 hc hj h60 hR hn2 hs hj5
  · exact tc_nmS2 hc hj h60 hR hn2 hs hj5
set_option maxHeartbeats 4000000 in
set_option maxRecDepth 100000 in
theorem tc_nmF {u : Nat} (hu : u < 3) {m : mz_M} {R S g v : Nat → Int32} {c : Int32} (hc0 : c = -1 ∨ sm_N 255 c) (hj : tx_name u c = none) (hn2 : R 2 = nI (2001 + u)) : mz_Me 20 mz_r34 [.ref 53, .int c] (mz_set (mz_set (mz_set (mz_set m 53 R) 54 S) 55 g) 56 v) none (mz_set (mz_set (mz_set (mz_set m 53 (sm_upd R 4 0)) 54 S) 55 g) 56 v) := by
  rcases (show u = 0 ∨ u = 1 ∨ u = 2 by omega) with rfl | rfl | rfl
  · exact tc_nmF0 hc0 hj hn2
  · exact tc_nmF1 hc0 hj hn2
  · exact tc_nmF2 hc0 hj hn2
set_option maxHeartbeats 4000000 in
set_option maxRecDepth 100000 in
theorem tc_op {u T : Nat} {b : Nat → Int32} (hu : u < 3) (hT : T ≤ 60) (hb : ∀ i, i < 60 → sm_N 255 (b i)) {o D : Nat} (ho : o ≤ 5) {f0 f5 : Nat → tx_R} (hG0 : ∀ q, q ≤ T → tx_G u T q (f0 q)) (hG5 : ∀ q, q ≤ T → tx_G u T q (f5 q)) (h0 : o < 5 → tx_C u T b (D + 20) mz_r29 [.ref 53, .int 0, .int ((nI o) + 1)] f0) (h5 : o < 5 → tx_C u T b (D + 20) mz_r31 [.ref 53, .int ((nI o) + 1)] f5) : tx_C u T b (D + 21) mz_r31 [.ref 53, .int (nI o)] (fun p => tx_op u T b o p f0 f5) := by
  intro m R S g v h8 h9 p s hsp hpT hp hg hnm hs
  show ∃ R' S' g' v', _ ∧ tx_S u (tx_op u T b o p f0 f5) s g v R' S' g' v'
  unfold tx_op
  by_cases e1 : tx_dig (tx_at T b p) = true
  · rw [if_pos e1]
    have hlt := tx_dig_lt e1
    have hd : ¬ sm_bI (tx_dig (tx_at T b p)) = 0 := by rw [e1]; decide
    obtain ⟨R', a1, a2, a3, E⟩ := tc_numb (m := m) hT h8 h9 (D := 2) (R := R) (S := S) (g := g) (v := v) (p := p) (s := s) hp hpT (by omega) hs
    exact ⟨R', _, _, _, ⟨by
      refine mz_go 4 (c' := (8, [some (.ref 53), some (.int (nI o)), none], [.int (R 3), .ref 8], mz_set (mz_set (mz_set (mz_set m 53 R) 54 S) 55 g) 56 v)) rfl ?_
      rw [hp]
      refine mz_doQ (R := mz_r54) (as := [.ref 8, .int (nI p)]) (rest := []) (r1 := some (.int (tx_at T b p))) (m1 := mz_set (mz_set (mz_set (mz_set m 53 R) 54 S) 55 g) 56 v) mz_t54 mz_v54_8 rfl rfl rfl rfl rfl ((tc_at (m := mz_set (mz_set (mz_set (mz_set m 53 R) 54 S) 55 g) 56 v) hT h8 h9 (x := nI p) (p := p) rfl (by omega)).deep (by omega)) ?_
      refine mz_go 2 (c' := (13, [some (.ref 53), some (.int (nI o)), some (.int (tx_at T b p))], [.int (tx_at T b p)], mz_set (mz_set (mz_set (mz_set m 53 R) 54 S) 55 g) 56 v)) rfl ?_
      refine mz_doQ (R := mz_r35) (as := [.int (tx_at T b p)]) (rest := []) (r1 := some (.int (sm_bI (tx_dig (tx_at T b p))))) (m1 := mz_set (mz_set (mz_set (mz_set m 53 R) 54 S) 55 g) 56 v) mz_t35 mz_v35 rfl rfl rfl rfl rfl ((tc_dig (m := mz_set (mz_set (mz_set (mz_set m 53 R) 54 S) 55 g) 56 v) (tx_at T b p)).deep (by omega)) ?_
      refine mz_go 1 (c' := (if (sm_bI (tx_dig (tx_at T b p))) = 0 then 26 else 19, [some (.ref 53), some (.int (nI o)), some (.int (tx_at T b p))], [], mz_set (mz_set (mz_set (mz_set m 53 R) 54 S) 55 g) 56 v)) rfl ?_
      refine mz_ifF hd ?_
      refine mz_go 1 (c' := (20, [some (.ref 53), some (.int (nI o)), some (.int (tx_at T b p))], [.ref 53], mz_set (mz_set (mz_set (mz_set m 53 R) 54 S) 55 g) 56 v)) rfl ?_
      refine mz_doQ (R := mz_r33) (as := [.ref 53]) (rest := []) (r1 := none) (m1 := mz_set (mz_set (mz_set (mz_set m 53 R') 54 (sm_upd S 2 (nI s + 1))) 55 (sm_upd g s 0)) 56 (sm_upd v s (tx_num T b 4 p 0).1)) mz_t33 mz_v33_53 rfl rfl rfl rfl rfl (E.deep (by omega)) ?_
      refine mz_go 1 (c' := (108, [some (.ref 53), some (.int (nI o)), some (.int (tx_at T b p))], [], mz_set (mz_set (mz_set (mz_set m 53 R') 54 (sm_upd S 2 (nI s + 1))) 55 (sm_upd g s 0)) 56 (sm_upd v s (tx_num T b 4 p 0).1))) rfl ?_
      exact mz_ret rfl, rfl⟩, tx_S_one (by omega) a1 (a2.trans hg) (a3.trans hnm)⟩
  · rw [if_neg e1]
    have hd : sm_bI (tx_dig (tx_at T b p)) = 0 := by rw [eq_false_of_ne_true e1]; rfl
    by_cases e2 : tx_at T b p = 40 ∧ o < 5
    · rw [if_pos e2]
      have hlt : p < T := tx_at_lt (by rw [e2.1]; decide)
      obtain ⟨R1, S1, g1, v1, E1, q1⟩ := (h0 e2.2) m (sm_upd R 3 ((nI p) + 1)) S g v h8 h9 (p + 1) s (by omega) (by omega) (show (sm_upd R 3 ((nI p) + 1)) 3 = nI (p + 1) from Eq.trans tx_upE (nI_succ p).symm) (Eq.trans (tx_upN (by decide)) hg) (Eq.trans (tx_upN (by decide)) hnm) hs
      obtain ⟨c1, c2, c3, c6, c5⟩ := q1
      obtain ⟨G1, G2, G3⟩ := hG0 (p + 1) (by omega)
      by_cases ok : (f0 (p + 1)).1 = true
      · have c4 : R1 4 = 1 := by rw [c2, ok]; rfl
        by_cases h41 : tx_at T b (f0 (p + 1)).2.1 = 41
        · rw [if_pos ⟨ok, h41⟩]
          obtain ⟨d1, d2, d3⟩ := c5 ok
          exact ⟨_, _, _, _, ⟨by
            refine mz_go 4 (c' := (8, [some (.ref 53), some (.int (nI o)), none], [.int (R 3), .ref 8], mz_set (mz_set (mz_set (mz_set m 53 R) 54 S) 55 g) 56 v)) rfl ?_
            rw [hp]
            refine mz_doQ (R := mz_r54) (as := [.ref 8, .int (nI p)]) (rest := []) (r1 := some (.int (tx_at T b p))) (m1 := mz_set (mz_set (mz_set (mz_set m 53 R) 54 S) 55 g) 56 v) mz_t54 mz_v54_8 rfl rfl rfl rfl rfl ((tc_at (m := mz_set (mz_set (mz_set (mz_set m 53 R) 54 S) 55 g) 56 v) hT h8 h9 (x := nI p) (p := p) rfl (by omega)).deep (by omega)) ?_
            refine mz_go 2 (c' := (13, [some (.ref 53), some (.int (nI o)), some (.int (tx_at T b p))], [.int (tx_at T b p)], mz_set (mz_set (mz_set (mz_set m 53 R) 54 S) 55 g) 56 v)) rfl ?_
            refine mz_doQ (R := mz_r35) (as := [.int (tx_at T b p)]) (rest := []) (r1 := some (.int (sm_bI (tx_dig (tx_at T b p))))) (m1 := mz_set (mz_set (mz_set (mz_set m 53 R) 54 S) 55 g) 56 v) mz_t35 mz_v35 rfl rfl rfl rfl rfl ((tc_dig (m := mz_set (mz_set (mz_set (mz_set m 53 R) 54 S) 55 g) 56 v) (tx_at T b p)).deep (by omega)) ?_
            refine mz_go 1 (c' := (if (sm_bI (tx_dig (tx_at T b p))) = 0 then 26 else 19, [some (.ref 53), some (.int (nI o)), some (.int (tx_at T b p))], [], mz_set (mz_set (mz_set (mz_set m 53 R) 54 S) 55 g) 56 v)) rfl ?_
            refine mz_ifT hd ?_
            refine mz_go 3 (c' := (if (tx_at T b p) = 40 then 32 else 62, [some (.ref 53), some (.int (nI o)), some (.int (tx_at T b p))], [], mz_set (mz_set (mz_set (mz_set m 53 R) 54 S) 55 g) 56 v)) rfl ?_
            refine mz_ifT e2.1 ?_
            refine mz_go 3 (c' := (if 5 ≤ (nI o) then 62 else 37, [some (.ref 53), some (.int (nI o)), some (.int (tx_at T b p))], [], mz_set (mz_set (mz_set (mz_set m 53 R) 54 S) 55 g) 56 v)) rfl ?_
            refine mz_ifF (show ¬ (5 ≤ (nI o)) from (sm_nleN rfl rfl (show o < 5 by omega) (show 5 < 2 ^ 31 by omega))) ?_
            refine mz_go 3 (c' := (42, [some (.ref 53), some (.int (nI o)), some (.int (tx_at T b p))], [.int (R 3), .ref 53], mz_set (mz_set (mz_set (mz_set m 53 R) 54 S) 55 g) 56 v)) rfl ?_
            rw [hp]
            refine mz_go 3 (c' := (47, [some (.ref 53), some (.int (nI o)), some (.int (tx_at T b p))], [], mz_up (mz_set (mz_set (mz_set (mz_set m 53 R) 54 S) 55 g) 56 v) 53 3 ((nI p) + 1))) rfl ?_
            rw [tx_up53]
            refine mz_go 5 (c' := (52, [some (.ref 53), some (.int (nI o)), some (.int (tx_at T b p))], [.int ((nI o) + 1), .int 0, .ref 53], mz_set (mz_set (mz_set (mz_set m 53 (sm_upd R 3 ((nI p) + 1))) 54 S) 55 g) 56 v)) rfl ?_
            refine mz_doQ (R := mz_r29) (as := [.ref 53, .int 0, .int ((nI o) + 1)]) (rest := []) (r1 := none) (m1 := mz_set (mz_set (mz_set (mz_set m 53 R1) 54 S1) 55 g1) 56 v1) mz_t29 mz_v29_53 rfl rfl rfl rfl rfl (E1.deep (by omega)) ?_
            refine mz_go 1 (c' := (56, [some (.ref 53), some (.int (nI o)), some (.int (tx_at T b p))], [.ref 53], mz_set (mz_set (mz_set (mz_set m 53 R1) 54 S1) 55 g1) 56 v1)) rfl ?_
            refine mz_doQ (R := mz_r32) (as := [.ref 53]) (rest := []) (r1 := none) (m1 := mz_set (mz_set (mz_set (mz_set m 53 (sm_upd R1 3 ((nI ((f0 (p + 1)).2.1)) + 1))) 54 S1) 55 g1) 56 v1) mz_t32 mz_v32_53 rfl rfl rfl rfl rfl ⟨?_, rfl⟩ ?_
            · refine mz_go 2 (c' := (4, [some (.ref 53)], [.int (R1 4)], mz_set (mz_set (mz_set (mz_set m 53 R1) 54 S1) 55 g1) 56 v1)) rfl ?_
              rw [c4]
              refine mz_go 5 (c' := (15, [some (.ref 53)], [.int (R1 3), .ref 8], mz_set (mz_set (mz_set (mz_set m 53 R1) 54 S1) 55 g1) 56 v1)) rfl ?_
              rw [c1]
              refine mz_doQ (R := mz_r54) (as := [.ref 8, .int (nI ((f0 (p + 1)).2.1))]) (rest := []) (r1 := some (.int (tx_at T b ((f0 (p + 1)).2.1)))) (m1 := mz_set (mz_set (mz_set (mz_set m 53 R1) 54 S1) 55 g1) 56 v1) mz_t54 mz_v54_8 rfl rfl rfl rfl rfl ((tc_at (m := mz_set (mz_set (mz_set (mz_set m 53 R1) 54 S1) 55 g1) 56 v1) hT h8 h9 (x := nI ((f0 (p + 1)).2.1)) (p := (f0 (p + 1)).2.1) rfl (by omega)).deep (by omega)) ?_
              refine mz_go 2 (c' := (if (tx_at T b ((f0 (p + 1)).2.1)) = 41 then 23 else 36, [some (.ref 53)], [], mz_set (mz_set (mz_set (mz_set m 53 R1) 54 S1) 55 g1) 56 v1)) rfl ?_
              refine mz_ifT h41 ?_
              refine mz_go 3 (c' := (28, [some (.ref 53)], [.int (R1 3), .ref 53], mz_set (mz_set (mz_set (mz_set m 53 R1) 54 S1) 55 g1) 56 v1)) rfl ?_
              rw [c1]
              refine mz_go 3 (c' := (33, [some (.ref 53)], [], mz_up (mz_set (mz_set (mz_set (mz_set m 53 R1) 54 S1) 55 g1) 56 v1) 53 3 ((nI ((f0 (p + 1)).2.1)) + 1))) rfl ?_
              rw [tx_up53]
              refine mz_go 1 (c' := (41, [some (.ref 53)], [], mz_set (mz_set (mz_set (mz_set m 53 (sm_upd R1 3 ((nI ((f0 (p + 1)).2.1)) + 1))) 54 S1) 55 g1) 56 v1)) rfl ?_
              exact mz_ret rfl
            refine mz_go 1 (c' := (108, [some (.ref 53), some (.int (nI o)), some (.int (tx_at T b p))], [], mz_set (mz_set (mz_set (mz_set m 53 (sm_upd R1 3 ((nI ((f0 (p + 1)).2.1)) + 1))) 54 S1) 55 g1) 56 v1)) rfl ?_
            exact mz_ret rfl, rfl⟩, Eq.trans tx_upE (nI_succ _).symm, Eq.trans (tx_upN (by decide)) c4, Eq.trans (tx_upN (by decide)) c3, c6, fun _ => ⟨d1, d2, d3⟩⟩
        · rw [if_neg (fun z => h41 z.2)]
          exact ⟨_, _, _, _, ⟨by
            refine mz_go 4 (c' := (8, [some (.ref 53), some (.int (nI o)), none], [.int (R 3), .ref 8], mz_set (mz_set (mz_set (mz_set m 53 R) 54 S) 55 g) 56 v)) rfl ?_
            rw [hp]
            refine mz_doQ (R := mz_r54) (as := [.ref 8, .int (nI p)]) (rest := []) (r1 := some (.int (tx_at T b p))) (m1 := mz_set (mz_set (mz_set (mz_set m 53 R) 54 S) 55 g) 56 v) mz_t54 mz_v54_8 rfl rfl rfl rfl rfl ((tc_at (m := mz_set (mz_set (mz_set (mz_set m 53 R) 54 S) 55 g) 56 v) hT h8 h9 (x := nI p) (p := p) rfl (by omega)).deep (by omega)) ?_
            refine mz_go 2 (c' := (13, [some (.ref 53), some (.int (nI o)), some (.int (tx_at T b p))], [.int (tx_at T b p)], mz_set (mz_set (mz_set (mz_set m 53 R) 54 S) 55 g) 56 v)) rfl ?_
            refine mz_doQ (R := mz_r35) (as := [.int (tx_at T b p)]) (rest := []) (r1 := some (.int (sm_bI (tx_dig (tx_at T b p))))) (m1 := mz_set (mz_set (mz_set (mz_set m 53 R) 54 S) 55 g) 56 v) mz_t35 mz_v35 rfl rfl rfl rfl rfl ((tc_dig (m := mz_set (mz_set (mz_set (mz_set m 53 R) 54 S) 55 g) 56 v) (tx_at T b p)).deep (by omega)) ?_
            refine mz_go 1 (c' := (if (sm_bI (tx_dig (tx_at T b p))) = 0 then 26 else 19, [some (.ref 53), some (.int (nI o)), some (.int (tx_at T b p))], [], mz_set (mz_set (mz_set (mz_set m 53 R) 54 S) 55 g) 56 v)) rfl ?_
            refine mz_ifT hd ?_
            refine mz_go 3 (c' := (if (tx_at T b p) = 40 then 32 else 62, [some (.ref 53), some (.int (nI o)), some (.int (tx_at T b p))], [], mz_set (mz_set (mz_set (mz_set m 53 R) 54 S) 55 g) 56 v)) rfl ?_
            refine mz_ifT e2.1 ?_
            refine mz_go 3 (c' := (if 5 ≤ (nI o) then 62 else 37, [some (.ref 53), some (.int (nI o)), some (.int (tx_at T b p))], [], mz_set (mz_set (mz_set (mz_set m 53 R) 54 S) 55 g) 56 v)) rfl ?_
            refine mz_ifF (show ¬ (5 ≤ (nI o)) from (sm_nleN rfl rfl (show o < 5 by omega) (show 5 < 2 ^ 31 by omega))) ?_
            refine mz_go 3 (c' := (42, [some (.ref 53), some (.int (nI o)), some (.int (tx_at T b p))], [.int (R 3), .ref 53], mz_set (mz_set (mz_set (mz_set m 53 R) 54 S) 55 g) 56 v)) rfl ?_
            rw [hp]
            refine mz_go 3 (c' := (47, [some (.ref 53), some (.int (nI o)), some (.int (tx_at T b p))], [], mz_up (mz_set (mz_set (mz_set (mz_set m 53 R) 54 S) 55 g) 56 v) 53 3 ((nI p) + 1))) rfl ?_
            rw [tx_up53]
            refine mz_go 5 (c' := (52, [some (.ref 53), some (.int (nI o)), some (.int (tx_at T b p))], [.int ((nI o) + 1), .int 0, .ref 53], mz_set (mz_set (mz_set (mz_set m 53 (sm_upd R 3 ((nI p) + 1))) 54 S) 55 g) 56 v)) rfl ?_
            refine mz_doQ (R := mz_r29) (as := [.ref 53, .int 0, .int ((nI o) + 1)]) (rest := []) (r1 := none) (m1 := mz_set (mz_set (mz_set (mz_set m 53 R1) 54 S1) 55 g1) 56 v1) mz_t29 mz_v29_53 rfl rfl rfl rfl rfl (E1.deep (by omega)) ?_
            refine mz_go 1 (c' := (56, [some (.ref 53), some (.int (nI o)), some (.int (tx_at T b p))], [.ref 53], mz_set (mz_set (mz_set (mz_set m 53 R1) 54 S1) 55 g1) 56 v1)) rfl ?_
            refine mz_doQ (R := mz_r32) (as := [.ref 53]) (rest := []) (r1 := none) (m1 := mz_set (mz_set (mz_set (mz_set m 53 (sm_upd R1 4 0)) 54 S1) 55 g1) 56 v1) mz_t32 mz_v32_53 rfl rfl rfl rfl rfl ⟨?_, rfl⟩ ?_
            · refine mz_go 2 (c' := (4, [some (.ref 53)], [.int (R1 4)], mz_set (mz_set (mz_set (mz_set m 53 R1) 54 S1) 55 g1) 56 v1)) rfl ?_
              rw [c4]
              refine mz_go 5 (c' := (15, [some (.ref 53)], [.int (R1 3), .ref 8], mz_set (mz_set (mz_set (mz_set m 53 R1) 54 S1) 55 g1) 56 v1)) rfl ?_
              rw [c1]
              refine mz_doQ (R := mz_r54) (as := [.ref 8, .int (nI ((f0 (p + 1)).2.1))]) (rest := []) (r1 := some (.int (tx_at T b ((f0 (p + 1)).2.1)))) (m1 := mz_set (mz_set (mz_set (mz_set m 53 R1) 54 S1) 55 g1) 56 v1) mz_t54 mz_v54_8 rfl rfl rfl rfl rfl ((tc_at (m := mz_set (mz_set (mz_set (mz_set m 53 R1) 54 S1) 55 g1) 56 v1) hT h8 h9 (x := nI ((f0 (p + 1)).2.1)) (p := (f0 (p + 1)).2.1) rfl (by omega)).deep (by omega)) ?_
              refine mz_go 2 (c' := (if (tx_at T b ((f0 (p + 1)).2.1)) = 41 then 23 else 36, [some (.ref 53)], [], mz_set (mz_set (mz_set (mz_set m 53 R1) 54 S1) 55 g1) 56 v1)) rfl ?_
              refine mz_ifF h41 ?_
              refine mz_go 3 (c' := (41, [some (.ref 53)], [], mz_up (mz_set (mz_set (mz_set (mz_set m 53 R1) 54 S1) 55 g1) 56 v1) 53 4 0)) rfl ?_
              rw [tx_up53]
              exact mz_ret rfl
            refine mz_go 1 (c' := (108, [some (.ref 53), some (.int (nI o)), some (.int (tx_at T b p))], [], mz_set (mz_set (mz_set (mz_set m 53 (sm_upd R1 4 0)) 54 S1) 55 g1) 56 v1)) rfl ?_
            exact mz_ret rfl, rfl⟩, Eq.trans (tx_upN (by decide)) c1, tx_upE, Eq.trans (tx_upN (by decide)) c3, c6, fun z => absurd z Bool.false_ne_true⟩
      · have c4 : R1 4 = 0 := by rw [c2, eq_false_of_ne_true ok]; rfl
        rw [if_neg (fun z => ok z.1)]
        exact ⟨_, _, _, _, ⟨by
          refine mz_go 4 (c' := (8, [some (.ref 53), some (.int (nI o)), none], [.int (R 3), .ref 8], mz_set (mz_set (mz_set (mz_set m 53 R) 54 S) 55 g) 56 v)) rfl ?_
          rw [hp]
          refine mz_doQ (R := mz_r54) (as := [.ref 8, .int (nI p)]) (rest := []) (r1 := some (.int (tx_at T b p))) (m1 := mz_set (mz_set (mz_set (mz_set m 53 R) 54 S) 55 g) 56 v) mz_t54 mz_v54_8 rfl rfl rfl rfl rfl ((tc_at (m := mz_set (mz_set (mz_set (mz_set m 53 R) 54 S) 55 g) 56 v) hT h8 h9 (x := nI p) (p := p) rfl (by omega)).deep (by omega)) ?_
          refine mz_go 2 (c' := (13, [some (.ref 53), some (.int (nI o)), some (.int (tx_at T b p))], [.int (tx_at T b p)], mz_set (mz_set (mz_set (mz_set m 53 R) 54 S) 55 g) 56 v)) rfl ?_
          refine mz_doQ (R := mz_r35) (as := [.int (tx_at T b p)]) (rest := []) (r1 := some (.int (sm_bI (tx_dig (tx_at T b p))))) (m1 := mz_set (mz_set (mz_set (mz_set m 53 R) 54 S) 55 g) 56 v) mz_t35 mz_v35 rfl rfl rfl rfl rfl ((tc_dig (m := mz_set (mz_set (mz_set (mz_set m 53 R) 54 S) 55 g) 56 v) (tx_at T b p)).deep (by omega)) ?_
          refine mz_go 1 (c' := (if (sm_bI (tx_dig (tx_at T b p))) = 0 then 26 else 19, [some (.ref 53), some (.int (nI o)), some (.int (tx_at T b p))], [], mz_set (mz_set (mz_set (mz_set m 53 R) 54 S) 55 g) 56 v)) rfl ?_
          refine mz_ifT hd ?_
          refine mz_go 3 (c' := (if (tx_at T b p) = 40 then 32 else 62, [some (.ref 53), some (.int (nI o)), some (.int (tx_at T b p))], [], mz_set (mz_set (mz_set (mz_set m 53 R) 54 S) 55 g) 56 v)) rfl ?_
          refine mz_ifT e2.1 ?_
          refine mz_go 3 (c' := (if 5 ≤ (nI o) then 62 else 37, [some (.ref 53), some (.int (nI o)), some (.int (tx_at T b p))], [], mz_set (mz_set (mz_set (mz_set m 53 R) 54 S) 55 g) 56 v)) rfl ?_
          refine mz_ifF (show ¬ (5 ≤ (nI o)) from (sm_nleN rfl rfl (show o < 5 by omega) (show 5 < 2 ^ 31 by omega))) ?_
          refine mz_go 3 (c' := (42, [some (.ref 53), some (.int (nI o)), some (.int (tx_at T b p))], [.int (R 3), .ref 53], mz_set (mz_set (mz_set (mz_set m 53 R) 54 S) 55 g) 56 v)) rfl ?_
          rw [hp]
          refine mz_go 3 (c' := (47, [some (.ref 53), some (.int (nI o)), some (.int (tx_at T b p))], [], mz_up (mz_set (mz_set (mz_set (mz_set m 53 R) 54 S) 55 g) 56 v) 53 3 ((nI p) + 1))) rfl ?_
          rw [tx_up53]
          refine mz_go 5 (c' := (52, [some (.ref 53), some (.int (nI o)), some (.int (tx_at T b p))], [.int ((nI o) + 1), .int 0, .ref 53], mz_set (mz_set (mz_set (mz_set m 53 (sm_upd R 3 ((nI p) + 1))) 54 S) 55 g) 56 v)) rfl ?_
          refine mz_doQ (R := mz_r29) (as := [.ref 53, .int 0, .int ((nI o) + 1)]) (rest := []) (r1 := none) (m1 := mz_set (mz_set (mz_set (mz_set m 53 R1) 54 S1) 55 g1) 56 v1) mz_t29 mz_v29_53 rfl rfl rfl rfl rfl (E1.deep (by omega)) ?_
          refine mz_go 1 (c' := (56, [some (.ref 53), some (.int (nI o)), some (.int (tx_at T b p))], [.ref 53], mz_set (mz_set (mz_set (mz_set m 53 R1) 54 S1) 55 g1) 56 v1)) rfl ?_
          refine mz_doQ (R := mz_r32) (as := [.ref 53]) (rest := []) (r1 := none) (m1 := mz_set (mz_set (mz_set (mz_set m 53 (sm_upd R1 4 0)) 54 S1) 55 g1) 56 v1) mz_t32 mz_v32_53 rfl rfl rfl rfl rfl ⟨?_, rfl⟩ ?_
          · refine mz_go 2 (c' := (4, [some (.ref 53)], [.int (R1 4)], mz_set (mz_set (mz_set (mz_set m 53 R1) 54 S1) 55 g1) 56 v1)) rfl ?_
            rw [c4]
            refine mz_go 4 (c' := (41, [some (.ref 53)], [], mz_up (mz_set (mz_set (mz_set (mz_set m 53 R1) 54 S1) 55 g1) 56 v1) 53 4 0)) rfl ?_
            rw [tx_up53]
            exact mz_ret rfl
          refine mz_go 1 (c' := (108, [some (.ref 53), some (.int (nI o)), some (.int (tx_at T b p))], [], mz_set (mz_set (mz_set (mz_set m 53 (sm_upd R1 4 0)) 54 S1) 55 g1) 56 v1)) rfl ?_
          exact mz_ret rfl, rfl⟩, Eq.trans (tx_upN (by decide)) c1, tx_upE, Eq.trans (tx_upN (by decide)) c3, c6, fun z => absurd z Bool.false_ne_true⟩
    · rw [if_neg e2]
      by_cases e3 : tx_at T b p = 33 ∧ o < 5
      · rw [if_pos e3]
        have hlt : p < T := tx_at_lt (by rw [e3.1]; decide)
        obtain ⟨R1, S1, g1, v1, E1, q1⟩ := (h5 e3.2) m (sm_upd R 3 ((nI p) + 1)) S g v h8 h9 (p + 1) s (by omega) (by omega) (show (sm_upd R 3 ((nI p) + 1)) 3 = nI (p + 1) from Eq.trans tx_upE (nI_succ p).symm) (Eq.trans (tx_upN (by decide)) hg) (Eq.trans (tx_upN (by decide)) hnm) hs
        obtain ⟨c1, c2, c3, c6, c5⟩ := q1
        obtain ⟨G1, G2, G3⟩ := hG5 (p + 1) (by omega)
        have hq1 : tx_S u (f5 (p + 1)) s g v R1 S1 g1 v1 := ⟨c1, c2, c3, c6, c5⟩
        by_cases ok : (f5 (p + 1)).1 = true
        · obtain ⟨d1, d2, d3⟩ := c5 ok
          obtain ⟨G4, G5, -⟩ := G3 ok
          have EA := tc_add2 (m := m) (R := R1) (S := S1) (g := g1) (v := v1) (s := (s + (f5 (p + 1)).2.2.length)) (by omega) d1 33 0
          exact ⟨_, _, _, _, ⟨by
            refine mz_go 4 (c' := (8, [some (.ref 53), some (.int (nI o)), none], [.int (R 3), .ref 8], mz_set (mz_set (mz_set (mz_set m 53 R) 54 S) 55 g) 56 v)) rfl ?_
            rw [hp]
            refine mz_doQ (R := mz_r54) (as := [.ref 8, .int (nI p)]) (rest := []) (r1 := some (.int (tx_at T b p))) (m1 := mz_set (mz_set (mz_set (mz_set m 53 R) 54 S) 55 g) 56 v) mz_t54 mz_v54_8 rfl rfl rfl rfl rfl ((tc_at (m := mz_set (mz_set (mz_set (mz_set m 53 R) 54 S) 55 g) 56 v) hT h8 h9 (x := nI p) (p := p) rfl (by omega)).deep (by omega)) ?_
            refine mz_go 2 (c' := (13, [some (.ref 53), some (.int (nI o)), some (.int (tx_at T b p))], [.int (tx_at T b p)], mz_set (mz_set (mz_set (mz_set m 53 R) 54 S) 55 g) 56 v)) rfl ?_
            refine mz_doQ (R := mz_r35) (as := [.int (tx_at T b p)]) (rest := []) (r1 := some (.int (sm_bI (tx_dig (tx_at T b p))))) (m1 := mz_set (mz_set (mz_set (mz_set m 53 R) 54 S) 55 g) 56 v) mz_t35 mz_v35 rfl rfl rfl rfl rfl ((tc_dig (m := mz_set (mz_set (mz_set (mz_set m 53 R) 54 S) 55 g) 56 v) (tx_at T b p)).deep (by omega)) ?_
            refine mz_go 1 (c' := (if (sm_bI (tx_dig (tx_at T b p))) = 0 then 26 else 19, [some (.ref 53), some (.int (nI o)), some (.int (tx_at T b p))], [], mz_set (mz_set (mz_set (mz_set m 53 R) 54 S) 55 g) 56 v)) rfl ?_
            refine mz_ifT hd ?_
            refine mz_go 3 (c' := (if (tx_at T b p) = 40 then 32 else 62, [some (.ref 53), some (.int (nI o)), some (.int (tx_at T b p))], [], mz_set (mz_set (mz_set (mz_set m 53 R) 54 S) 55 g) 56 v)) rfl ?_
            refine mz_ifF (by rw [e3.1]; decide) ?_
            refine mz_go 3 (c' := (if (tx_at T b p) = 33 then 68 else 103, [some (.ref 53), some (.int (nI o)), some (.int (tx_at T b p))], [], mz_set (mz_set (mz_set (mz_set m 53 R) 54 S) 55 g) 56 v)) rfl ?_
            refine mz_ifT e3.1 ?_
            refine mz_go 3 (c' := (if 5 ≤ (nI o) then 103 else 73, [some (.ref 53), some (.int (nI o)), some (.int (tx_at T b p))], [], mz_set (mz_set (mz_set (mz_set m 53 R) 54 S) 55 g) 56 v)) rfl ?_
            refine mz_ifF (show ¬ (5 ≤ (nI o)) from (sm_nleN rfl rfl (show o < 5 by omega) (show 5 < 2 ^ 31 by omega))) ?_
            refine mz_go 3 (c' := (78, [some (.ref 53), some (.int (nI o)), some (.int (tx_at T b p))], [.int (R 3), .ref 53], mz_set (mz_set (mz_set (mz_set m 53 R) 54 S) 55 g) 56 v)) rfl ?_
            rw [hp]
            refine mz_go 3 (c' := (83, [some (.ref 53), some (.int (nI o)), some (.int (tx_at T b p))], [], mz_up (mz_set (mz_set (mz_set (mz_set m 53 R) 54 S) 55 g) 56 v) 53 3 ((nI p) + 1))) rfl ?_
            rw [tx_up53]
            refine mz_go 4 (c' := (87, [some (.ref 53), some (.int (nI o)), some (.int (tx_at T b p))], [.int ((nI o) + 1), .ref 53], mz_set (mz_set (mz_set (mz_set m 53 (sm_upd R 3 ((nI p) + 1))) 54 S) 55 g) 56 v)) rfl ?_
            refine mz_doQ (R := mz_r31) (as := [.ref 53, .int ((nI o) + 1)]) (rest := []) (r1 := none) (m1 := mz_set (mz_set (mz_set (mz_set m 53 R1) 54 S1) 55 g1) 56 v1) mz_t31 mz_v31_53 rfl rfl rfl rfl rfl (E1.deep (by omega)) ?_
            refine mz_go 4 (c' := (97, [some (.ref 53), some (.int (nI o)), some (.int (tx_at T b p))], [.int 0, .int 33, .ref 54], mz_set (mz_set (mz_set (mz_set m 53 R1) 54 S1) 55 g1) 56 v1)) rfl ?_
            refine mz_doQ (R := mz_r56) (as := [.ref 54, .int 33, .int 0]) (rest := []) (r1 := none) (m1 := mz_set (mz_set (mz_set (mz_set m 53 R1) 54 (sm_upd S1 2 (nI (s + (f5 (p + 1)).2.2.length) + 1))) 55 (sm_upd g1 (s + (f5 (p + 1)).2.2.length) 33)) 56 (sm_upd v1 (s + (f5 (p + 1)).2.2.length) 0)) mz_t56 mz_v56_54 rfl rfl rfl rfl rfl (EA.deep (by omega)) ?_
            refine mz_go 1 (c' := (108, [some (.ref 53), some (.int (nI o)), some (.int (tx_at T b p))], [], mz_set (mz_set (mz_set (mz_set m 53 R1) 54 (sm_upd S1 2 (nI (s + (f5 (p + 1)).2.2.length) + 1))) 55 (sm_upd g1 (s + (f5 (p + 1)).2.2.length) 33)) 56 (sm_upd v1 (s + (f5 (p + 1)).2.2.length) 0))) rfl ?_
            exact mz_ret rfl, rfl⟩, tx_S_step (u := u) (r := (true, p, [])) (q := f5 (p + 1)) (c := 33) rfl (tx_S_base (by omega) hp hg hnm hs) hq1 ok (by show s + 0 + (f5 (p + 1)).2.2.length < 60; omega)⟩
        · obtain ⟨z, hz, hz2⟩ := c6
          obtain ⟨S2, g2, v2, EA, hz3⟩ := tc_add3 (m := m) (R := R1) (S := S1) (g := g1) (v := v1) hz hz2 33 0
          exact ⟨_, _, _, _, ⟨by
            refine mz_go 4 (c' := (8, [some (.ref 53), some (.int (nI o)), none], [.int (R 3), .ref 8], mz_set (mz_set (mz_set (mz_set m 53 R) 54 S) 55 g) 56 v)) rfl ?_
            rw [hp]
            refine mz_doQ (R := mz_r54) (as := [.ref 8, .int (nI p)]) (rest := []) (r1 := some (.int (tx_at T b p))) (m1 := mz_set (mz_set (mz_set (mz_set m 53 R) 54 S) 55 g) 56 v) mz_t54 mz_v54_8 rfl rfl rfl rfl rfl ((tc_at (m := mz_set (mz_set (mz_set (mz_set m 53 R) 54 S) 55 g) 56 v) hT h8 h9 (x := nI p) (p := p) rfl (by omega)).deep (by omega)) ?_
            refine mz_go 2 (c' := (13, [some (.ref 53), some (.int (nI o)), some (.int (tx_at T b p))], [.int (tx_at T b p)], mz_set (mz_set (mz_set (mz_set m 53 R) 54 S) 55 g) 56 v)) rfl ?_
            refine mz_doQ (R := mz_r35) (as := [.int (tx_at T b p)]) (rest := []) (r1 := some (.int (sm_bI (tx_dig (tx_at T b p))))) (m1 := mz_set (mz_set (mz_set (mz_set m 53 R) 54 S) 55 g) 56 v) mz_t35 mz_v35 rfl rfl rfl rfl rfl ((tc_dig (m := mz_set (mz_set (mz_set (mz_set m 53 R) 54 S) 55 g) 56 v) (tx_at T b p)).deep (by omega)) ?_
            refine mz_go 1 (c' := (if (sm_bI (tx_dig (tx_at T b p))) = 0 then 26 else 19, [some (.ref 53), some (.int (nI o)), some (.int (tx_at T b p))], [], mz_set (mz_set (mz_set (mz_set m 53 R) 54 S) 55 g) 56 v)) rfl ?_
            refine mz_ifT hd ?_
            refine mz_go 3 (c' := (if (tx_at T b p) = 40 then 32 else 62, [some (.ref 53), some (.int (nI o)), some (.int (tx_at T b p))], [], mz_set (mz_set (mz_set (mz_set m 53 R) 54 S) 55 g) 56 v)) rfl ?_
            refine mz_ifF (by rw [e3.1]; decide) ?_
            refine mz_go 3 (c' := (if (tx_at T b p) = 33 then 68 else 103, [some (.ref 53), some (.int (nI o)), some (.int (tx_at T b p))], [], mz_set (mz_set (mz_set (mz_set m 53 R) 54 S) 55 g) 56 v)) rfl ?_
            refine mz_ifT e3.1 ?_
            refine mz_go 3 (c' := (if 5 ≤ (nI o) then 103 else 73, [some (.ref 53), some (.int (nI o)), some (.int (tx_at T b p))], [], mz_set (mz_set (mz_set (mz_set m 53 R) 54 S) 55 g) 56 v)) rfl ?_
            refine mz_ifF (show ¬ (5 ≤ (nI o)) from (sm_nleN rfl rfl (show o < 5 by omega) (show 5 < 2 ^ 31 by omega))) ?_
            refine mz_go 3 (c' := (78, [some (.ref 53), some (.int (nI o)), some (.int (tx_at T b p))], [.int (R 3), .ref 53], mz_set (mz_set (mz_set (mz_set m 53 R) 54 S) 55 g) 56 v)) rfl ?_
            rw [hp]
            refine mz_go 3 (c' := (83, [some (.ref 53), some (.int (nI o)), some (.int (tx_at T b p))], [], mz_up (mz_set (mz_set (mz_set (mz_set m 53 R) 54 S) 55 g) 56 v) 53 3 ((nI p) + 1))) rfl ?_
            rw [tx_up53]
            refine mz_go 4 (c' := (87, [some (.ref 53), some (.int (nI o)), some (.int (tx_at T b p))], [.int ((nI o) + 1), .ref 53], mz_set (mz_set (mz_set (mz_set m 53 (sm_upd R 3 ((nI p) + 1))) 54 S) 55 g) 56 v)) rfl ?_
            refine mz_doQ (R := mz_r31) (as := [.ref 53, .int ((nI o) + 1)]) (rest := []) (r1 := none) (m1 := mz_set (mz_set (mz_set (mz_set m 53 R1) 54 S1) 55 g1) 56 v1) mz_t31 mz_v31_53 rfl rfl rfl rfl rfl (E1.deep (by omega)) ?_
            refine mz_go 4 (c' := (97, [some (.ref 53), some (.int (nI o)), some (.int (tx_at T b p))], [.int 0, .int 33, .ref 54], mz_set (mz_set (mz_set (mz_set m 53 R1) 54 S1) 55 g1) 56 v1)) rfl ?_
            refine mz_doQ (R := mz_r56) (as := [.ref 54, .int 33, .int 0]) (rest := []) (r1 := none) (m1 := mz_set (mz_set (mz_set (mz_set m 53 R1) 54 S2) 55 g2) 56 v2) mz_t56 mz_v56_54 rfl rfl rfl rfl rfl (EA.deep (by omega)) ?_
            refine mz_go 1 (c' := (108, [some (.ref 53), some (.int (nI o)), some (.int (tx_at T b p))], [], mz_set (mz_set (mz_set (mz_set m 53 R1) 54 S2) 55 g2) 56 v2)) rfl ?_
            exact mz_ret rfl, rfl⟩, tx_S_fail hq1 ok hz3⟩
      · rw [if_neg e3]
        cases hj : tx_name u (tx_at T b p) with
        | some j =>
          have hlt := tx_name_lt hj
          have hj5 : j < 5 := Nat.lt_of_lt_of_le (tx_name_c hu hj) (by unfold tx_c; split <;> decide)
          have EN := tc_nmS hu (m := m) (R := R) (S := S) (g := g) (v := v) (p := p) (s := s) (tx_at_N hT hb hlt) hj (by omega) hp hnm hs hj5
          refine ⟨sm_upd R 3 ((nI p) + 1), sm_upd S 2 (nI s + 1), sm_upd g s 1, sm_upd v s (nI j), ⟨?_, rfl⟩, tx_S_one (u := u) (P := p + 1) (a := 1) (c := nI j) (by omega) (Eq.trans tx_upE (nI_succ p).symm) (Eq.trans (tx_upN (by decide)) hg) (Eq.trans (tx_upN (by decide)) hnm)⟩
          by_cases h40 : tx_at T b p = 40
          · have ho : ¬ o < 5 := fun z => e2 ⟨h40, z⟩
            have h33 : ¬ tx_at T b p = 33 := by rw [h40]; decide
            refine mz_go 4 (c' := (8, [some (.ref 53), some (.int (nI o)), none], [.int (R 3), .ref 8], mz_set (mz_set (mz_set (mz_set m 53 R) 54 S) 55 g) 56 v)) rfl ?_
            rw [hp]
            refine mz_doQ (R := mz_r54) (as := [.ref 8, .int (nI p)]) (rest := []) (r1 := some (.int (tx_at T b p))) (m1 := mz_set (mz_set (mz_set (mz_set m 53 R) 54 S) 55 g) 56 v) mz_t54 mz_v54_8 rfl rfl rfl rfl rfl ((tc_at (m := mz_set (mz_set (mz_set (mz_set m 53 R) 54 S) 55 g) 56 v) hT h8 h9 (x := nI p) (p := p) rfl (by omega)).deep (by omega)) ?_
            refine mz_go 2 (c' := (13, [some (.ref 53), some (.int (nI o)), some (.int (tx_at T b p))], [.int (tx_at T b p)], mz_set (mz_set (mz_set (mz_set m 53 R) 54 S) 55 g) 56 v)) rfl ?_
            refine mz_doQ (R := mz_r35) (as := [.int (tx_at T b p)]) (rest := []) (r1 := some (.int (sm_bI (tx_dig (tx_at T b p))))) (m1 := mz_set (mz_set (mz_set (mz_set m 53 R) 54 S) 55 g) 56 v) mz_t35 mz_v35 rfl rfl rfl rfl rfl ((tc_dig (m := mz_set (mz_set (mz_set (mz_set m 53 R) 54 S) 55 g) 56 v) (tx_at T b p)).deep (by omega)) ?_
            refine mz_go 1 (c' := (if (sm_bI (tx_dig (tx_at T b p))) = 0 then 26 else 19, [some (.ref 53), some (.int (nI o)), some (.int (tx_at T b p))], [], mz_set (mz_set (mz_set (mz_set m 53 R) 54 S) 55 g) 56 v)) rfl ?_
            refine mz_ifT hd ?_
            refine mz_go 3 (c' := (if (tx_at T b p) = 40 then 32 else 62, [some (.ref 53), some (.int (nI o)), some (.int (tx_at T b p))], [], mz_set (mz_set (mz_set (mz_set m 53 R) 54 S) 55 g) 56 v)) rfl ?_
            refine mz_ifT h40 ?_
            refine mz_go 3 (c' := (if 5 ≤ (nI o) then 62 else 37, [some (.ref 53), some (.int (nI o)), some (.int (tx_at T b p))], [], mz_set (mz_set (mz_set (mz_set m 53 R) 54 S) 55 g) 56 v)) rfl ?_
            refine mz_ifT (show (5 ≤ (nI o)) from (sm_leN rfl rfl (show 5 ≤ o by omega) (show o < 2 ^ 31 by omega))) ?_
            refine mz_go 3 (c' := (if (tx_at T b p) = 33 then 68 else 103, [some (.ref 53), some (.int (nI o)), some (.int (tx_at T b p))], [], mz_set (mz_set (mz_set (mz_set m 53 R) 54 S) 55 g) 56 v)) rfl ?_
            refine mz_ifF h33 ?_
            refine mz_go 2 (c' := (105, [some (.ref 53), some (.int (nI o)), some (.int (tx_at T b p))], [.int (tx_at T b p), .ref 53], mz_set (mz_set (mz_set (mz_set m 53 R) 54 S) 55 g) 56 v)) rfl ?_
            refine mz_doQ (R := mz_r34) (as := [.ref 53, .int (tx_at T b p)]) (rest := []) (r1 := none) (m1 := mz_set (mz_set (mz_set (mz_set m 53 (sm_upd R 3 ((nI p) + 1))) 54 (sm_upd S 2 (nI s + 1))) 55 (sm_upd g s 1)) 56 (sm_upd v s (nI j))) mz_t34 mz_v34_53 rfl rfl rfl rfl rfl (EN.deep (by omega)) ?_
            exact mz_ret rfl
          · by_cases h33 : tx_at T b p = 33
            · have ho : ¬ o < 5 := fun z => e3 ⟨h33, z⟩
              refine mz_go 4 (c' := (8, [some (.ref 53), some (.int (nI o)), none], [.int (R 3), .ref 8], mz_set (mz_set (mz_set (mz_set m 53 R) 54 S) 55 g) 56 v)) rfl ?_
              rw [hp]
              refine mz_doQ (R := mz_r54) (as := [.ref 8, .int (nI p)]) (rest := []) (r1 := some (.int (tx_at T b p))) (m1 := mz_set (mz_set (mz_set (mz_set m 53 R) 54 S) 55 g) 56 v) mz_t54 mz_v54_8 rfl rfl rfl rfl rfl ((tc_at (m := mz_set (mz_set (mz_set (mz_set m 53 R) 54 S) 55 g) 56 v) hT h8 h9 (x := nI p) (p := p) rfl (by omega)).deep (by omega)) ?_
              refine mz_go 2 (c' := (13, [some (.ref 53), some (.int (nI o)), some (.int (tx_at T b p))], [.int (tx_at T b p)], mz_set (mz_set (mz_set (mz_set m 53 R) 54 S) 55 g) 56 v)) rfl ?_
              refine mz_doQ (R := mz_r35) (as := [.int (tx_at T b p)]) (rest := []) (r1 := some (.int (sm_bI (tx_dig (tx_at T b p))))) (m1 := mz_set (mz_set (mz_set (mz_set m 53 R) 54 S) 55 g) 56 v) mz_t35 mz_v35 rfl rfl rfl rfl rfl ((tc_dig (m := mz_set (mz_set (mz_set (mz_set m 53 R) 54 S) 55 g) 56 v) (tx_at T b p)).deep (by omega)) ?_
              refine mz_go 1 (c' := (if (sm_bI (tx_dig (tx_at T b p))) = 0 then 26 else 19, [some (.ref 53), some (.int (nI o)), some (.int (tx_at T b p))], [], mz_set (mz_set (mz_set (mz_set m 53 R) 54 S) 55 g) 56 v)) rfl ?_
              refine mz_ifT hd ?_
              refine mz_go 3 (c' := (if (tx_at T b p) = 40 then 32 else 62, [some (.ref 53), some (.int (nI o)), some (.int (tx_at T b p))], [], mz_set (mz_set (mz_set (mz_set m 53 R) 54 S) 55 g) 56 v)) rfl ?_
              refine mz_ifF h40 ?_
              refine mz_go 3 (c' := (if (tx_at T b p) = 33 then 68 else 103, [some (.ref 53), some (.int (nI o)), some (.int (tx_at T b p))], [], mz_set (mz_set (mz_set (mz_set m 53 R) 54 S) 55 g) 56 v)) rfl ?_
              refine mz_ifT h33 ?_
              refine mz_go 3 (c' := (if 5 ≤ (nI o) then 103 else 73, [some (.ref 53), some (.int (nI o)), some (.int (tx_at T b p))], [], mz_set (mz_set (mz_set (mz_set m 53 R) 54 S) 55 g) 56 v)) rfl ?_
              refine mz_ifT (show (5 ≤ (nI o)) from (sm_leN rfl rfl (show 5 ≤ o by omega) (show o < 2 ^ 31 by omega))) ?_
              refine mz_go 2 (c' := (105, [some (.ref 53), some (.int (nI o)), some (.int (tx_at T b p))], [.int (tx_at T b p), .ref 53], mz_set (mz_set (mz_set (mz_set m 53 R) 54 S) 55 g) 56 v)) rfl ?_
              refine mz_doQ (R := mz_r34) (as := [.ref 53, .int (tx_at T b p)]) (rest := []) (r1 := none) (m1 := mz_set (mz_set (mz_set (mz_set m 53 (sm_upd R 3 ((nI p) + 1))) 54 (sm_upd S 2 (nI s + 1))) 55 (sm_upd g s 1)) 56 (sm_upd v s (nI j))) mz_t34 mz_v34_53 rfl rfl rfl rfl rfl (EN.deep (by omega)) ?_
              exact mz_ret rfl
            · skip
              refine mz_go 4 (c' := (8, [some (.ref 53), some (.int (nI o)), none], [.int (R 3), .ref 8], mz_set (mz_set (mz_set (mz_set m 53 R) 54 S) 55 g) 56 v)) rfl ?_
              rw [hp]
              refine mz_doQ (R := mz_r54) (as := [.ref 8, .int (nI p)]) (rest := []) (r1 := some (.int (tx_at T b p))) (m1 := mz_set (mz_set (mz_set (mz_set m 53 R) 54 S) 55 g) 56 v) mz_t54 mz_v54_8 rfl rfl rfl rfl rfl ((tc_at (m := mz_set (mz_set (mz_set (mz_set m 53 R) 54 S) 55 g) 56 v) hT h8 h9 (x := nI p) (p := p) rfl (by omega)).deep (by omega)) ?_
              refine mz_go 2 (c' := (13, [some (.ref 53), some (.int (nI o)), some (.int (tx_at T b p))], [.int (tx_at T b p)], mz_set (mz_set (mz_set (mz_set m 53 R) 54 S) 55 g) 56 v)) rfl ?_
              refine mz_doQ (R := mz_r35) (as := [.int (tx_at T b p)]) (rest := []) (r1 := some (.int (sm_bI (tx_dig (tx_at T b p))))) (m1 := mz_set (mz_set (mz_set (mz_set m 53 R) 54 S) 55 g) 56 v) mz_t35 mz_v35 rfl rfl rfl rfl rfl ((tc_dig (m := mz_set (mz_set (mz_set (mz_set m 53 R) 54 S) 55 g) 56 v) (tx_at T b p)).deep (by omega)) ?_
              refine mz_go 1 (c' := (if (sm_bI (tx_dig (tx_at T b p))) = 0 then 26 else 19, [some (.ref 53), some (.int (nI o)), some (.int (tx_at T b p))], [], mz_set (mz_set (mz_set (mz_set m 53 R) 54 S) 55 g) 56 v)) rfl ?_
              refine mz_ifT hd ?_
              refine mz_go 3 (c' := (if (tx_at T b p) = 40 then 32 else 62, [some (.ref 53), some (.int (nI o)), some (.int (tx_at T b p))], [], mz_set (mz_set (mz_set (mz_set m 53 R) 54 S) 55 g) 56 v)) rfl ?_
              refine mz_ifF h40 ?_
              refine mz_go 3 (c' := (if (tx_at T b p) = 33 then 68 else 103, [some (.ref 53), some (.int (nI o)), some (.int (tx_at T b p))], [], mz_set (mz_set (mz_set (mz_set m 53 R) 54 S) 55 g) 56 v)) rfl ?_
              refine mz_ifF h33 ?_
              refine mz_go 2 (c' := (105, [some (.ref 53), some (.int (nI o)), some (.int (tx_at T b p))], [.int (tx_at T b p), .ref 53], mz_set (mz_set (mz_set (mz_set m 53 R) 54 S) 55 g) 56 v)) rfl ?_
              refine mz_doQ (R := mz_r34) (as := [.ref 53, .int (tx_at T b p)]) (rest := []) (r1 := none) (m1 := mz_set (mz_set (mz_set (mz_set m 53 (sm_upd R 3 ((nI p) + 1))) 54 (sm_upd S 2 (nI s + 1))) 55 (sm_upd g s 1)) 56 (sm_upd v s (nI j))) mz_t34 mz_v34_53 rfl rfl rfl rfl rfl (EN.deep (by omega)) ?_
              exact mz_ret rfl
        | none =>
          have EN := tc_nmF hu (m := m) (R := R) (S := S) (g := g) (v := v) (c := tx_at T b p) (by
            by_cases hlt : p < T
            · exact Or.inr (tx_at_N hT hb hlt)
            · refine Or.inl ?_
              unfold tx_at
              rw [if_neg hlt]) hj hnm
          refine ⟨sm_upd R 4 0, S, g, v, ⟨?_, rfl⟩, Eq.trans (tx_upN (by decide)) hp, tx_upE, Eq.trans (tx_upN (by decide)) hnm, ⟨s, by omega, hs⟩, fun z => absurd z Bool.false_ne_true⟩
          by_cases h40 : tx_at T b p = 40
          · have ho : ¬ o < 5 := fun z => e2 ⟨h40, z⟩
            have h33 : ¬ tx_at T b p = 33 := by rw [h40]; decide
            refine mz_go 4 (c' := (8, [some (.ref 53), some (.int (nI o)), none], [.int (R 3), .ref 8], mz_set (mz_set (mz_set (mz_set m 53 R) 54 S) 55 g) 56 v)) rfl ?_
            rw [hp]
            refine mz_doQ (R := mz_r54) (as := [.ref 8, .int (nI p)]) (rest := []) (r1 := some (.int (tx_at T b p))) (m1 := mz_set (mz_set (mz_set (mz_set m 53 R) 54 S) 55 g) 56 v) mz_t54 mz_v54_8 rfl rfl rfl rfl rfl ((tc_at (m := mz_set (mz_set (mz_set (mz_set m 53 R) 54 S) 55 g) 56 v) hT h8 h9 (x := nI p) (p := p) rfl (by omega)).deep (by omega)) ?_
            refine mz_go 2 (c' := (13, [some (.ref 53), some (.int (nI o)), some (.int (tx_at T b p))], [.int (tx_at T b p)], mz_set (mz_set (mz_set (mz_set m 53 R) 54 S) 55 g) 56 v)) rfl ?_
            refine mz_doQ (R := mz_r35) (as := [.int (tx_at T b p)]) (rest := []) (r1 := some (.int (sm_bI (tx_dig (tx_at T b p))))) (m1 := mz_set (mz_set (mz_set (mz_set m 53 R) 54 S) 55 g) 56 v) mz_t35 mz_v35 rfl rfl rfl rfl rfl ((tc_dig (m := mz_set (mz_set (mz_set (mz_set m 53 R) 54 S) 55 g) 56 v) (tx_at T b p)).deep (by omega)) ?_
            refine mz_go 1 (c' := (if (sm_bI (tx_dig (tx_at T b p))) = 0 then 26 else 19, [some (.ref 53), some (.int (nI o)), some (.int (tx_at T b p))], [], mz_set (mz_set (mz_set (mz_set m 53 R) 54 S) 55 g) 56 v)) rfl ?_
            refine mz_ifT hd ?_
            refine mz_go 3 (c' := (if (tx_at T b p) = 40 then 32 else 62, [some (.ref 53), some (.int (nI o)), some (.int (tx_at T b p))], [], mz_set (mz_set (mz_set (mz_set m 53 R) 54 S) 55 g) 56 v)) rfl ?_
            refine mz_ifT h40 ?_
            refine mz_go 3 (c' := (if 5 ≤ (nI o) then 62 else 37, [some (.ref 53), some (.int (nI o)), some (.int (tx_at T b p))], [], mz_set (mz_set (mz_set (mz_set m 53 R) 54 S) 55 g) 56 v)) rfl ?_
            refine mz_ifT (show (5 ≤ (nI o)) from (sm_leN rfl rfl (show 5 ≤ o by omega) (show o < 2 ^ 31 by omega))) ?_
            refine mz_go 3 (c' := (if (tx_at T b p) = 33 then 68 else 103, [some (.ref 53), some (.int (nI o)), some (.int (tx_at T b p))], [], mz_set (mz_set (mz_set (mz_set m 53 R) 54 S) 55 g) 56 v)) rfl ?_
            refine mz_ifF h33 ?_
            refine mz_go 2 (c' := (105, [some (.ref 53), some (.int (nI o)), some (.int (tx_at T b p))], [.int (tx_at T b p), .ref 53], mz_set (mz_set (mz_set (mz_set m 53 R) 54 S) 55 g) 56 v)) rfl ?_
            refine mz_doQ (R := mz_r34) (as := [.ref 53, .int (tx_at T b p)]) (rest := []) (r1 := none) (m1 := mz_set (mz_set (mz_set (mz_set m 53 (sm_upd R 4 0)) 54 S) 55 g) 56 v) mz_t34 mz_v34_53 rfl rfl rfl rfl rfl (EN.deep (by omega)) ?_
            exact mz_ret rfl
          · by_cases h33 : tx_at T b p = 33
            · have ho : ¬ o < 5 := fun z => e3 ⟨h33, z⟩
              refine mz_go 4 (c' := (8, [some (.ref 53), some (.int (nI o)), none], [.int (R 3), .ref 8], mz_set (mz_set (mz_set (mz_set m 53 R) 54 S) 55 g) 56 v)) rfl ?_
              rw [hp]
              refine mz_doQ (R := mz_r54) (as := [.ref 8, .int (nI p)]) (rest := []) (r1 := some (.int (tx_at T b p))) (m1 := mz_set (mz_set (mz_set (mz_set m 53 R) 54 S) 55 g) 56 v) mz_t54 mz_v54_8 rfl rfl rfl rfl rfl ((tc_at (m := mz_set (mz_set (mz_set (mz_set m 53 R) 54 S) 55 g) 56 v) hT h8 h9 (x := nI p) (p := p) rfl (by omega)).deep (by omega)) ?_
              refine mz_go 2 (c' := (13, [some (.ref 53), some (.int (nI o)), some (.int (tx_at T b p))], [.int (tx_at T b p)], mz_set (mz_set (mz_set (mz_set m 53 R) 54 S) 55 g) 56 v)) rfl ?_
              refine mz_doQ (R := mz_r35) (as := [.int (tx_at T b p)]) (rest := []) (r1 := some (.int (sm_bI (tx_dig (tx_at T b p))))) (m1 := mz_set (mz_set (mz_set (mz_set m 53 R) 54 S) 55 g) 56 v) mz_t35 mz_v35 rfl rfl rfl rfl rfl ((tc_dig (m := mz_set (mz_set (mz_set (mz_set m 53 R) 54 S) 55 g) 56 v) (tx_at T b p)).deep (by omega)) ?_
              refine mz_go 1 (c' := (if (sm_bI (tx_dig (tx_at T b p))) = 0 then 26 else 19, [some (.ref 53), some (.int (nI o)), some (.int (tx_at T b p))], [], mz_set (mz_set (mz_set (mz_set m 53 R) 54 S) 55 g) 56 v)) rfl ?_
              refine mz_ifT hd ?_
              refine mz_go 3 (c' := (if (tx_at T b p) = 40 then 32 else 62, [some (.ref 53), some (.int (nI o)), some (.int (tx_at T b p))], [], mz_set (mz_set (mz_set (mz_set m 53 R) 54 S) 55 g) 56 v)) rfl ?_
              refine mz_ifF h40 ?_
              refine mz_go 3 (c' := (if (tx_at T b p) = 33 then 68 else 103, [some (.ref 53), some (.int (nI o)), some (.int (tx_at T b p))], [], mz_set (mz_set (mz_set (mz_set m 53 R) 54 S) 55 g) 56 v)) rfl ?_
              refine mz_ifT h33 ?_
              refine mz_go 3 (c' := (if 5 ≤ (nI o) then 103 else 73, [some (.ref 53), some (.int (nI o)), some (.int (tx_at T b p))], [], mz_set (mz_set (mz_set (mz_set m 53 R) 54 S) 55 g) 56 v)) rfl ?_
              refine mz_ifT (show (5 ≤ (nI o)) from (sm_leN rfl rfl (show 5 ≤ o by omega) (show o < 2 ^ 31 by omega))) ?_
              refine mz_go 2 (c' := (105, [some (.ref 53), some (.int (nI o)), some (.int (tx_at T b p))], [.int (tx_at T b p), .ref 53], mz_set (mz_set (mz_set (mz_set m 53 R) 54 S) 55 g) 56 v)) rfl ?_
              refine mz_doQ (R := mz_r34) (as := [.ref 53, .int (tx_at T b p)]) (rest := []) (r1 := none) (m1 := mz_set (mz_set (mz_set (mz_set m 53 (sm_upd R 4 0)) 54 S) 55 g) 56 v) mz_t34 mz_v34_53 rfl rfl rfl rfl rfl (EN.deep (by omega)) ?_
              exact mz_ret rfl
            · skip
              refine mz_go 4 (c' := (8, [some (.ref 53), some (.int (nI o)), none], [.int (R 3), .ref 8], mz_set (mz_set (mz_set (mz_set m 53 R) 54 S) 55 g) 56 v)) rfl ?_
              rw [hp]
              refine mz_doQ (R := mz_r54) (as := [.ref 8, .int (nI p)]) (rest := []) (r1 := some (.int (tx_at T b p))) (m1 := mz_set (mz_set (mz_set (mz_set m 53 R) 54 S) 55 g) 56 v) mz_t54 mz_v54_8 rfl rfl rfl rfl rfl ((tc_at (m := mz_set (mz_set (mz_set (mz_set m 53 R) 54 S) 55 g) 56 v) hT h8 h9 (x := nI p) (p := p) rfl (by omega)).deep (by omega)) ?_
              refine mz_go 2 (c' := (13, [some (.ref 53), some (.int (nI o)), some (.int (tx_at T b p))], [.int (tx_at T b p)], mz_set (mz_set (mz_set (mz_set m 53 R) 54 S) 55 g) 56 v)) rfl ?_
              refine mz_doQ (R := mz_r35) (as := [.int (tx_at T b p)]) (rest := []) (r1 := some (.int (sm_bI (tx_dig (tx_at T b p))))) (m1 := mz_set (mz_set (mz_set (mz_set m 53 R) 54 S) 55 g) 56 v) mz_t35 mz_v35 rfl rfl rfl rfl rfl ((tc_dig (m := mz_set (mz_set (mz_set (mz_set m 53 R) 54 S) 55 g) 56 v) (tx_at T b p)).deep (by omega)) ?_
              refine mz_go 1 (c' := (if (sm_bI (tx_dig (tx_at T b p))) = 0 then 26 else 19, [some (.ref 53), some (.int (nI o)), some (.int (tx_at T b p))], [], mz_set (mz_set (mz_set (mz_set m 53 R) 54 S) 55 g) 56 v)) rfl ?_
              refine mz_ifT hd ?_
              refine mz_go 3 (c' := (if (tx_at T b p) = 40 then 32 else 62, [some (.ref 53), some (.int (nI o)), some (.int (tx_at T b p))], [], mz_set (mz_set (mz_set (mz_set m 53 R) 54 S) 55 g) 56 v)) rfl ?_
              refine mz_ifF h40 ?_
              refine mz_go 3 (c' := (if (tx_at T b p) = 33 then 68 else 103, [some (.ref 53), some (.int (nI o)), some (.int (tx_at T b p))], [], mz_set (mz_set (mz_set (mz_set m 53 R) 54 S) 55 g) 56 v)) rfl ?_
              refine mz_ifF h33 ?_
              refine mz_go 2 (c' := (105, [some (.ref 53), some (.int (nI o)), some (.int (tx_at T b p))], [.int (tx_at T b p), .ref 53], mz_set (mz_set (mz_set (mz_set m 53 R) 54 S) 55 g) 56 v)) rfl ?_
              refine mz_doQ (R := mz_r34) (as := [.ref 53, .int (tx_at T b p)]) (rest := []) (r1 := none) (m1 := mz_set (mz_set (mz_set (mz_set m 53 (sm_upd R 4 0)) 54 S) 55 g) 56 v) mz_t34 mz_v34_53 rfl rfl rfl rfl rfl (EN.deep (by omega)) ?_
              exact mz_ret rfl
