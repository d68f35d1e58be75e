set_option maxHeartbeats 4000000 in
set_option maxRecDepth 100000 in
theorem lwc_default {xs : Nat → Int32} {x : Int32} (h : xs 0 &&& 63 = x) (hk : (41 : Int) < x.toInt) : ∃ m', mz_Ex 101 mz_kL (lw_c xs 6) (some (.int 1), m') := by
  refine ⟨mz_i xs 6, ?_⟩
  refine mz_go 3 (c' := (21, [some (.ref 3000), some (.ref 0), some (.ref 65), some (.int 0)], [.int 6, .int 0], (mz_i xs 6))) rfl ?_
  refine mz_go 8 (c' := (33, [some (.ref 3000), some (.ref 0), some (.ref 65), some (.int 0)], [.int ((xs 0) &&& 63)], (mz_i xs 6))) rfl ?_
  rw [h]
  refine mz_swd (c' := (1582, [some (.ref 3000), some (.ref 0), some (.ref 65), some (.int 0)], [], (mz_i xs 6))) rfl (Or.inr hk) ?_
  refine mz_go 5 (c' := (21, [some (.ref 3000), some (.ref 0), some (.ref 65), some (.int 6)], [.int 6, .int 6], (mz_i xs 6))) rfl ?_
  refine mz_go 4 (c' := (1589, [some (.ref 3000), some (.ref 0), some (.ref 65), some (.int 6)], [.int 1], (mz_i xs 6))) rfl ?_
  exact mz_ret rfl
set_option maxHeartbeats 4000000 in
set_option maxRecDepth 100000 in
theorem lwc_magnet {xs : Nat → Int32} (h : xs 0 &&& 63 = 0) : ∃ m', mz_Ex 101 mz_kL (lw_c xs 6) (some (.int 1), m') := by
  obtain ⟨v, m1, m2, h1, h2⟩ := p1_magnet xs 6 (xs 1) (xs 2) (xs 3) (xs 4)
  have e1 := lw_e h1 (lw_e0 xs)
  have e2 := lw_e h2 e1
  refine ⟨m2, ?_⟩
  refine mz_go 3 (c' := (21, [some (.ref 3000), some (.ref 0), some (.ref 65), some (.int 0)], [.int 6, .int 0], (mz_i xs 6))) rfl ?_
  refine mz_go 8 (c' := (33, [some (.ref 3000), some (.ref 0), some (.ref 65), some (.int 0)], [.int ((xs 0) &&& 63)], (mz_i xs 6))) rfl ?_
  rw [h]
  refine mz_go 22 (c' := (237, [some (.ref 3000), some (.ref 0), some (.ref 65), some (.int 0)], [.int (xs 4), .int (xs 3), .int (xs 2), .int (xs 1), .ref 0], (mz_i xs 6))) rfl ?_
  refine mz_do (R := mz_r67) (as := [.ref 0, .int (xs 1), .int (xs 2), .int (xs 3), .int (xs 4)]) (rest := []) (r1 := some (.int v)) (m1 := m1) rfl h1 ?_
  refine mz_go 5 (c' := (245, [some (.ref 3000), some (.ref 0), some (.ref 65), some (.int 0)], [.int 1, .ref 3000, .ref 65, .int v], m1)) rfl ?_
  refine mz_arr (c' := (246, [some (.ref 3000), some (.ref 0), some (.ref 65), some (.int 0)], [.int (m1 3000 1), .ref 65, .int v], m1)) rfl (show mz_in 1 (m1 3001 0).toNatClampNeg = true by rw [e1.2]; rfl) ?_
  refine mz_go 4 (c' := (250, [some (.ref 3000), some (.ref 0), some (.ref 65), some (.int 0)], [.int 2, .ref 3000, .int (m1 3000 1), .ref 65, .int v], m1)) rfl ?_
  refine mz_arr (c' := (251, [some (.ref 3000), some (.ref 0), some (.ref 65), some (.int 0)], [.int (m1 3000 2), .int (m1 3000 1), .ref 65, .int v], m1)) rfl (show mz_in 2 (m1 3001 0).toNatClampNeg = true by rw [e1.2]; rfl) ?_
  refine mz_go 4 (c' := (255, [some (.ref 3000), some (.ref 0), some (.ref 65), some (.int 0)], [.int 3, .ref 3000, .int (m1 3000 2), .int (m1 3000 1), .ref 65, .int v], m1)) rfl ?_
  refine mz_arr (c' := (256, [some (.ref 3000), some (.ref 0), some (.ref 65), some (.int 0)], [.int (m1 3000 3), .int (m1 3000 2), .int (m1 3000 1), .ref 65, .int v], m1)) rfl (show mz_in 3 (m1 3001 0).toNatClampNeg = true by rw [e1.2]; rfl) ?_
  refine mz_go 4 (c' := (260, [some (.ref 3000), some (.ref 0), some (.ref 65), some (.int 0)], [.int 4, .ref 3000, .int (m1 3000 3), .int (m1 3000 2), .int (m1 3000 1), .ref 65, .int v], m1)) rfl ?_
  refine mz_arr (c' := (261, [some (.ref 3000), some (.ref 0), some (.ref 65), some (.int 0)], [.int (m1 3000 4), .int (m1 3000 3), .int (m1 3000 2), .int (m1 3000 1), .ref 65, .int v], m1)) rfl (show mz_in 4 (m1 3001 0).toNatClampNeg = true by rw [e1.2]; rfl) ?_
  refine mz_do (R := mz_r137) (as := [.ref 65, .int (m1 3000 1), .int (m1 3000 2), .int (m1 3000 3), .int (m1 3000 4)]) (rest := [.int v]) (r1 := some (.int v)) (m1 := m2) rfl (by simp only [e1.1]; exact h2) ?_
  refine mz_go 1 (c' := (if v = v then 1582 else 267, [some (.ref 3000), some (.ref 0), some (.ref 65), some (.int 0)], [], m2)) rfl ?_
  refine mz_ifT rfl ?_
  refine mz_go 5 (c' := (21, [some (.ref 3000), some (.ref 0), some (.ref 65), some (.int 6)], [.int (Int32.ofNat (m2 3001 0).toNatClampNeg), .int 6], m2)) rfl ?_
  rw [e2.2]
  show mz_Ex 101 mz_kL (21, [some (.ref 3000), some (.ref 0), some (.ref 65), some (.int 6)], [.int 6, .int 6], m2) _
  refine mz_go 4 (c' := (1589, [some (.ref 3000), some (.ref 0), some (.ref 65), some (.int 6)], [.int 1], m2)) rfl ?_
  exact mz_ret rfl
set_option maxHeartbeats 4000000 in
set_option maxRecDepth 100000 in
theorem lwc_magnetIs {xs : Nat → Int32} (h : xs 0 &&& 63 = 1) : ∃ m', mz_Ex 101 mz_kL (lw_c xs 6) (some (.int 1), m') := by
  obtain ⟨v, m1, m2, h1, h2⟩ := p1_magnetIs xs 6 (xs 1) (xs 2)
  have e1 := lw_e h1 (lw_e0 xs)
  have e2 := lw_e h2 e1
  refine ⟨m2, ?_⟩
  refine mz_go 3 (c' := (21, [some (.ref 3000), some (.ref 0), some (.ref 65), some (.int 0)], [.int 6, .int 0], (mz_i xs 6))) rfl ?_
  refine mz_go 8 (c' := (33, [some (.ref 3000), some (.ref 0), some (.ref 65), some (.int 0)], [.int ((xs 0) &&& 63)], (mz_i xs 6))) rfl ?_
  rw [h]
  refine mz_go 12 (c' := (280, [some (.ref 3000), some (.ref 0), some (.ref 65), some (.int 0)], [.int (xs 2), .int (xs 1), .ref 0], (mz_i xs 6))) rfl ?_
  refine mz_do (R := mz_r68) (as := [.ref 0, .int (xs 1), .int (xs 2)]) (rest := []) (r1 := some (.int v)) (m1 := m1) rfl h1 ?_
  refine mz_go 5 (c' := (288, [some (.ref 3000), some (.ref 0), some (.ref 65), some (.int 0)], [.int 1, .ref 3000, .ref 65, .int v], m1)) rfl ?_
  refine mz_arr (c' := (289, [some (.ref 3000), some (.ref 0), some (.ref 65), some (.int 0)], [.int (m1 3000 1), .ref 65, .int v], m1)) rfl (show mz_in 1 (m1 3001 0).toNatClampNeg = true by rw [e1.2]; rfl) ?_
  refine mz_go 4 (c' := (293, [some (.ref 3000), some (.ref 0), some (.ref 65), some (.int 0)], [.int 2, .ref 3000, .int (m1 3000 1), .ref 65, .int v], m1)) rfl ?_
  refine mz_arr (c' := (294, [some (.ref 3000), some (.ref 0), some (.ref 65), some (.int 0)], [.int (m1 3000 2), .int (m1 3000 1), .ref 65, .int v], m1)) rfl (show mz_in 2 (m1 3001 0).toNatClampNeg = true by rw [e1.2]; rfl) ?_
  refine mz_do (R := mz_r138) (as := [.ref 65, .int (m1 3000 1), .int (m1 3000 2)]) (rest := [.int v]) (r1 := some (.int v)) (m1 := m2) rfl (by simp only [e1.1]; exact h2) ?_
  refine mz_go 1 (c' := (if v = v then 1582 else 300, [some (.ref 3000), some (.ref 0), some (.ref 65), some (.int 0)], [], m2)) rfl ?_
  refine mz_ifT rfl ?_
  refine mz_go 5 (c' := (21, [some (.ref 3000), some (.ref 0), some (.ref 65), some (.int 6)], [.int (Int32.ofNat (m2 3001 0).toNatClampNeg), .int 6], m2)) rfl ?_
  rw [e2.2]
  show mz_Ex 101 mz_kL (21, [some (.ref 3000), some (.ref 0), some (.ref 65), some (.int 6)], [.int 6, .int 6], m2) _
  refine mz_go 4 (c' := (1589, [some (.ref 3000), some (.ref 0), some (.ref 65), some (.int 6)], [.int 1], m2)) rfl ?_
  exact mz_ret rfl
set_option maxHeartbeats 4000000 in
set_option maxRecDepth 100000 in
theorem lwc_as {xs : Nat → Int32} (h : xs 0 &&& 63 = 2) : ∃ m', mz_Ex 101 mz_kL (lw_c xs 6) (some (.int 1), m') := by
  obtain ⟨v, m1, m2, h1, h2⟩ := p1_as xs 6 (xs 1) (xs 2)
  have e1 := lw_e h1 (lw_e0 xs)
  have e2 := lw_e h2 e1
  refine ⟨m2, ?_⟩
  refine mz_go 3 (c' := (21, [some (.ref 3000), some (.ref 0), some (.ref 65), some (.int 0)], [.int 6, .int 0], (mz_i xs 6))) rfl ?_
  refine mz_go 8 (c' := (33, [some (.ref 3000), some (.ref 0), some (.ref 65), some (.int 0)], [.int ((xs 0) &&& 63)], (mz_i xs 6))) rfl ?_
  rw [h]
  refine mz_go 12 (c' := (313, [some (.ref 3000), some (.ref 0), some (.ref 65), some (.int 0)], [.int (xs 2), .int (xs 1), .ref 0], (mz_i xs 6))) rfl ?_
  refine mz_do (R := mz_r69) (as := [.ref 0, .int (xs 1), .int (xs 2)]) (rest := []) (r1 := some (.int v)) (m1 := m1) rfl h1 ?_
  refine mz_go 5 (c' := (321, [some (.ref 3000), some (.ref 0), some (.ref 65), some (.int 0)], [.int 1, .ref 3000, .ref 65, .int v], m1)) rfl ?_
  refine mz_arr (c' := (322, [some (.ref 3000), some (.ref 0), some (.ref 65), some (.int 0)], [.int (m1 3000 1), .ref 65, .int v], m1)) rfl (show mz_in 1 (m1 3001 0).toNatClampNeg = true by rw [e1.2]; rfl) ?_
  refine mz_go 4 (c' := (326, [some (.ref 3000), some (.ref 0), some (.ref 65), some (.int 0)], [.int 2, .ref 3000, .int (m1 3000 1), .ref 65, .int v], m1)) rfl ?_
  refine mz_arr (c' := (327, [some (.ref 3000), some (.ref 0), some (.ref 65), some (.int 0)], [.int (m1 3000 2), .int (m1 3000 1), .ref 65, .int v], m1)) rfl (show mz_in 2 (m1 3001 0).toNatClampNeg = true by rw [e1.2]; rfl) ?_
  refine mz_do (R := mz_r139) (as := [.ref 65, .int (m1 3000 1), .int (m1 3000 2)]) (rest := [.int v]) (r1 := some (.int v)) (m1 := m2) rfl (by simp only [e1.1]; exact h2) ?_
  refine mz_go 1 (c' := (if v = v then 1582 else 333, [some (.ref 3000), some (.ref 0), some (.ref 65), some (.int 0)], [], m2)) rfl ?_
  refine mz_ifT rfl ?_
  refine mz_go 5 (c' := (21, [some (.ref 3000), some (.ref 0), some (.ref 65), some (.int 6)], [.int (Int32.ofNat (m2 3001 0).toNatClampNeg), .int 6], m2)) rfl ?_
  rw [e2.2]
  show mz_Ex 101 mz_kL (21, [some (.ref 3000), some (.ref 0), some (.ref 65), some (.int 6)], [.int 6, .int 6], m2) _
  refine mz_go 4 (c' := (1589, [some (.ref 3000), some (.ref 0), some (.ref 65), some (.int 6)], [.int 1], m2)) rfl ?_
  exact mz_ret rfl
set_option maxHeartbeats 4000000 in
set_option maxRecDepth 100000 in
theorem lwc_shift {xs : Nat → Int32} (h : xs 0 &&& 63 = 3) : ∃ m', mz_Ex 101 mz_kL (lw_c xs 6) (some (.int 1), m') := by
  obtain ⟨v, m1, m2, h1, h2⟩ := p1_shift xs 6 (xs 1) (xs 2) (xs 3) (xs 4)
  have e1 := lw_e h1 (lw_e0 xs)
  have e2 := lw_e h2 e1
  refine ⟨m2, ?_⟩
  refine mz_go 3 (c' := (21, [some (.ref 3000), some (.ref 0), some (.ref 65), some (.int 0)], [.int 6, .int 0], (mz_i xs 6))) rfl ?_
  refine mz_go 8 (c' := (33, [some (.ref 3000), some (.ref 0), some (.ref 65), some (.int 0)], [.int ((xs 0) &&& 63)], (mz_i xs 6))) rfl ?_
  rw [h]
  refine mz_go 22 (c' := (356, [some (.ref 3000), some (.ref 0), some (.ref 65), some (.int 0)], [.int (xs 4), .int (xs 3), .int (xs 2), .int (xs 1), .ref 0], (mz_i xs 6))) rfl ?_
  refine mz_do (R := mz_r70) (as := [.ref 0, .int (xs 1), .int (xs 2), .int (xs 3), .int (xs 4)]) (rest := []) (r1 := some (.int v)) (m1 := m1) rfl h1 ?_
  refine mz_go 5 (c' := (364, [some (.ref 3000), some (.ref 0), some (.ref 65), some (.int 0)], [.int 1, .ref 3000, .ref 65, .int v], m1)) rfl ?_
  refine mz_arr (c' := (365, [some (.ref 3000), some (.ref 0), some (.ref 65), some (.int 0)], [.int (m1 3000 1), .ref 65, .int v], m1)) rfl (show mz_in 1 (m1 3001 0).toNatClampNeg = true by rw [e1.2]; rfl) ?_
  refine mz_go 4 (c' := (369, [some (.ref 3000), some (.ref 0), some (.ref 65), some (.int 0)], [.int 2, .ref 3000, .int (m1 3000 1), .ref 65, .int v], m1)) rfl ?_
  refine mz_arr (c' := (370, [some (.ref 3000), some (.ref 0), some (.ref 65), some (.int 0)], [.int (m1 3000 2), .int (m1 3000 1), .ref 65, .int v], m1)) rfl (show mz_in 2 (m1 3001 0).toNatClampNeg = true by rw [e1.2]; rfl) ?_
  refine mz_go 4 (c' := (374, [some (.ref 3000), some (.ref 0), some (.ref 65), some (.int 0)], [.int 3, .ref 3000, .int (m1 3000 2), .int (m1 3000 1), .ref 65, .int v], m1)) rfl ?_
  refine mz_arr (c' := (375, [some (.ref 3000), some (.ref 0), some (.ref 65), some (.int 0)], [.int (m1 3000 3), .int (m1 3000 2), .int (m1 3000 1), .ref 65, .int v], m1)) rfl (show mz_in 3 (m1 3001 0).toNatClampNeg = true by rw [e1.2]; rfl) ?_
  refine mz_go 4 (c' := (379, [some (.ref 3000), some (.ref 0), some (.ref 65), some (.int 0)], [.int 4, .ref 3000, .int (m1 3000 3), .int (m1 3000 2), .int (m1 3000 1), .ref 65, .int v], m1)) rfl ?_
  refine mz_arr (c' := (380, [some (.ref 3000), some (.ref 0), some (.ref 65), some (.int 0)], [.int (m1 3000 4), .int (m1 3000 3), .int (m1 3000 2), .int (m1 3000 1), .ref 65, .int v], m1)) rfl (show mz_in 4 (m1 3001 0).toNatClampNeg = true by rw [e1.2]; rfl) ?_
  refine mz_do (R := mz_r140) (as := [.ref 65, .int (m1 3000 1), .int (m1 3000 2), .int (m1 3000 3), .int (m1 3000 4)]) (rest := [.int v]) (r1 := some (.int v)) (m1 := m2) rfl (by simp only [e1.1]; exact h2) ?_
  refine mz_go 1 (c' := (if v = v then 1582 else 386, [some (.ref 3000), some (.ref 0), some (.ref 65), some (.int 0)], [], m2)) rfl ?_
  refine mz_ifT rfl ?_
  refine mz_go 5 (c' := (21, [some (.ref 3000), some (.ref 0), some (.ref 65), some (.int 6)], [.int (Int32.ofNat (m2 3001 0).toNatClampNeg), .int 6], m2)) rfl ?_
  rw [e2.2]
  show mz_Ex 101 mz_kL (21, [some (.ref 3000), some (.ref 0), some (.ref 65), some (.int 6)], [.int 6, .int 6], m2) _
  refine mz_go 4 (c' := (1589, [some (.ref 3000), some (.ref 0), some (.ref 65), some (.int 6)], [.int 1], m2)) rfl ?_
  exact mz_ret rfl
set_option maxHeartbeats 4000000 in
set_option maxRecDepth 100000 in
theorem lwc_takeOff {xs : Nat → Int32} (h : xs 0 &&& 63 = 4) : ∃ m', mz_Ex 101 mz_kL (lw_c xs 6) (some (.int 1), m') := by
  obtain ⟨v, m1, m2, h1, h2⟩ := p1_takeOff xs 6
  have e1 := lw_e h1 (lw_e0 xs)
  have e2 := lw_e h2 e1
  refine ⟨m2, ?_⟩
  refine mz_go 3 (c' := (21, [some (.ref 3000), some (.ref 0), some (.ref 65), some (.int 0)], [.int 6, .int 0], (mz_i xs 6))) rfl ?_
  refine mz_go 8 (c' := (33, [some (.ref 3000), some (.ref 0), some (.ref 65), some (.int 0)], [.int ((xs 0) &&& 63)], (mz_i xs 6))) rfl ?_
  rw [h]
  refine mz_go 2 (c' := (389, [some (.ref 3000), some (.ref 0), some (.ref 65), some (.int 0)], [.ref 0], (mz_i xs 6))) rfl ?_
  refine mz_do (R := mz_r71) (as := [.ref 0]) (rest := []) (r1 := some (.int v)) (m1 := m1) rfl h1 ?_
  refine mz_go 1 (c' := (393, [some (.ref 3000), some (.ref 0), some (.ref 65), some (.int 0)], [.ref 65, .int v], m1)) rfl ?_
  refine mz_do (R := mz_r141) (as := [.ref 65]) (rest := [.int v]) (r1 := some (.int v)) (m1 := m2) rfl h2 ?_
  refine mz_go 1 (c' := (if v = v then 1582 else 399, [some (.ref 3000), some (.ref 0), some (.ref 65), some (.int 0)], [], m2)) rfl ?_
  refine mz_ifT rfl ?_
  refine mz_go 5 (c' := (21, [some (.ref 3000), some (.ref 0), some (.ref 65), some (.int 6)], [.int (Int32.ofNat (m2 3001 0).toNatClampNeg), .int 6], m2)) rfl ?_
  rw [e2.2]
  show mz_Ex 101 mz_kL (21, [some (.ref 3000), some (.ref 0), some (.ref 65), some (.int 6)], [.int 6, .int 6], m2) _
  refine mz_go 4 (c' := (1589, [some (.ref 3000), some (.ref 0), some (.ref 65), some (.int 6)], [.int 1], m2)) rfl ?_
  exact mz_ret rfl
set_option maxHeartbeats 4000000 in
set_option maxRecDepth 100000 in
theorem lwc_rule {xs : Nat → Int32} (h : xs 0 &&& 63 = 5) : ∃ m', mz_Ex 101 mz_kL (lw_c xs 6) (some (.int 1), m') := by
  obtain ⟨v, m1, m2, h1, h2⟩ := p1_rule xs 6 (xs 1) (xs 2)
  have e1 := lw_e h1 (lw_e0 xs)
  have e2 := lw_e h2 e1
  refine ⟨m2, ?_⟩
  refine mz_go 3 (c' := (21, [some (.ref 3000), some (.ref 0), some (.ref 65), some (.int 0)], [.int 6, .int 0], (mz_i xs 6))) rfl ?_
  refine mz_go 8 (c' := (33, [some (.ref 3000), some (.ref 0), some (.ref 65), some (.int 0)], [.int ((xs 0) &&& 63)], (mz_i xs 6))) rfl ?_
  rw [h]
  refine mz_go 12 (c' := (412, [some (.ref 3000), some (.ref 0), some (.ref 65), some (.int 0)], [.int (xs 2), .int (xs 1), .ref 0], (mz_i xs 6))) rfl ?_
  refine mz_do (R := mz_r72) (as := [.ref 0, .int (xs 1), .int (xs 2)]) (rest := []) (r1 := some (.int v)) (m1 := m1) rfl h1 ?_
  refine mz_go 5 (c' := (420, [some (.ref 3000), some (.ref 0), some (.ref 65), some (.int 0)], [.int 1, .ref 3000, .ref 65, .int v], m1)) rfl ?_
  refine mz_arr (c' := (421, [some (.ref 3000), some (.ref 0), some (.ref 65), some (.int 0)], [.int (m1 3000 1), .ref 65, .int v], m1)) rfl (show mz_in 1 (m1 3001 0).toNatClampNeg = true by rw [e1.2]; rfl) ?_
  refine mz_go 4 (c' := (425, [some (.ref 3000), some (.ref 0), some (.ref 65), some (.int 0)], [.int 2, .ref 3000, .int (m1 3000 1), .ref 65, .int v], m1)) rfl ?_
  refine mz_arr (c' := (426, [some (.ref 3000), some (.ref 0), some (.ref 65), some (.int 0)], [.int (m1 3000 2), .int (m1 3000 1), .ref 65, .int v], m1)) rfl (show mz_in 2 (m1 3001 0).toNatClampNeg = true by rw [e1.2]; rfl) ?_
  refine mz_do (R := mz_r143) (as := [.ref 65, .int (m1 3000 1), .int (m1 3000 2)]) (rest := [.int v]) (r1 := some (.int v)) (m1 := m2) rfl (by simp only [e1.1]; exact h2) ?_
  refine mz_go 1 (c' := (if v = v then 1582 else 432, [some (.ref 3000), some (.ref 0), some (.ref 65), some (.int 0)], [], m2)) rfl ?_
  refine mz_ifT rfl ?_
  refine mz_go 5 (c' := (21, [some (.ref 3000), some (.ref 0), some (.ref 65), some (.int 6)], [.int (Int32.ofNat (m2 3001 0).toNatClampNeg), .int 6], m2)) rfl ?_
  rw [e2.2]
  show mz_Ex 101 mz_kL (21, [some (.ref 3000), some (.ref 0), some (.ref 65), some (.int 6)], [.int 6, .int 6], m2) _
  refine mz_go 4 (c' := (1589, [some (.ref 3000), some (.ref 0), some (.ref 65), some (.int 6)], [.int 1], m2)) rfl ?_
  exact mz_ret rfl
set_option maxHeartbeats 4000000 in
set_option maxRecDepth 100000 in
theorem lwc_nearest {xs : Nat → Int32} (h : xs 0 &&& 63 = 6) : ∃ m', mz_Ex 101 mz_kL (lw_c xs 6) (some (.int 1), m') := by
  obtain ⟨v, m1, m2, h1, h2⟩ := p1_nearest xs 6 (xs 1) (xs 2) (xs 3)
  have e1 := lw_e h1 (lw_e0 xs)
  have e2 := lw_e h2 e1
  refine ⟨m2, ?_⟩
  refine mz_go 3 (c' := (21, [some (.ref 3000), some (.ref 0), some (.ref 65), some (.int 0)], [.int 6, .int 0], (mz_i xs 6))) rfl ?_
  refine mz_go 8 (c' := (33, [some (.ref 3000), some (.ref 0), some (.ref 65), some (.int 0)], [.int ((xs 0) &&& 63)], (mz_i xs 6))) rfl ?_
  rw [h]
  refine mz_go 17 (c' := (450, [some (.ref 3000), some (.ref 0), some (.ref 65), some (.int 0)], [.int (xs 3), .int (xs 2), .int (xs 1), .ref 0], (mz_i xs 6))) rfl ?_
  refine mz_do (R := mz_r73) (as := [.ref 0, .int (xs 1), .int (xs 2), .int (xs 3)]) (rest := []) (r1 := some (.int v)) (m1 := m1) rfl h1 ?_
  refine mz_go 5 (c' := (458, [some (.ref 3000), some (.ref 0), some (.ref 65), some (.int 0)], [.int 1, .ref 3000, .ref 65, .int v], m1)) rfl ?_
  refine mz_arr (c' := (459, [some (.ref 3000), some (.ref 0), some (.ref 65), some (.int 0)], [.int (m1 3000 1), .ref 65, .int v], m1)) rfl (show mz_in 1 (m1 3001 0).toNatClampNeg = true by rw [e1.2]; rfl) ?_
  refine mz_go 4 (c' := (463, [some (.ref 3000), some (.ref 0), some (.ref 65), some (.int 0)], [.int 2, .ref 3000, .int (m1 3000 1), .ref 65, .int v], m1)) rfl ?_
  refine mz_arr (c' := (464, [some (.ref 3000), some (.ref 0), some (.ref 65), some (.int 0)], [.int (m1 3000 2), .int (m1 3000 1), .ref 65, .int v], m1)) rfl (show mz_in 2 (m1 3001 0).toNatClampNeg = true by rw [e1.2]; rfl) ?_
  refine mz_go 4 (c' := (468, [some (.ref 3000), some (.ref 0), some (.ref 65), some (.int 0)], [.int 3, .ref 3000, .int (m1 3000 2), .int (m1 3000 1), .ref 65, .int v], m1)) rfl ?_
  refine mz_arr (c' := (469, [some (.ref 3000), some (.ref 0), some (.ref 65), some (.int 0)], [.int (m1 3000 3), .int (m1 3000 2), .int (m1 3000 1), .ref 65, .int v], m1)) rfl (show mz_in 3 (m1 3001 0).toNatClampNeg = true by rw [e1.2]; rfl) ?_
  refine mz_do (R := mz_r157) (as := [.ref 65, .int (m1 3000 1), .int (m1 3000 2), .int (m1 3000 3)]) (rest := [.int v]) (r1 := some (.int v)) (m1 := m2) rfl (by simp only [e1.1]; exact h2) ?_
  refine mz_go 1 (c' := (if v = v then 1582 else 475, [some (.ref 3000), some (.ref 0), some (.ref 65), some (.int 0)], [], m2)) rfl ?_
  refine mz_ifT rfl ?_
  refine mz_go 5 (c' := (21, [some (.ref 3000), some (.ref 0), some (.ref 65), some (.int 6)], [.int (Int32.ofNat (m2 3001 0).toNatClampNeg), .int 6], m2)) rfl ?_
  rw [e2.2]
  show mz_Ex 101 mz_kL (21, [some (.ref 3000), some (.ref 0), some (.ref 65), some (.int 6)], [.int 6, .int 6], m2) _
  refine mz_go 4 (c' := (1589, [some (.ref 3000), some (.ref 0), some (.ref 65), some (.int 6)], [.int 1], m2)) rfl ?_
  exact mz_ret rfl
set_option maxHeartbeats 4000000 in
set_option maxRecDepth 100000 in
theorem lwc_feed {xs : Nat → Int32} (h : xs 0 &&& 63 = 7) : ∃ m', mz_Ex 101 mz_kL (lw_c xs 6) (some (.int 1), m') := by
  obtain ⟨v, m1, m2, h1, h2⟩ := p1_feed xs 6 ((((xs 1 : Int32).toInt64) <<< ((32 : Int32).toInt64 &&& 63)) ||| (((xs 2 : Int32).toInt64) &&& (Int64.ofNat 4294967295))) (xs 3)
  have e1 := lw_e h1 (lw_e0 xs)
  have e2 := lw_e h2 e1
  refine ⟨m2, ?_⟩
  refine mz_go 3 (c' := (21, [some (.ref 3000), some (.ref 0), some (.ref 65), some (.int 0)], [.int 6, .int 0], (mz_i xs 6))) rfl ?_
  refine mz_go 8 (c' := (33, [some (.ref 3000), some (.ref 0), some (.ref 65), some (.int 0)], [.int ((xs 0) &&& 63)], (mz_i xs 6))) rfl ?_
  rw [h]
  refine mz_go 24 (c' := (503, [some (.ref 3000), some (.ref 0), some (.ref 65), some (.int 0)], [.int (xs 3), .long ((((xs 1 : Int32).toInt64) <<< ((32 : Int32).toInt64 &&& 63)) ||| (((xs 2 : Int32).toInt64) &&& (Int64.ofNat 4294967295))), .ref 0], (mz_i xs 6))) rfl ?_
  refine mz_do (R := mz_r74) (as := [.ref 0, .long ((((xs 1 : Int32).toInt64) <<< ((32 : Int32).toInt64 &&& 63)) ||| (((xs 2 : Int32).toInt64) &&& (Int64.ofNat 4294967295))), .int (xs 3)]) (rest := []) (r1 := some (.int v)) (m1 := m1) rfl h1 ?_
  refine mz_go 5 (c' := (511, [some (.ref 3000), some (.ref 0), some (.ref 65), some (.int 0)], [.int 1, .ref 3000, .ref 65, .int v], m1)) rfl ?_
  refine mz_arr (c' := (512, [some (.ref 3000), some (.ref 0), some (.ref 65), some (.int 0)], [.int (m1 3000 1), .ref 65, .int v], m1)) rfl (show mz_in 1 (m1 3001 0).toNatClampNeg = true by rw [e1.2]; rfl) ?_
  refine mz_go 7 (c' := (520, [some (.ref 3000), some (.ref 0), some (.ref 65), some (.int 0)], [.int 2, .ref 3000, .long (((m1 3000 1 : Int32).toInt64) <<< ((32 : Int32).toInt64 &&& 63)), .ref 65, .int v], m1)) rfl ?_
  refine mz_arr (c' := (521, [some (.ref 3000), some (.ref 0), some (.ref 65), some (.int 0)], [.int (m1 3000 2), .long (((m1 3000 1 : Int32).toInt64) <<< ((32 : Int32).toInt64 &&& 63)), .ref 65, .int v], m1)) rfl (show mz_in 2 (m1 3001 0).toNatClampNeg = true by rw [e1.2]; rfl) ?_
  refine mz_go 8 (c' := (531, [some (.ref 3000), some (.ref 0), some (.ref 65), some (.int 0)], [.int 3, .ref 3000, .long ((((m1 3000 1 : Int32).toInt64) <<< ((32 : Int32).toInt64 &&& 63)) ||| (((m1 3000 2 : Int32).toInt64) &&& (Int64.ofNat 4294967295))), .ref 65, .int v], m1)) rfl ?_
  refine mz_arr (c' := (532, [some (.ref 3000), some (.ref 0), some (.ref 65), some (.int 0)], [.int (m1 3000 3), .long ((((m1 3000 1 : Int32).toInt64) <<< ((32 : Int32).toInt64 &&& 63)) ||| (((m1 3000 2 : Int32).toInt64) &&& (Int64.ofNat 4294967295))), .ref 65, .int v], m1)) rfl (show mz_in 3 (m1 3001 0).toNatClampNeg = true by rw [e1.2]; rfl) ?_
  refine mz_do (R := mz_r158) (as := [.ref 65, .long ((((m1 3000 1 : Int32).toInt64) <<< ((32 : Int32).toInt64 &&& 63)) ||| (((m1 3000 2 : Int32).toInt64) &&& (Int64.ofNat 4294967295))), .int (m1 3000 3)]) (rest := [.int v]) (r1 := some (.int v)) (m1 := m2) rfl (by simp only [e1.1]; exact h2) ?_
  refine mz_go 1 (c' := (if v = v then 1582 else 538, [some (.ref 3000), some (.ref 0), some (.ref 65), some (.int 0)], [], m2)) rfl ?_
  refine mz_ifT rfl ?_
  refine mz_go 5 (c' := (21, [some (.ref 3000), some (.ref 0), some (.ref 65), some (.int 6)], [.int (Int32.ofNat (m2 3001 0).toNatClampNeg), .int 6], m2)) rfl ?_
  rw [e2.2]
  show mz_Ex 101 mz_kL (21, [some (.ref 3000), some (.ref 0), some (.ref 65), some (.int 6)], [.int 6, .int 6], m2) _
  refine mz_go 4 (c' := (1589, [some (.ref 3000), some (.ref 0), some (.ref 65), some (.int 6)], [.int 1], m2)) rfl ?_
  exact mz_ret rfl
set_option maxHeartbeats 4000000 in
set_option maxRecDepth 100000 in
theorem lwc_text {xs : Nat → Int32} (h : xs 0 &&& 63 = 8) : ∃ m', mz_Ex 101 mz_kL (lw_c xs 6) (some (.int 1), m') := by
  obtain ⟨v, m1, m2, h1, h2⟩ := p1_text xs 6 (xs 1)
  have e1 := lw_e h1 (lw_e0 xs)
  have e2 := lw_e h2 e1
  refine ⟨m2, ?_⟩
  refine mz_go 3 (c' := (21, [some (.ref 3000), some (.ref 0), some (.ref 65), some (.int 0)], [.int 6, .int 0], (mz_i xs 6))) rfl ?_
  refine mz_go 8 (c' := (33, [some (.ref 3000), some (.ref 0), some (.ref 65), some (.int 0)], [.int ((xs 0) &&& 63)], (mz_i xs 6))) rfl ?_
  rw [h]
  refine mz_go 7 (c' := (546, [some (.ref 3000), some (.ref 0), some (.ref 65), some (.int 0)], [.int (xs 1), .ref 0], (mz_i xs 6))) rfl ?_
  refine mz_do (R := mz_r75) (as := [.ref 0, .int (xs 1)]) (rest := []) (r1 := some (.int v)) (m1 := m1) rfl h1 ?_
  refine mz_go 5 (c' := (554, [some (.ref 3000), some (.ref 0), some (.ref 65), some (.int 0)], [.int 1, .ref 3000, .ref 65, .int v], m1)) rfl ?_
  refine mz_arr (c' := (555, [some (.ref 3000), some (.ref 0), some (.ref 65), some (.int 0)], [.int (m1 3000 1), .ref 65, .int v], m1)) rfl (show mz_in 1 (m1 3001 0).toNatClampNeg = true by rw [e1.2]; rfl) ?_
  refine mz_do (R := mz_r170) (as := [.ref 65, .int (m1 3000 1)]) (rest := [.int v]) (r1 := some (.int v)) (m1 := m2) rfl (by simp only [e1.1]; exact h2) ?_
  refine mz_go 1 (c' := (if v = v then 1582 else 561, [some (.ref 3000), some (.ref 0), some (.ref 65), some (.int 0)], [], m2)) rfl ?_
  refine mz_ifT rfl ?_
  refine mz_go 5 (c' := (21, [some (.ref 3000), some (.ref 0), some (.ref 65), some (.int 6)], [.int (Int32.ofNat (m2 3001 0).toNatClampNeg), .int 6], m2)) rfl ?_
  rw [e2.2]
  show mz_Ex 101 mz_kL (21, [some (.ref 3000), some (.ref 0), some (.ref 65), some (.int 6)], [.int 6, .int 6], m2) _
  refine mz_go 4 (c' := (1589, [some (.ref 3000), some (.ref 0), some (.ref 65), some (.int 6)], [.int 1], m2)) rfl ?_
  exact mz_ret rfl
set_option maxHeartbeats 4000000 in
set_option maxRecDepth 100000 in
theorem lwc_untell {xs : Nat → Int32} (h : xs 0 &&& 63 = 9) : ∃ m', mz_Ex 101 mz_kL (lw_c xs 6) (some (.int 1), m') := by
  obtain ⟨v, m1, m2, h1, h2⟩ := p1_untell xs 6 (xs 1)
  have e1 := lw_e h1 (lw_e0 xs)
  have e2 := lw_e h2 e1
  refine ⟨m2, ?_⟩
  refine mz_go 3 (c' := (21, [some (.ref 3000), some (.ref 0), some (.ref 65), some (.int 0)], [.int 6, .int 0], (mz_i xs 6))) rfl ?_
  refine mz_go 8 (c' := (33, [some (.ref 3000), some (.ref 0), some (.ref 65), some (.int 0)], [.int ((xs 0) &&& 63)], (mz_i xs 6))) rfl ?_
  rw [h]
  refine mz_go 7 (c' := (569, [some (.ref 3000), some (.ref 0), some (.ref 65), some (.int 0)], [.int (xs 1), .ref 0], (mz_i xs 6))) rfl ?_
  refine mz_do (R := mz_r76) (as := [.ref 0, .int (xs 1)]) (rest := []) (r1 := some (.int v)) (m1 := m1) rfl h1 ?_
  refine mz_go 5 (c' := (577, [some (.ref 3000), some (.ref 0), some (.ref 65), some (.int 0)], [.int 1, .ref 3000, .ref 65, .int v], m1)) rfl ?_
  refine mz_arr (c' := (578, [some (.ref 3000), some (.ref 0), some (.ref 65), some (.int 0)], [.int (m1 3000 1), .ref 65, .int v], m1)) rfl (show mz_in 1 (m1 3001 0).toNatClampNeg = true by rw [e1.2]; rfl) ?_
  refine mz_do (R := mz_r171) (as := [.ref 65, .int (m1 3000 1)]) (rest := [.int v]) (r1 := some (.int v)) (m1 := m2) rfl (by simp only [e1.1]; exact h2) ?_
  refine mz_go 1 (c' := (if v = v then 1582 else 584, [some (.ref 3000), some (.ref 0), some (.ref 65), some (.int 0)], [], m2)) rfl ?_
  refine mz_ifT rfl ?_
  refine mz_go 5 (c' := (21, [some (.ref 3000), some (.ref 0), some (.ref 65), some (.int 6)], [.int (Int32.ofNat (m2 3001 0).toNatClampNeg), .int 6], m2)) rfl ?_
  rw [e2.2]
  show mz_Ex 101 mz_kL (21, [some (.ref 3000), some (.ref 0), some (.ref 65), some (.int 6)], [.int 6, .int 6], m2) _
  refine mz_go 4 (c' := (1589, [some (.ref 3000), some (.ref 0), some (.ref 65), some (.int 6)], [.int 1], m2)) rfl ?_
  exact mz_ret rfl
set_option maxHeartbeats 4000000 in
set_option maxRecDepth 100000 in
theorem lwc_let {xs : Nat → Int32} (h : xs 0 &&& 63 = 10) : ∃ m', mz_Ex 101 mz_kL (lw_c xs 6) (some (.int 1), m') := by
  obtain ⟨v, m1, m2, h1, h2⟩ := p1_let xs 6 (xs 1) (xs 2)
  have e1 := lw_e h1 (lw_e0 xs)
  have e2 := lw_e h2 e1
  refine ⟨m2, ?_⟩
  refine mz_go 3 (c' := (21, [some (.ref 3000), some (.ref 0), some (.ref 65), some (.int 0)], [.int 6, .int 0], (mz_i xs 6))) rfl ?_
  refine mz_go 8 (c' := (33, [some (.ref 3000), some (.ref 0), some (.ref 65), some (.int 0)], [.int ((xs 0) &&& 63)], (mz_i xs 6))) rfl ?_
  rw [h]
  refine mz_go 12 (c' := (597, [some (.ref 3000), some (.ref 0), some (.ref 65), some (.int 0)], [.int (xs 2), .int (xs 1), .ref 0], (mz_i xs 6))) rfl ?_
  refine mz_do (R := mz_r77) (as := [.ref 0, .int (xs 1), .int (xs 2)]) (rest := []) (r1 := some (.int v)) (m1 := m1) rfl h1 ?_
  refine mz_go 5 (c' := (605, [some (.ref 3000), some (.ref 0), some (.ref 65), some (.int 0)], [.int 1, .ref 3000, .ref 65, .int v], m1)) rfl ?_
  refine mz_arr (c' := (606, [some (.ref 3000), some (.ref 0), some (.ref 65), some (.int 0)], [.int (m1 3000 1), .ref 65, .int v], m1)) rfl (show mz_in 1 (m1 3001 0).toNatClampNeg = true by rw [e1.2]; rfl) ?_
  refine mz_go 4 (c' := (610, [some (.ref 3000), some (.ref 0), some (.ref 65), some (.int 0)], [.int 2, .ref 3000, .int (m1 3000 1), .ref 65, .int v], m1)) rfl ?_
  refine mz_arr (c' := (611, [some (.ref 3000), some (.ref 0), some (.ref 65), some (.int 0)], [.int (m1 3000 2), .int (m1 3000 1), .ref 65, .int v], m1)) rfl (show mz_in 2 (m1 3001 0).toNatClampNeg = true by rw [e1.2]; rfl) ?_
  refine mz_do (R := mz_r174) (as := [.ref 65, .int (m1 3000 1), .int (m1 3000 2)]) (rest := [.int v]) (r1 := some (.int v)) (m1 := m2) rfl (by simp only [e1.1]; exact h2) ?_
  refine mz_go 1 (c' := (if v = v then 1582 else 617, [some (.ref 3000), some (.ref 0), some (.ref 65), some (.int 0)], [], m2)) rfl ?_
  refine mz_ifT rfl ?_
  refine mz_go 5 (c' := (21, [some (.ref 3000), some (.ref 0), some (.ref 65), some (.int 6)], [.int (Int32.ofNat (m2 3001 0).toNatClampNeg), .int 6], m2)) rfl ?_
  rw [e2.2]
  show mz_Ex 101 mz_kL (21, [some (.ref 3000), some (.ref 0), some (.ref 65), some (.int 6)], [.int 6, .int 6], m2) _
  refine mz_go 4 (c' := (1589, [some (.ref 3000), some (.ref 0), some (.ref 65), some (.int 6)], [.int 1], m2)) rfl ?_
  exact mz_ret rfl
set_option maxHeartbeats 4000000 in
set_option maxRecDepth 100000 in
theorem lwc_push {xs : Nat → Int32} (h : xs 0 &&& 63 = 11) : ∃ m', mz_Ex 101 mz_kL (lw_c xs 6) (some (.int 1), m') := by
  obtain ⟨v, m1, m2, h1, h2⟩ := p1_push xs 6 (xs 1) (xs 2)
  have e1 := lw_e h1 (lw_e0 xs)
  have e2 := lw_e h2 e1
  refine ⟨m2, ?_⟩
  refine mz_go 3 (c' := (21, [some (.ref 3000), some (.ref 0), some (.ref 65), some (.int 0)], [.int 6, .int 0], (mz_i xs 6))) rfl ?_
  refine mz_go 8 (c' := (33, [some (.ref 3000), some (.ref 0), some (.ref 65), some (.int 0)], [.int ((xs 0) &&& 63)], (mz_i xs 6))) rfl ?_
  rw [h]
  refine mz_go 12 (c' := (630, [some (.ref 3000), some (.ref 0), some (.ref 65), some (.int 0)], [.int (xs 2), .int (xs 1), .ref 0], (mz_i xs 6))) rfl ?_
  refine mz_do (R := mz_r78) (as := [.ref 0, .int (xs 1), .int (xs 2)]) (rest := []) (r1 := some (.int v)) (m1 := m1) rfl h1 ?_
  refine mz_go 5 (c' := (638, [some (.ref 3000), some (.ref 0), some (.ref 65), some (.int 0)], [.int 1, .ref 3000, .ref 65, .int v], m1)) rfl ?_
  refine mz_arr (c' := (639, [some (.ref 3000), some (.ref 0), some (.ref 65), some (.int 0)], [.int (m1 3000 1), .ref 65, .int v], m1)) rfl (show mz_in 1 (m1 3001 0).toNatClampNeg = true by rw [e1.2]; rfl) ?_
  refine mz_go 4 (c' := (643, [some (.ref 3000), some (.ref 0), some (.ref 65), some (.int 0)], [.int 2, .ref 3000, .int (m1 3000 1), .ref 65, .int v], m1)) rfl ?_
  refine mz_arr (c' := (644, [some (.ref 3000), some (.ref 0), some (.ref 65), some (.int 0)], [.int (m1 3000 2), .int (m1 3000 1), .ref 65, .int v], m1)) rfl (show mz_in 2 (m1 3001 0).toNatClampNeg = true by rw [e1.2]; rfl) ?_
  refine mz_do (R := mz_r176) (as := [.ref 65, .int (m1 3000 1), .int (m1 3000 2)]) (rest := [.int v]) (r1 := some (.int v)) (m1 := m2) rfl (by simp only [e1.1]; exact h2) ?_
  refine mz_go 1 (c' := (if v = v then 1582 else 650, [some (.ref 3000), some (.ref 0), some (.ref 65), some (.int 0)], [], m2)) rfl ?_
  refine mz_ifT rfl ?_
  refine mz_go 5 (c' := (21, [some (.ref 3000), some (.ref 0), some (.ref 65), some (.int 6)], [.int (Int32.ofNat (m2 3001 0).toNatClampNeg), .int 6], m2)) rfl ?_
  rw [e2.2]
  show mz_Ex 101 mz_kL (21, [some (.ref 3000), some (.ref 0), some (.ref 65), some (.int 6)], [.int 6, .int 6], m2) _
  refine mz_go 4 (c' := (1589, [some (.ref 3000), some (.ref 0), some (.ref 65), some (.int 6)], [.int 1], m2)) rfl ?_
  exact mz_ret rfl
set_option maxHeartbeats 4000000 in
set_option maxRecDepth 100000 in
theorem lwc_tick {xs : Nat → Int32} (h : xs 0 &&& 63 = 12) : ∃ m', mz_Ex 101 mz_kL (lw_c xs 6) (some (.int 1), m') := by
  obtain ⟨v, m1, m2, h1, h2⟩ := p1_tick xs 6 (xs 1)
  have e1 := lw_e h1 (lw_e0 xs)
  have e2 := lw_e h2 e1
  refine ⟨m2, ?_⟩
  refine mz_go 3 (c' := (21, [some (.ref 3000), some (.ref 0), some (.ref 65), some (.int 0)], [.int 6, .int 0], (mz_i xs 6))) rfl ?_
  refine mz_go 8 (c' := (33, [some (.ref 3000), some (.ref 0), some (.ref 65), some (.int 0)], [.int ((xs 0) &&& 63)], (mz_i xs 6))) rfl ?_
  rw [h]
  refine mz_go 7 (c' := (658, [some (.ref 3000), some (.ref 0), some (.ref 65), some (.int 0)], [.int (xs 1), .ref 0], (mz_i xs 6))) rfl ?_
  refine mz_do (R := mz_r79) (as := [.ref 0, .int (xs 1)]) (rest := []) (r1 := some (.int v)) (m1 := m1) rfl h1 ?_
  refine mz_go 5 (c' := (666, [some (.ref 3000), some (.ref 0), some (.ref 65), some (.int 0)], [.int 1, .ref 3000, .ref 65, .int v], m1)) rfl ?_
  refine mz_arr (c' := (667, [some (.ref 3000), some (.ref 0), some (.ref 65), some (.int 0)], [.int (m1 3000 1), .ref 65, .int v], m1)) rfl (show mz_in 1 (m1 3001 0).toNatClampNeg = true by rw [e1.2]; rfl) ?_
  refine mz_do (R := mz_r177) (as := [.ref 65, .int (m1 3000 1)]) (rest := [.int v]) (r1 := some (.int v)) (m1 := m2) rfl (by simp only [e1.1]; exact h2) ?_
  refine mz_go 1 (c' := (if v = v then 1582 else 673, [some (.ref 3000), some (.ref 0), some (.ref 65), some (.int 0)], [], m2)) rfl ?_
  refine mz_ifT rfl ?_
  refine mz_go 5 (c' := (21, [some (.ref 3000), some (.ref 0), some (.ref 65), some (.int 6)], [.int (Int32.ofNat (m2 3001 0).toNatClampNeg), .int 6], m2)) rfl ?_
  rw [e2.2]
  show mz_Ex 101 mz_kL (21, [some (.ref 3000), some (.ref 0), some (.ref 65), some (.int 6)], [.int 6, .int 6], m2) _
  refine mz_go 4 (c' := (1589, [some (.ref 3000), some (.ref 0), some (.ref 65), some (.int 6)], [.int 1], m2)) rfl ?_
  exact mz_ret rfl
set_option maxHeartbeats 4000000 in
set_option maxRecDepth 100000 in
theorem lwc_bob {xs : Nat → Int32} (h : xs 0 &&& 63 = 13) : ∃ m', mz_Ex 101 mz_kL (lw_c xs 6) (some (.int 1), m') := by
  obtain ⟨v, m1, m2, h1, h2⟩ := p1_bob xs 6 (xs 1)
  have e1 := lw_e h1 (lw_e0 xs)
  have e2 := lw_e h2 e1
  refine ⟨m2, ?_⟩
  refine mz_go 3 (c' := (21, [some (.ref 3000), some (.ref 0), some (.ref 65), some (.int 0)], [.int 6, .int 0], (mz_i xs 6))) rfl ?_
  refine mz_go 8 (c' := (33, [some (.ref 3000), some (.ref 0), some (.ref 65), some (.int 0)], [.int ((xs 0) &&& 63)], (mz_i xs 6))) rfl ?_
  rw [h]
  refine mz_go 7 (c' := (681, [some (.ref 3000), some (.ref 0), some (.ref 65), some (.int 0)], [.int (xs 1), .ref 0], (mz_i xs 6))) rfl ?_
  refine mz_do (R := mz_r80) (as := [.ref 0, .int (xs 1)]) (rest := []) (r1 := some (.int v)) (m1 := m1) rfl h1 ?_
  refine mz_go 5 (c' := (689, [some (.ref 3000), some (.ref 0), some (.ref 65), some (.int 0)], [.int 1, .ref 3000, .ref 65, .int v], m1)) rfl ?_
  refine mz_arr (c' := (690, [some (.ref 3000), some (.ref 0), some (.ref 65), some (.int 0)], [.int (m1 3000 1), .ref 65, .int v], m1)) rfl (show mz_in 1 (m1 3001 0).toNatClampNeg = true by rw [e1.2]; rfl) ?_
  refine mz_do (R := mz_r178) (as := [.ref 65, .int (m1 3000 1)]) (rest := [.int v]) (r1 := some (.int v)) (m1 := m2) rfl (by simp only [e1.1]; exact h2) ?_
  refine mz_go 1 (c' := (if v = v then 1582 else 696, [some (.ref 3000), some (.ref 0), some (.ref 65), some (.int 0)], [], m2)) rfl ?_
  refine mz_ifT rfl ?_
  refine mz_go 5 (c' := (21, [some (.ref 3000), some (.ref 0), some (.ref 65), some (.int 6)], [.int (Int32.ofNat (m2 3001 0).toNatClampNeg), .int 6], m2)) rfl ?_
  rw [e2.2]
  show mz_Ex 101 mz_kL (21, [some (.ref 3000), some (.ref 0), some (.ref 65), some (.int 6)], [.int 6, .int 6], m2) _
  refine mz_go 4 (c' := (1589, [some (.ref 3000), some (.ref 0), some (.ref 65), some (.int 6)], [.int 1], m2)) rfl ?_
  exact mz_ret rfl
set_option maxHeartbeats 4000000 in
set_option maxRecDepth 100000 in
theorem lwc_ends {xs : Nat → Int32} (h : xs 0 &&& 63 = 14) : ∃ m', mz_Ex 101 mz_kL (lw_c xs 6) (some (.int 1), m') := by
  obtain ⟨v, m1, m2, h1, h2⟩ := p1_ends xs 6 (xs 1) (xs 2) (xs 3) (xs 4)
  have e1 := lw_e h1 (lw_e0 xs)
  have e2 := lw_e h2 e1
  refine ⟨m2, ?_⟩
  refine mz_go 3 (c' := (21, [some (.ref 3000), some (.ref 0), some (.ref 65), some (.int 0)], [.int 6, .int 0], (mz_i xs 6))) rfl ?_
  refine mz_go 8 (c' := (33, [some (.ref 3000), some (.ref 0), some (.ref 65), some (.int 0)], [.int ((xs 0) &&& 63)], (mz_i xs 6))) rfl ?_
  rw [h]
  refine mz_go 22 (c' := (719, [some (.ref 3000), some (.ref 0), some (.ref 65), some (.int 0)], [.int (xs 4), .int (xs 3), .int (xs 2), .int (xs 1), .ref 0], (mz_i xs 6))) rfl ?_
  refine mz_do (R := mz_r81) (as := [.ref 0, .int (xs 1), .int (xs 2), .int (xs 3), .int (xs 4)]) (rest := []) (r1 := some (.int v)) (m1 := m1) rfl h1 ?_
  refine mz_go 5 (c' := (727, [some (.ref 3000), some (.ref 0), some (.ref 65), some (.int 0)], [.int 1, .ref 3000, .ref 65, .int v], m1)) rfl ?_
  refine mz_arr (c' := (728, [some (.ref 3000), some (.ref 0), some (.ref 65), some (.int 0)], [.int (m1 3000 1), .ref 65, .int v], m1)) rfl (show mz_in 1 (m1 3001 0).toNatClampNeg = true by rw [e1.2]; rfl) ?_
  refine mz_go 4 (c' := (732, [some (.ref 3000), some (.ref 0), some (.ref 65), some (.int 0)], [.int 2, .ref 3000, .int (m1 3000 1), .ref 65, .int v], m1)) rfl ?_
  refine mz_arr (c' := (733, [some (.ref 3000), some (.ref 0), some (.ref 65), some (.int 0)], [.int (m1 3000 2), .int (m1 3000 1), .ref 65, .int v], m1)) rfl (show mz_in 2 (m1 3001 0).toNatClampNeg = true by rw [e1.2]; rfl) ?_
  refine mz_go 4 (c' := (737, [some (.ref 3000), some (.ref 0), some (.ref 65), some (.int 0)], [.int 3, .ref 3000, .int (m1 3000 2), .int (m1 3000 1), .ref 65, .int v], m1)) rfl ?_
  refine mz_arr (c' := (738, [some (.ref 3000), some (.ref 0), some (.ref 65), some (.int 0)], [.int (m1 3000 3), .int (m1 3000 2), .int (m1 3000 1), .ref 65, .int v], m1)) rfl (show mz_in 3 (m1 3001 0).toNatClampNeg = true by rw [e1.2]; rfl) ?_
  refine mz_go 4 (c' := (742, [some (.ref 3000), some (.ref 0), some (.ref 65), some (.int 0)], [.int 4, .ref 3000, .int (m1 3000 3), .int (m1 3000 2), .int (m1 3000 1), .ref 65, .int v], m1)) rfl ?_
  refine mz_arr (c' := (743, [some (.ref 3000), some (.ref 0), some (.ref 65), some (.int 0)], [.int (m1 3000 4), .int (m1 3000 3), .int (m1 3000 2), .int (m1 3000 1), .ref 65, .int v], m1)) rfl (show mz_in 4 (m1 3001 0).toNatClampNeg = true by rw [e1.2]; rfl) ?_
  refine mz_do (R := mz_r179) (as := [.ref 65, .int (m1 3000 1), .int (m1 3000 2), .int (m1 3000 3), .int (m1 3000 4)]) (rest := [.int v]) (r1 := some (.int v)) (m1 := m2) rfl (by simp only [e1.1]; exact h2) ?_
  refine mz_go 1 (c' := (if v = v then 1582 else 749, [some (.ref 3000), some (.ref 0), some (.ref 65), some (.int 0)], [], m2)) rfl ?_
  refine mz_ifT rfl ?_
  refine mz_go 5 (c' := (21, [some (.ref 3000), some (.ref 0), some (.ref 65), some (.int 6)], [.int (Int32.ofNat (m2 3001 0).toNatClampNeg), .int 6], m2)) rfl ?_
  rw [e2.2]
  show mz_Ex 101 mz_kL (21, [some (.ref 3000), some (.ref 0), some (.ref 65), some (.int 6)], [.int 6, .int 6], m2) _
  refine mz_go 4 (c' := (1589, [some (.ref 3000), some (.ref 0), some (.ref 65), some (.int 6)], [.int 1], m2)) rfl ?_
  exact mz_ret rfl
set_option maxHeartbeats 4000000 in
set_option maxRecDepth 100000 in
theorem lwc_length {xs : Nat → Int32} (h : xs 0 &&& 63 = 15) : ∃ m', mz_Ex 101 mz_kL (lw_c xs 6) (some (.int 1), m') := by
  obtain ⟨v, m1, m2, h1, h2⟩ := p1_length xs 6 (xs 1) (xs 2)
  have e1 := lw_e h1 (lw_e0 xs)
  have e2 := lw_e h2 e1
  refine ⟨m2, ?_⟩
  refine mz_go 3 (c' := (21, [some (.ref 3000), some (.ref 0), some (.ref 65), some (.int 0)], [.int 6, .int 0], (mz_i xs 6))) rfl ?_
  refine mz_go 8 (c' := (33, [some (.ref 3000), some (.ref 0), some (.ref 65), some (.int 0)], [.int ((xs 0) &&& 63)], (mz_i xs 6))) rfl ?_
  rw [h]
  refine mz_go 12 (c' := (762, [some (.ref 3000), some (.ref 0), some (.ref 65), some (.int 0)], [.int (xs 2), .int (xs 1), .ref 0], (mz_i xs 6))) rfl ?_
  refine mz_do (R := mz_r82) (as := [.ref 0, .int (xs 1), .int (xs 2)]) (rest := []) (r1 := some (.int v)) (m1 := m1) rfl h1 ?_
  refine mz_go 5 (c' := (770, [some (.ref 3000), some (.ref 0), some (.ref 65), some (.int 0)], [.int 1, .ref 3000, .ref 65, .int v], m1)) rfl ?_
  refine mz_arr (c' := (771, [some (.ref 3000), some (.ref 0), some (.ref 65), some (.int 0)], [.int (m1 3000 1), .ref 65, .int v], m1)) rfl (show mz_in 1 (m1 3001 0).toNatClampNeg = true by rw [e1.2]; rfl) ?_
  refine mz_go 4 (c' := (775, [some (.ref 3000), some (.ref 0), some (.ref 65), some (.int 0)], [.int 2, .ref 3000, .int (m1 3000 1), .ref 65, .int v], m1)) rfl ?_
  refine mz_arr (c' := (776, [some (.ref 3000), some (.ref 0), some (.ref 65), some (.int 0)], [.int (m1 3000 2), .int (m1 3000 1), .ref 65, .int v], m1)) rfl (show mz_in 2 (m1 3001 0).toNatClampNeg = true by rw [e1.2]; rfl) ?_
  refine mz_do (R := mz_r180) (as := [.ref 65, .int (m1 3000 1), .int (m1 3000 2)]) (rest := [.int v]) (r1 := some (.int v)) (m1 := m2) rfl (by simp only [e1.1]; exact h2) ?_
  refine mz_go 1 (c' := (if v = v then 1582 else 782, [some (.ref 3000), some (.ref 0), some (.ref 65), some (.int 0)], [], m2)) rfl ?_
  refine mz_ifT rfl ?_
  refine mz_go 5 (c' := (21, [some (.ref 3000), some (.ref 0), some (.ref 65), some (.int 6)], [.int (Int32.ofNat (m2 3001 0).toNatClampNeg), .int 6], m2)) rfl ?_
  rw [e2.2]
  show mz_Ex 101 mz_kL (21, [some (.ref 3000), some (.ref 0), some (.ref 65), some (.int 6)], [.int 6, .int 6], m2) _
  refine mz_go 4 (c' := (1589, [some (.ref 3000), some (.ref 0), some (.ref 65), some (.int 6)], [.int 1], m2)) rfl ?_
  exact mz_ret rfl
set_option maxHeartbeats 4000000 in
set_option maxRecDepth 100000 in
theorem lwc_doubt {xs : Nat → Int32} (h : xs 0 &&& 63 = 16) : ∃ m', mz_Ex 101 mz_kL (lw_c xs 6) (some (.int 1), m') := by
  obtain ⟨v, m1, m2, h1, h2⟩ := p1_doubt xs 6 (xs 1) (xs 2)
  have e1 := lw_e h1 (lw_e0 xs)
  have e2 := lw_e h2 e1
  refine ⟨m2, ?_⟩
  refine mz_go 3 (c' := (21, [some (.ref 3000), some (.ref 0), some (.ref 65), some (.int 0)], [.int 6, .int 0], (mz_i xs 6))) rfl ?_
  refine mz_go 8 (c' := (33, [some (.ref 3000), some (.ref 0), some (.ref 65), some (.int 0)], [.int ((xs 0) &&& 63)], (mz_i xs 6))) rfl ?_
  rw [h]
  refine mz_go 12 (c' := (795, [some (.ref 3000), some (.ref 0), some (.ref 65), some (.int 0)], [.int (xs 2), .int (xs 1), .ref 0], (mz_i xs 6))) rfl ?_
  refine mz_do (R := mz_r83) (as := [.ref 0, .int (xs 1), .int (xs 2)]) (rest := []) (r1 := some (.int v)) (m1 := m1) rfl h1 ?_
  refine mz_go 5 (c' := (803, [some (.ref 3000), some (.ref 0), some (.ref 65), some (.int 0)], [.int 1, .ref 3000, .ref 65, .int v], m1)) rfl ?_
  refine mz_arr (c' := (804, [some (.ref 3000), some (.ref 0), some (.ref 65), some (.int 0)], [.int (m1 3000 1), .ref 65, .int v], m1)) rfl (show mz_in 1 (m1 3001 0).toNatClampNeg = true by rw [e1.2]; rfl) ?_
  refine mz_go 4 (c' := (808, [some (.ref 3000), some (.ref 0), some (.ref 65), some (.int 0)], [.int 2, .ref 3000, .int (m1 3000 1), .ref 65, .int v], m1)) rfl ?_
  refine mz_arr (c' := (809, [some (.ref 3000), some (.ref 0), some (.ref 65), some (.int 0)], [.int (m1 3000 2), .int (m1 3000 1), .ref 65, .int v], m1)) rfl (show mz_in 2 (m1 3001 0).toNatClampNeg = true by rw [e1.2]; rfl) ?_
  refine mz_do (R := mz_r181) (as := [.ref 65, .int (m1 3000 1), .int (m1 3000 2)]) (rest := [.int v]) (r1 := some (.int v)) (m1 := m2) rfl (by simp only [e1.1]; exact h2) ?_
  refine mz_go 1 (c' := (if v = v then 1582 else 815, [some (.ref 3000), some (.ref 0), some (.ref 65), some (.int 0)], [], m2)) rfl ?_
  refine mz_ifT rfl ?_
  refine mz_go 5 (c' := (21, [some (.ref 3000), some (.ref 0), some (.ref 65), some (.int 6)], [.int (Int32.ofNat (m2 3001 0).toNatClampNeg), .int 6], m2)) rfl ?_
  rw [e2.2]
  show mz_Ex 101 mz_kL (21, [some (.ref 3000), some (.ref 0), some (.ref 65), some (.int 6)], [.int 6, .int 6], m2) _
  refine mz_go 4 (c' := (1589, [some (.ref 3000), some (.ref 0), some (.ref 65), some (.int 6)], [.int 1], m2)) rfl ?_
  exact mz_ret rfl
set_option maxHeartbeats 4000000 in
set_option maxRecDepth 100000 in
theorem lwc_holds {xs : Nat → Int32} (h : xs 0 &&& 63 = 17) : ∃ m', mz_Ex 101 mz_kL (lw_c xs 6) (some (.int 1), m') := by
  obtain ⟨v, m1, m2, h1, h2⟩ := p1_holds xs 6 (xs 1) (xs 2)
  have e1 := lw_e h1 (lw_e0 xs)
  have e2 := lw_e h2 e1
  refine ⟨m2, ?_⟩
  refine mz_go 3 (c' := (21, [some (.ref 3000), some (.ref 0), some (.ref 65), some (.int 0)], [.int 6, .int 0], (mz_i xs 6))) rfl ?_
  refine mz_go 8 (c' := (33, [some (.ref 3000), some (.ref 0), some (.ref 65), some (.int 0)], [.int ((xs 0) &&& 63)], (mz_i xs 6))) rfl ?_
  rw [h]
  refine mz_go 12 (c' := (828, [some (.ref 3000), some (.ref 0), some (.ref 65), some (.int 0)], [.int (xs 2), .int (xs 1), .ref 0], (mz_i xs 6))) rfl ?_
  refine mz_do (R := mz_r84) (as := [.ref 0, .int (xs 1), .int (xs 2)]) (rest := []) (r1 := some (.int v)) (m1 := m1) rfl h1 ?_
  refine mz_go 5 (c' := (836, [some (.ref 3000), some (.ref 0), some (.ref 65), some (.int 0)], [.int 1, .ref 3000, .ref 65, .int v], m1)) rfl ?_
  refine mz_arr (c' := (837, [some (.ref 3000), some (.ref 0), some (.ref 65), some (.int 0)], [.int (m1 3000 1), .ref 65, .int v], m1)) rfl (show mz_in 1 (m1 3001 0).toNatClampNeg = true by rw [e1.2]; rfl) ?_
  refine mz_go 4 (c' := (841, [some (.ref 3000), some (.ref 0), some (.ref 65), some (.int 0)], [.int 2, .ref 3000, .int (m1 3000 1), .ref 65, .int v], m1)) rfl ?_
  refine mz_arr (c' := (842, [some (.ref 3000), some (.ref 0), some (.ref 65), some (.int 0)], [.int (m1 3000 2), .int (m1 3000 1), .ref 65, .int v], m1)) rfl (show mz_in 2 (m1 3001 0).toNatClampNeg = true by rw [e1.2]; rfl) ?_
  refine mz_do (R := mz_r182) (as := [.ref 65, .int (m1 3000 1), .int (m1 3000 2)]) (rest := [.int v]) (r1 := some (.int v)) (m1 := m2) rfl (by simp only [e1.1]; exact h2) ?_
  refine mz_go 1 (c' := (if v = v then 1582 else 848, [some (.ref 3000), some (.ref 0), some (.ref 65), some (.int 0)], [], m2)) rfl ?_
  refine mz_ifT rfl ?_
  refine mz_go 5 (c' := (21, [some (.ref 3000), some (.ref 0), some (.ref 65), some (.int 6)], [.int (Int32.ofNat (m2 3001 0).toNatClampNeg), .int 6], m2)) rfl ?_
  rw [e2.2]
  show mz_Ex 101 mz_kL (21, [some (.ref 3000), some (.ref 0), some (.ref 65), some (.int 6)], [.int 6, .int 6], m2) _
  refine mz_go 4 (c' := (1589, [some (.ref 3000), some (.ref 0), some (.ref 65), some (.int 6)], [.int 1], m2)) rfl ?_
  exact mz_ret rfl
set_option maxHeartbeats 4000000 in
set_option maxRecDepth 100000 in
theorem lwc_cell {xs : Nat → Int32} (h : xs 0 &&& 63 = 19) : ∃ m', mz_Ex 101 mz_kL (lw_c xs 6) (some (.int 1), m') := by
  obtain ⟨v, m1, m2, h1, h2⟩ := p1_cell xs 6 (xs 1) (xs 2)
  have e1 := lw_e h1 (lw_e0 xs)
  have e2 := lw_e h2 e1
  refine ⟨m2, ?_⟩
  refine mz_go 3 (c' := (21, [some (.ref 3000), some (.ref 0), some (.ref 65), some (.int 0)], [.int 6, .int 0], (mz_i xs 6))) rfl ?_
  refine mz_go 8 (c' := (33, [some (.ref 3000), some (.ref 0), some (.ref 65), some (.int 0)], [.int ((xs 0) &&& 63)], (mz_i xs 6))) rfl ?_
  rw [h]
  refine mz_go 12 (c' := (914, [some (.ref 3000), some (.ref 0), some (.ref 65), some (.int 0)], [.int (xs 2), .int (xs 1), .ref 0], (mz_i xs 6))) rfl ?_
  refine mz_do (R := mz_r86) (as := [.ref 0, .int (xs 1), .int (xs 2)]) (rest := []) (r1 := some (.int v)) (m1 := m1) rfl h1 ?_
  refine mz_go 5 (c' := (922, [some (.ref 3000), some (.ref 0), some (.ref 65), some (.int 0)], [.int 1, .ref 3000, .ref 65, .int v], m1)) rfl ?_
  refine mz_arr (c' := (923, [some (.ref 3000), some (.ref 0), some (.ref 65), some (.int 0)], [.int (m1 3000 1), .ref 65, .int v], m1)) rfl (show mz_in 1 (m1 3001 0).toNatClampNeg = true by rw [e1.2]; rfl) ?_
  refine mz_go 4 (c' := (927, [some (.ref 3000), some (.ref 0), some (.ref 65), some (.int 0)], [.int 2, .ref 3000, .int (m1 3000 1), .ref 65, .int v], m1)) rfl ?_
  refine mz_arr (c' := (928, [some (.ref 3000), some (.ref 0), some (.ref 65), some (.int 0)], [.int (m1 3000 2), .int (m1 3000 1), .ref 65, .int v], m1)) rfl (show mz_in 2 (m1 3001 0).toNatClampNeg = true by rw [e1.2]; rfl) ?_
  refine mz_do (R := mz_r191) (as := [.ref 65, .int (m1 3000 1), .int (m1 3000 2)]) (rest := [.int v]) (r1 := some (.int v)) (m1 := m2) rfl (by simp only [e1.1]; exact h2) ?_
  refine mz_go 1 (c' := (if v = v then 1582 else 934, [some (.ref 3000), some (.ref 0), some (.ref 65), some (.int 0)], [], m2)) rfl ?_
  refine mz_ifT rfl ?_
  refine mz_go 5 (c' := (21, [some (.ref 3000), some (.ref 0), some (.ref 65), some (.int 6)], [.int (Int32.ofNat (m2 3001 0).toNatClampNeg), .int 6], m2)) rfl ?_
  rw [e2.2]
  show mz_Ex 101 mz_kL (21, [some (.ref 3000), some (.ref 0), some (.ref 65), some (.int 6)], [.int 6, .int 6], m2) _
  refine mz_go 4 (c' := (1589, [some (.ref 3000), some (.ref 0), some (.ref 65), some (.int 6)], [.int 1], m2)) rfl ?_
  exact mz_ret rfl
set_option maxHeartbeats 4000000 in
set_option maxRecDepth 100000 in
theorem lwc_share {xs : Nat → Int32} (h : xs 0 &&& 63 = 20) : ∃ m', mz_Ex 101 mz_kL (lw_c xs 6) (some (.int 1), m') := by
  obtain ⟨v, m1, m2, h1, h2⟩ := p1_share xs 6 (xs 1)
  have e1 := lw_e h1 (lw_e0 xs)
  have e2 := lw_e h2 e1
  refine ⟨m2, ?_⟩
  refine mz_go 3 (c' := (21, [some (.ref 3000), some (.ref 0), some (.ref 65), some (.int 0)], [.int 6, .int 0], (mz_i xs 6))) rfl ?_
  refine mz_go 8 (c' := (33, [some (.ref 3000), some (.ref 0), some (.ref 65), some (.int 0)], [.int ((xs 0) &&& 63)], (mz_i xs 6))) rfl ?_
  rw [h]
  refine mz_go 7 (c' := (942, [some (.ref 3000), some (.ref 0), some (.ref 65), some (.int 0)], [.int (xs 1), .ref 0], (mz_i xs 6))) rfl ?_
  refine mz_do (R := mz_r87) (as := [.ref 0, .int (xs 1)]) (rest := []) (r1 := some (.int v)) (m1 := m1) rfl h1 ?_
  refine mz_go 5 (c' := (950, [some (.ref 3000), some (.ref 0), some (.ref 65), some (.int 0)], [.int 1, .ref 3000, .ref 65, .int v], m1)) rfl ?_
  refine mz_arr (c' := (951, [some (.ref 3000), some (.ref 0), some (.ref 65), some (.int 0)], [.int (m1 3000 1), .ref 65, .int v], m1)) rfl (show mz_in 1 (m1 3001 0).toNatClampNeg = true by rw [e1.2]; rfl) ?_
  refine mz_do (R := mz_r194) (as := [.ref 65, .int (m1 3000 1)]) (rest := [.int v]) (r1 := some (.int v)) (m1 := m2) rfl (by simp only [e1.1]; exact h2) ?_
  refine mz_go 1 (c' := (if v = v then 1582 else 957, [some (.ref 3000), some (.ref 0), some (.ref 65), some (.int 0)], [], m2)) rfl ?_
  refine mz_ifT rfl ?_
  refine mz_go 5 (c' := (21, [some (.ref 3000), some (.ref 0), some (.ref 65), some (.int 6)], [.int (Int32.ofNat (m2 3001 0).toNatClampNeg), .int 6], m2)) rfl ?_
  rw [e2.2]
  show mz_Ex 101 mz_kL (21, [some (.ref 3000), some (.ref 0), some (.ref 65), some (.int 6)], [.int 6, .int 6], m2) _
  refine mz_go 4 (c' := (1589, [some (.ref 3000), some (.ref 0), some (.ref 65), some (.int 6)], [.int 1], m2)) rfl ?_
  exact mz_ret rfl
set_option maxHeartbeats 4000000 in
set_option maxRecDepth 100000 in
theorem lwc_edge {xs : Nat → Int32} (h : xs 0 &&& 63 = 21) : ∃ m', mz_Ex 101 mz_kL (lw_c xs 6) (some (.int 1), m') := by
  obtain ⟨v, m1, m2, h1, h2⟩ := p1_edge xs 6 (xs 1) (xs 2)
  have e1 := lw_e h1 (lw_e0 xs)
  have e2 := lw_e h2 e1
  refine ⟨m2, ?_⟩
  refine mz_go 3 (c' := (21, [some (.ref 3000), some (.ref 0), some (.ref 65), some (.int 0)], [.int 6, .int 0], (mz_i xs 6))) rfl ?_
  refine mz_go 8 (c' := (33, [some (.ref 3000), some (.ref 0), some (.ref 65), some (.int 0)], [.int ((xs 0) &&& 63)], (mz_i xs 6))) rfl ?_
  rw [h]
  refine mz_go 12 (c' := (970, [some (.ref 3000), some (.ref 0), some (.ref 65), some (.int 0)], [.int (xs 2), .int (xs 1), .ref 0], (mz_i xs 6))) rfl ?_
  refine mz_do (R := mz_r88) (as := [.ref 0, .int (xs 1), .int (xs 2)]) (rest := []) (r1 := some (.int v)) (m1 := m1) rfl h1 ?_
  refine mz_go 5 (c' := (978, [some (.ref 3000), some (.ref 0), some (.ref 65), some (.int 0)], [.int 1, .ref 3000, .ref 65, .int v], m1)) rfl ?_
  refine mz_arr (c' := (979, [some (.ref 3000), some (.ref 0), some (.ref 65), some (.int 0)], [.int (m1 3000 1), .ref 65, .int v], m1)) rfl (show mz_in 1 (m1 3001 0).toNatClampNeg = true by rw [e1.2]; rfl) ?_
  refine mz_go 4 (c' := (983, [some (.ref 3000), some (.ref 0), some (.ref 65), some (.int 0)], [.int 2, .ref 3000, .int (m1 3000 1), .ref 65, .int v], m1)) rfl ?_
  refine mz_arr (c' := (984, [some (.ref 3000), some (.ref 0), some (.ref 65), some (.int 0)], [.int (m1 3000 2), .int (m1 3000 1), .ref 65, .int v], m1)) rfl (show mz_in 2 (m1 3001 0).toNatClampNeg = true by rw [e1.2]; rfl) ?_
  refine mz_do (R := mz_r197) (as := [.ref 65, .int (m1 3000 1), .int (m1 3000 2)]) (rest := [.int v]) (r1 := some (.int v)) (m1 := m2) rfl (by simp only [e1.1]; exact h2) ?_
  refine mz_go 1 (c' := (if v = v then 1582 else 990, [some (.ref 3000), some (.ref 0), some (.ref 65), some (.int 0)], [], m2)) rfl ?_
  refine mz_ifT rfl ?_
  refine mz_go 5 (c' := (21, [some (.ref 3000), some (.ref 0), some (.ref 65), some (.int 6)], [.int (Int32.ofNat (m2 3001 0).toNatClampNeg), .int 6], m2)) rfl ?_
  rw [e2.2]
  show mz_Ex 101 mz_kL (21, [some (.ref 3000), some (.ref 0), some (.ref 65), some (.int 6)], [.int 6, .int 6], m2) _
  refine mz_go 4 (c' := (1589, [some (.ref 3000), some (.ref 0), some (.ref 65), some (.int 6)], [.int 1], m2)) rfl ?_
  exact mz_ret rfl
set_option maxHeartbeats 4000000 in
set_option maxRecDepth 100000 in
theorem lwc_seen {xs : Nat → Int32} (h : xs 0 &&& 63 = 22) : ∃ m', mz_Ex 101 mz_kL (lw_c xs 6) (some (.int 1), m') := by
  obtain ⟨v, m1, m2, h1, h2⟩ := p1_seen xs 6 (xs 1)
  have e1 := lw_e h1 (lw_e0 xs)
  have e2 := lw_e h2 e1
  refine ⟨m2, ?_⟩
  refine mz_go 3 (c' := (21, [some (.ref 3000), some (.ref 0), some (.ref 65), some (.int 0)], [.int 6, .int 0], (mz_i xs 6))) rfl ?_
  refine mz_go 8 (c' := (33, [some (.ref 3000), some (.ref 0), some (.ref 65), some (.int 0)], [.int ((xs 0) &&& 63)], (mz_i xs 6))) rfl ?_
  rw [h]
  refine mz_go 7 (c' := (998, [some (.ref 3000), some (.ref 0), some (.ref 65), some (.int 0)], [.int (xs 1), .ref 0], (mz_i xs 6))) rfl ?_
  refine mz_do (R := mz_r89) (as := [.ref 0, .int (xs 1)]) (rest := []) (r1 := some (.int v)) (m1 := m1) rfl h1 ?_
  refine mz_go 5 (c' := (1006, [some (.ref 3000), some (.ref 0), some (.ref 65), some (.int 0)], [.int 1, .ref 3000, .ref 65, .int v], m1)) rfl ?_
  refine mz_arr (c' := (1007, [some (.ref 3000), some (.ref 0), some (.ref 65), some (.int 0)], [.int (m1 3000 1), .ref 65, .int v], m1)) rfl (show mz_in 1 (m1 3001 0).toNatClampNeg = true by rw [e1.2]; rfl) ?_
  refine mz_do (R := mz_r199) (as := [.ref 65, .int (m1 3000 1)]) (rest := [.int v]) (r1 := some (.int v)) (m1 := m2) rfl (by simp only [e1.1]; exact h2) ?_
  refine mz_go 1 (c' := (if v = v then 1582 else 1013, [some (.ref 3000), some (.ref 0), some (.ref 65), some (.int 0)], [], m2)) rfl ?_
  refine mz_ifT rfl ?_
  refine mz_go 5 (c' := (21, [some (.ref 3000), some (.ref 0), some (.ref 65), some (.int 6)], [.int (Int32.ofNat (m2 3001 0).toNatClampNeg), .int 6], m2)) rfl ?_
  rw [e2.2]
  show mz_Ex 101 mz_kL (21, [some (.ref 3000), some (.ref 0), some (.ref 65), some (.int 6)], [.int 6, .int 6], m2) _
  refine mz_go 4 (c' := (1589, [some (.ref 3000), some (.ref 0), some (.ref 65), some (.int 6)], [.int 1], m2)) rfl ?_
  exact mz_ret rfl
set_option maxHeartbeats 4000000 in
set_option maxRecDepth 100000 in
theorem lwc_sure {xs : Nat → Int32} (h : xs 0 &&& 63 = 23) : ∃ m', mz_Ex 101 mz_kL (lw_c xs 6) (some (.int 1), m') := by
  obtain ⟨v, m1, m2, h1, h2⟩ := p1_sure xs 6 (xs 1) (xs 2) (xs 3)
  have e1 := lw_e h1 (lw_e0 xs)
  have e2 := lw_e h2 e1
  refine ⟨m2, ?_⟩
  refine mz_go 3 (c' := (21, [some (.ref 3000), some (.ref 0), some (.ref 65), some (.int 0)], [.int 6, .int 0], (mz_i xs 6))) rfl ?_
  refine mz_go 8 (c' := (33, [some (.ref 3000), some (.ref 0), some (.ref 65), some (.int 0)], [.int ((xs 0) &&& 63)], (mz_i xs 6))) rfl ?_
  rw [h]
  refine mz_go 17 (c' := (1031, [some (.ref 3000), some (.ref 0), some (.ref 65), some (.int 0)], [.int (xs 3), .int (xs 2), .int (xs 1), .ref 0], (mz_i xs 6))) rfl ?_
  refine mz_do (R := mz_r90) (as := [.ref 0, .int (xs 1), .int (xs 2), .int (xs 3)]) (rest := []) (r1 := some (.int v)) (m1 := m1) rfl h1 ?_
  refine mz_go 5 (c' := (1039, [some (.ref 3000), some (.ref 0), some (.ref 65), some (.int 0)], [.int 1, .ref 3000, .ref 65, .int v], m1)) rfl ?_
  refine mz_arr (c' := (1040, [some (.ref 3000), some (.ref 0), some (.ref 65), some (.int 0)], [.int (m1 3000 1), .ref 65, .int v], m1)) rfl (show mz_in 1 (m1 3001 0).toNatClampNeg = true by rw [e1.2]; rfl) ?_
  refine mz_go 4 (c' := (1044, [some (.ref 3000), some (.ref 0), some (.ref 65), some (.int 0)], [.int 2, .ref 3000, .int (m1 3000 1), .ref 65, .int v], m1)) rfl ?_
  refine mz_arr (c' := (1045, [some (.ref 3000), some (.ref 0), some (.ref 65), some (.int 0)], [.int (m1 3000 2), .int (m1 3000 1), .ref 65, .int v], m1)) rfl (show mz_in 2 (m1 3001 0).toNatClampNeg = true by rw [e1.2]; rfl) ?_
  refine mz_go 4 (c' := (1049, [some (.ref 3000), some (.ref 0), some (.ref 65), some (.int 0)], [.int 3, .ref 3000, .int (m1 3000 2), .int (m1 3000 1), .ref 65, .int v], m1)) rfl ?_
  refine mz_arr (c' := (1050, [some (.ref 3000), some (.ref 0), some (.ref 65), some (.int 0)], [.int (m1 3000 3), .int (m1 3000 2), .int (m1 3000 1), .ref 65, .int v], m1)) rfl (show mz_in 3 (m1 3001 0).toNatClampNeg = true by rw [e1.2]; rfl) ?_
  refine mz_do (R := mz_r200) (as := [.ref 65, .int (m1 3000 1), .int (m1 3000 2), .int (m1 3000 3)]) (rest := [.int v]) (r1 := some (.int v)) (m1 := m2) rfl (by simp only [e1.1]; exact h2) ?_
  refine mz_go 1 (c' := (if v = v then 1582 else 1056, [some (.ref 3000), some (.ref 0), some (.ref 65), some (.int 0)], [], m2)) rfl ?_
  refine mz_ifT rfl ?_
  refine mz_go 5 (c' := (21, [some (.ref 3000), some (.ref 0), some (.ref 65), some (.int 6)], [.int (Int32.ofNat (m2 3001 0).toNatClampNeg), .int 6], m2)) rfl ?_
  rw [e2.2]
  show mz_Ex 101 mz_kL (21, [some (.ref 3000), some (.ref 0), some (.ref 65), some (.int 6)], [.int 6, .int 6], m2) _
  refine mz_go 4 (c' := (1589, [some (.ref 3000), some (.ref 0), some (.ref 65), some (.int 6)], [.int 1], m2)) rfl ?_
  exact mz_ret rfl
set_option maxHeartbeats 4000000 in
set_option maxRecDepth 100000 in
theorem lwc_turned {xs : Nat → Int32} (h : xs 0 &&& 63 = 24) : ∃ m', mz_Ex 101 mz_kL (lw_c xs 6) (some (.int 1), m') := by
  obtain ⟨v, m1, m2, h1, h2⟩ := p1_turned xs 6 (xs 1)
  have e1 := lw_e h1 (lw_e0 xs)
  have e2 := lw_e h2 e1
  refine ⟨m2, ?_⟩
  refine mz_go 3 (c' := (21, [some (.ref 3000), some (.ref 0), some (.ref 65), some (.int 0)], [.int 6, .int 0], (mz_i xs 6))) rfl ?_
  refine mz_go 8 (c' := (33, [some (.ref 3000), some (.ref 0), some (.ref 65), some (.int 0)], [.int ((xs 0) &&& 63)], (mz_i xs 6))) rfl ?_
  rw [h]
  refine mz_go 7 (c' := (1064, [some (.ref 3000), some (.ref 0), some (.ref 65), some (.int 0)], [.int (xs 1), .ref 0], (mz_i xs 6))) rfl ?_
  refine mz_do (R := mz_r91) (as := [.ref 0, .int (xs 1)]) (rest := []) (r1 := some (.int v)) (m1 := m1) rfl h1 ?_
  refine mz_go 5 (c' := (1072, [some (.ref 3000), some (.ref 0), some (.ref 65), some (.int 0)], [.int 1, .ref 3000, .ref 65, .int v], m1)) rfl ?_
  refine mz_arr (c' := (1073, [some (.ref 3000), some (.ref 0), some (.ref 65), some (.int 0)], [.int (m1 3000 1), .ref 65, .int v], m1)) rfl (show mz_in 1 (m1 3001 0).toNatClampNeg = true by rw [e1.2]; rfl) ?_
  refine mz_do (R := mz_r201) (as := [.ref 65, .int (m1 3000 1)]) (rest := [.int v]) (r1 := some (.int v)) (m1 := m2) rfl (by simp only [e1.1]; exact h2) ?_
  refine mz_go 1 (c' := (if v = v then 1582 else 1079, [some (.ref 3000), some (.ref 0), some (.ref 65), some (.int 0)], [], m2)) rfl ?_
  refine mz_ifT rfl ?_
  refine mz_go 5 (c' := (21, [some (.ref 3000), some (.ref 0), some (.ref 65), some (.int 6)], [.int (Int32.ofNat (m2 3001 0).toNatClampNeg), .int 6], m2)) rfl ?_
  rw [e2.2]
  show mz_Ex 101 mz_kL (21, [some (.ref 3000), some (.ref 0), some (.ref 65), some (.int 6)], [.int 6, .int 6], m2) _
  refine mz_go 4 (c' := (1589, [some (.ref 3000), some (.ref 0), some (.ref 65), some (.int 6)], [.int 1], m2)) rfl ?_
  exact mz_ret rfl
set_option maxHeartbeats 4000000 in
set_option maxRecDepth 100000 in
theorem lwc_fair {xs : Nat → Int32} (h : xs 0 &&& 63 = 25) : ∃ m', mz_Ex 101 mz_kL (lw_c xs 6) (some (.int 1), m') := by
  obtain ⟨v, m1, m2, h1, h2⟩ := p1_fair xs 6 (xs 1)
  have e1 := lw_e h1 (lw_e0 xs)
  have e2 := lw_e h2 e1
  refine ⟨m2, ?_⟩
  refine mz_go 3 (c' := (21, [some (.ref 3000), some (.ref 0), some (.ref 65), some (.int 0)], [.int 6, .int 0], (mz_i xs 6))) rfl ?_
  refine mz_go 8 (c' := (33, [some (.ref 3000), some (.ref 0), some (.ref 65), some (.int 0)], [.int ((xs 0) &&& 63)], (mz_i xs 6))) rfl ?_
  rw [h]
  refine mz_go 7 (c' := (1087, [some (.ref 3000), some (.ref 0), some (.ref 65), some (.int 0)], [.int (xs 1), .ref 0], (mz_i xs 6))) rfl ?_
  refine mz_do (R := mz_r92) (as := [.ref 0, .int (xs 1)]) (rest := []) (r1 := some (.int v)) (m1 := m1) rfl h1 ?_
  refine mz_go 5 (c' := (1095, [some (.ref 3000), some (.ref 0), some (.ref 65), some (.int 0)], [.int 1, .ref 3000, .ref 65, .int v], m1)) rfl ?_
  refine mz_arr (c' := (1096, [some (.ref 3000), some (.ref 0), some (.ref 65), some (.int 0)], [.int (m1 3000 1), .ref 65, .int v], m1)) rfl (show mz_in 1 (m1 3001 0).toNatClampNeg = true by rw [e1.2]; rfl) ?_
  refine mz_do (R := mz_r202) (as := [.ref 65, .int (m1 3000 1)]) (rest := [.int v]) (r1 := some (.int v)) (m1 := m2) rfl (by simp only [e1.1]; exact h2) ?_
  refine mz_go 1 (c' := (if v = v then 1582 else 1102, [some (.ref 3000), some (.ref 0), some (.ref 65), some (.int 0)], [], m2)) rfl ?_
  refine mz_ifT rfl ?_
  refine mz_go 5 (c' := (21, [some (.ref 3000), some (.ref 0), some (.ref 65), some (.int 6)], [.int (Int32.ofNat (m2 3001 0).toNatClampNeg), .int 6], m2)) rfl ?_
  rw [e2.2]
  show mz_Ex 101 mz_kL (21, [some (.ref 3000), some (.ref 0), some (.ref 65), some (.int 6)], [.int 6, .int 6], m2) _
  refine mz_go 4 (c' := (1589, [some (.ref 3000), some (.ref 0), some (.ref 65), some (.int 6)], [.int 1], m2)) rfl ?_
  exact mz_ret rfl
set_option maxHeartbeats 4000000 in
set_option maxRecDepth 100000 in
theorem lwc_want {xs : Nat → Int32} (h : xs 0 &&& 63 = 26) : ∃ m', mz_Ex 101 mz_kL (lw_c xs 6) (some (.int 1), m') := by
  obtain ⟨v, m1, m2, h1, h2⟩ := p1_want xs 6 (xs 1)
  have e1 := lw_e h1 (lw_e0 xs)
  have e2 := lw_e h2 e1
  refine ⟨m2, ?_⟩
  refine mz_go 3 (c' := (21, [some (.ref 3000), some (.ref 0), some (.ref 65), some (.int 0)], [.int 6, .int 0], (mz_i xs 6))) rfl ?_
  refine mz_go 8 (c' := (33, [some (.ref 3000), some (.ref 0), some (.ref 65), some (.int 0)], [.int ((xs 0) &&& 63)], (mz_i xs 6))) rfl ?_
  rw [h]
  refine mz_go 7 (c' := (1110, [some (.ref 3000), some (.ref 0), some (.ref 65), some (.int 0)], [.int (xs 1), .ref 0], (mz_i xs 6))) rfl ?_
  refine mz_do (R := mz_r93) (as := [.ref 0, .int (xs 1)]) (rest := []) (r1 := some (.int v)) (m1 := m1) rfl h1 ?_
  refine mz_go 5 (c' := (1118, [some (.ref 3000), some (.ref 0), some (.ref 65), some (.int 0)], [.int 1, .ref 3000, .ref 65, .int v], m1)) rfl ?_
  refine mz_arr (c' := (1119, [some (.ref 3000), some (.ref 0), some (.ref 65), some (.int 0)], [.int (m1 3000 1), .ref 65, .int v], m1)) rfl (show mz_in 1 (m1 3001 0).toNatClampNeg = true by rw [e1.2]; rfl) ?_
  refine mz_do (R := mz_r204) (as := [.ref 65, .int (m1 3000 1)]) (rest := [.int v]) (r1 := some (.int v)) (m1 := m2) rfl (by simp only [e1.1]; exact h2) ?_
  refine mz_go 1 (c' := (if v = v then 1582 else 1125, [some (.ref 3000), some (.ref 0), some (.ref 65), some (.int 0)], [], m2)) rfl ?_
  refine mz_ifT rfl ?_
  refine mz_go 5 (c' := (21, [some (.ref 3000), some (.ref 0), some (.ref 65), some (.int 6)], [.int (Int32.ofNat (m2 3001 0).toNatClampNeg), .int 6], m2)) rfl ?_
  rw [e2.2]
  show mz_Ex 101 mz_kL (21, [some (.ref 3000), some (.ref 0), some (.ref 65), some (.int 6)], [.int 6, .int 6], m2) _
  refine mz_go 4 (c' := (1589, [some (.ref 3000), some (.ref 0), some (.ref 65), some (.int 6)], [.int 1], m2)) rfl ?_
  exact mz_ret rfl
set_option maxHeartbeats 4000000 in
set_option maxRecDepth 100000 in
theorem lwc_throwsOf {xs : Nat → Int32} (h : xs 0 &&& 63 = 27) : ∃ m', mz_Ex 101 mz_kL (lw_c xs 6) (some (.int 1), m') := by
  obtain ⟨v, m1, m2, h1, h2⟩ := p1_throwsOf xs 6 (xs 1) (xs 2) (xs 3) (xs 4)
  have e1 := lw_e h1 (lw_e0 xs)
  have e2 := lw_e h2 e1
  refine ⟨m2, ?_⟩
  refine mz_go 3 (c' := (21, [some (.ref 3000), some (.ref 0), some (.ref 65), some (.int 0)], [.int 6, .int 0], (mz_i xs 6))) rfl ?_
  refine mz_go 8 (c' := (33, [some (.ref 3000), some (.ref 0), some (.ref 65), some (.int 0)], [.int ((xs 0) &&& 63)], (mz_i xs 6))) rfl ?_
  rw [h]
  refine mz_go 22 (c' := (1148, [some (.ref 3000), some (.ref 0), some (.ref 65), some (.int 0)], [.int (xs 4), .int (xs 3), .int (xs 2), .int (xs 1), .ref 0], (mz_i xs 6))) rfl ?_
  refine mz_do (R := mz_r94) (as := [.ref 0, .int (xs 1), .int (xs 2), .int (xs 3), .int (xs 4)]) (rest := []) (r1 := some (.int v)) (m1 := m1) rfl h1 ?_
  refine mz_go 5 (c' := (1156, [some (.ref 3000), some (.ref 0), some (.ref 65), some (.int 0)], [.int 1, .ref 3000, .ref 65, .int v], m1)) rfl ?_
  refine mz_arr (c' := (1157, [some (.ref 3000), some (.ref 0), some (.ref 65), some (.int 0)], [.int (m1 3000 1), .ref 65, .int v], m1)) rfl (show mz_in 1 (m1 3001 0).toNatClampNeg = true by rw [e1.2]; rfl) ?_
  refine mz_go 4 (c' := (1161, [some (.ref 3000), some (.ref 0), some (.ref 65), some (.int 0)], [.int 2, .ref 3000, .int (m1 3000 1), .ref 65, .int v], m1)) rfl ?_
  refine mz_arr (c' := (1162, [some (.ref 3000), some (.ref 0), some (.ref 65), some (.int 0)], [.int (m1 3000 2), .int (m1 3000 1), .ref 65, .int v], m1)) rfl (show mz_in 2 (m1 3001 0).toNatClampNeg = true by rw [e1.2]; rfl) ?_
  refine mz_go 4 (c' := (1166, [some (.ref 3000), some (.ref 0), some (.ref 65), some (.int 0)], [.int 3, .ref 3000, .int (m1 3000 2), .int (m1 3000 1), .ref 65, .int v], m1)) rfl ?_
  refine mz_arr (c' := (1167, [some (.ref 3000), some (.ref 0), some (.ref 65), some (.int 0)], [.int (m1 3000 3), .int (m1 3000 2), .int (m1 3000 1), .ref 65, .int v], m1)) rfl (show mz_in 3 (m1 3001 0).toNatClampNeg = true by rw [e1.2]; rfl) ?_
  refine mz_go 4 (c' := (1171, [some (.ref 3000), some (.ref 0), some (.ref 65), some (.int 0)], [.int 4, .ref 3000, .int (m1 3000 3), .int (m1 3000 2), .int (m1 3000 1), .ref 65, .int v], m1)) rfl ?_
  refine mz_arr (c' := (1172, [some (.ref 3000), some (.ref 0), some (.ref 65), some (.int 0)], [.int (m1 3000 4), .int (m1 3000 3), .int (m1 3000 2), .int (m1 3000 1), .ref 65, .int v], m1)) rfl (show mz_in 4 (m1 3001 0).toNatClampNeg = true by rw [e1.2]; rfl) ?_
  refine mz_do (R := mz_r206) (as := [.ref 65, .int (m1 3000 1), .int (m1 3000 2), .int (m1 3000 3), .int (m1 3000 4)]) (rest := [.int v]) (r1 := some (.int v)) (m1 := m2) rfl (by simp only [e1.1]; exact h2) ?_
  refine mz_go 1 (c' := (if v = v then 1582 else 1178, [some (.ref 3000), some (.ref 0), some (.ref 65), some (.int 0)], [], m2)) rfl ?_
  refine mz_ifT rfl ?_
  refine mz_go 5 (c' := (21, [some (.ref 3000), some (.ref 0), some (.ref 65), some (.int 6)], [.int (Int32.ofNat (m2 3001 0).toNatClampNeg), .int 6], m2)) rfl ?_
  rw [e2.2]
  show mz_Ex 101 mz_kL (21, [some (.ref 3000), some (.ref 0), some (.ref 65), some (.int 6)], [.int 6, .int 6], m2) _
  refine mz_go 4 (c' := (1589, [some (.ref 3000), some (.ref 0), some (.ref 65), some (.int 6)], [.int 1], m2)) rfl ?_
  exact mz_ret rfl
set_option maxHeartbeats 4000000 in
set_option maxRecDepth 100000 in
theorem lwc_thrownAt {xs : Nat → Int32} (h : xs 0 &&& 63 = 28) : ∃ m', mz_Ex 101 mz_kL (lw_c xs 6) (some (.int 1), m') := by
  obtain ⟨v, m1, m2, h1, h2⟩ := p1_thrownAt xs 6 (xs 1)
  have e1 := lw_e h1 (lw_e0 xs)
  have e2 := lw_e h2 e1
  refine ⟨m2, ?_⟩
  refine mz_go 3 (c' := (21, [some (.ref 3000), some (.ref 0), some (.ref 65), some (.int 0)], [.int 6, .int 0], (mz_i xs 6))) rfl ?_
  refine mz_go 8 (c' := (33, [some (.ref 3000), some (.ref 0), some (.ref 65), some (.int 0)], [.int ((xs 0) &&& 63)], (mz_i xs 6))) rfl ?_
  rw [h]
  refine mz_go 7 (c' := (1186, [some (.ref 3000), some (.ref 0), some (.ref 65), some (.int 0)], [.int (xs 1), .ref 0], (mz_i xs 6))) rfl ?_
  refine mz_do (R := mz_r95) (as := [.ref 0, .int (xs 1)]) (rest := []) (r1 := some (.int v)) (m1 := m1) rfl h1 ?_
  refine mz_go 5 (c' := (1194, [some (.ref 3000), some (.ref 0), some (.ref 65), some (.int 0)], [.int 1, .ref 3000, .ref 65, .int v], m1)) rfl ?_
  refine mz_arr (c' := (1195, [some (.ref 3000), some (.ref 0), some (.ref 65), some (.int 0)], [.int (m1 3000 1), .ref 65, .int v], m1)) rfl (show mz_in 1 (m1 3001 0).toNatClampNeg = true by rw [e1.2]; rfl) ?_
  refine mz_do (R := mz_r207) (as := [.ref 65, .int (m1 3000 1)]) (rest := [.int v]) (r1 := some (.int v)) (m1 := m2) rfl (by simp only [e1.1]; exact h2) ?_
  refine mz_go 1 (c' := (if v = v then 1582 else 1201, [some (.ref 3000), some (.ref 0), some (.ref 65), some (.int 0)], [], m2)) rfl ?_
  refine mz_ifT rfl ?_
  refine mz_go 5 (c' := (21, [some (.ref 3000), some (.ref 0), some (.ref 65), some (.int 6)], [.int (Int32.ofNat (m2 3001 0).toNatClampNeg), .int 6], m2)) rfl ?_
  rw [e2.2]
  show mz_Ex 101 mz_kL (21, [some (.ref 3000), some (.ref 0), some (.ref 65), some (.int 6)], [.int 6, .int 6], m2) _
  refine mz_go 4 (c' := (1589, [some (.ref 3000), some (.ref 0), some (.ref 65), some (.int 6)], [.int 1], m2)) rfl ?_
  exact mz_ret rfl
set_option maxHeartbeats 4000000 in
set_option maxRecDepth 100000 in
theorem lwc_seed {xs : Nat → Int32} (h : xs 0 &&& 63 = 29) : ∃ m', mz_Ex 101 mz_kL (lw_c xs 6) (some (.int 1), m') := by
  obtain ⟨v, m1, m2, h1, h2⟩ := p1_seed xs 6 (xs 1)
  have e1 := lw_e h1 (lw_e0 xs)
  have e2 := lw_e h2 e1
  refine ⟨m2, ?_⟩
  refine mz_go 3 (c' := (21, [some (.ref 3000), some (.ref 0), some (.ref 65), some (.int 0)], [.int 6, .int 0], (mz_i xs 6))) rfl ?_
  refine mz_go 8 (c' := (33, [some (.ref 3000), some (.ref 0), some (.ref 65), some (.int 0)], [.int ((xs 0) &&& 63)], (mz_i xs 6))) rfl ?_
  rw [h]
  refine mz_go 7 (c' := (1209, [some (.ref 3000), some (.ref 0), some (.ref 65), some (.int 0)], [.int (xs 1), .ref 0], (mz_i xs 6))) rfl ?_
  refine mz_do (R := mz_r96) (as := [.ref 0, .int (xs 1)]) (rest := []) (r1 := some (.int v)) (m1 := m1) rfl h1 ?_
  refine mz_go 5 (c' := (1217, [some (.ref 3000), some (.ref 0), some (.ref 65), some (.int 0)], [.int 1, .ref 3000, .ref 65, .int v], m1)) rfl ?_
  refine mz_arr (c' := (1218, [some (.ref 3000), some (.ref 0), some (.ref 65), some (.int 0)], [.int (m1 3000 1), .ref 65, .int v], m1)) rfl (show mz_in 1 (m1 3001 0).toNatClampNeg = true by rw [e1.2]; rfl) ?_
  refine mz_do (R := mz_r208) (as := [.ref 65, .int (m1 3000 1)]) (rest := [.int v]) (r1 := some (.int v)) (m1 := m2) rfl (by simp only [e1.1]; exact h2) ?_
  refine mz_go 1 (c' := (if v = v then 1582 else 1224, [some (.ref 3000), some (.ref 0), some (.ref 65), some (.int 0)], [], m2)) rfl ?_
  refine mz_ifT rfl ?_
  refine mz_go 5 (c' := (21, [some (.ref 3000), some (.ref 0), some (.ref 65), some (.int 6)], [.int (Int32.ofNat (m2 3001 0).toNatClampNeg), .int 6], m2)) rfl ?_
  rw [e2.2]
  show mz_Ex 101 mz_kL (21, [some (.ref 3000), some (.ref 0), some (.ref 65), some (.int 6)], [.int 6, .int 6], m2) _
  refine mz_go 4 (c' := (1589, [some (.ref 3000), some (.ref 0), some (.ref 65), some (.int 6)], [.int 1], m2)) rfl ?_
  exact mz_ret rfl
set_option maxHeartbeats 4000000 in
set_option maxRecDepth 100000 in
theorem lwc_voice {xs : Nat → Int32} (h : xs 0 &&& 63 = 30) : ∃ m', mz_Ex 101 mz_kL (lw_c xs 6) (some (.int 1), m') := by
  obtain ⟨v, m1, m2, h1, h2⟩ := p1_voice xs 6 (xs 1) (xs 2) (xs 3)
  have e1 := lw_e h1 (lw_e0 xs)
  have e2 := lw_e h2 e1
  refine ⟨m2, ?_⟩
  refine mz_go 3 (c' := (21, [some (.ref 3000), some (.ref 0), some (.ref 65), some (.int 0)], [.int 6, .int 0], (mz_i xs 6))) rfl ?_
  refine mz_go 8 (c' := (33, [some (.ref 3000), some (.ref 0), some (.ref 65), some (.int 0)], [.int ((xs 0) &&& 63)], (mz_i xs 6))) rfl ?_
  rw [h]
  refine mz_go 17 (c' := (1242, [some (.ref 3000), some (.ref 0), some (.ref 65), some (.int 0)], [.int (xs 3), .int (xs 2), .int (xs 1), .ref 0], (mz_i xs 6))) rfl ?_
  refine mz_do (R := mz_r97) (as := [.ref 0, .int (xs 1), .int (xs 2), .int (xs 3)]) (rest := []) (r1 := some (.int v)) (m1 := m1) rfl h1 ?_
  refine mz_go 5 (c' := (1250, [some (.ref 3000), some (.ref 0), some (.ref 65), some (.int 0)], [.int 1, .ref 3000, .ref 65, .int v], m1)) rfl ?_
  refine mz_arr (c' := (1251, [some (.ref 3000), some (.ref 0), some (.ref 65), some (.int 0)], [.int (m1 3000 1), .ref 65, .int v], m1)) rfl (show mz_in 1 (m1 3001 0).toNatClampNeg = true by rw [e1.2]; rfl) ?_
  refine mz_go 4 (c' := (1255, [some (.ref 3000), some (.ref 0), some (.ref 65), some (.int 0)], [.int 2, .ref 3000, .int (m1 3000 1), .ref 65, .int v], m1)) rfl ?_
  refine mz_arr (c' := (1256, [some (.ref 3000), some (.ref 0), some (.ref 65), some (.int 0)], [.int (m1 3000 2), .int (m1 3000 1), .ref 65, .int v], m1)) rfl (show mz_in 2 (m1 3001 0).toNatClampNeg = true by rw [e1.2]; rfl) ?_
  refine mz_go 4 (c' := (1260, [some (.ref 3000), some (.ref 0), some (.ref 65), some (.int 0)], [.int 3, .ref 3000, .int (m1 3000 2), .int (m1 3000 1), .ref 65, .int v], m1)) rfl ?_
  refine mz_arr (c' := (1261, [some (.ref 3000), some (.ref 0), some (.ref 65), some (.int 0)], [.int (m1 3000 3), .int (m1 3000 2), .int (m1 3000 1), .ref 65, .int v], m1)) rfl (show mz_in 3 (m1 3001 0).toNatClampNeg = true by rw [e1.2]; rfl) ?_
  refine mz_do (R := mz_r217) (as := [.ref 65, .int (m1 3000 1), .int (m1 3000 2), .int (m1 3000 3)]) (rest := [.int v]) (r1 := some (.int v)) (m1 := m2) rfl (by simp only [e1.1]; exact h2) ?_
  refine mz_go 1 (c' := (if v = v then 1582 else 1267, [some (.ref 3000), some (.ref 0), some (.ref 65), some (.int 0)], [], m2)) rfl ?_
  refine mz_ifT rfl ?_
  refine mz_go 5 (c' := (21, [some (.ref 3000), some (.ref 0), some (.ref 65), some (.int 6)], [.int (Int32.ofNat (m2 3001 0).toNatClampNeg), .int 6], m2)) rfl ?_
  rw [e2.2]
  show mz_Ex 101 mz_kL (21, [some (.ref 3000), some (.ref 0), some (.ref 65), some (.int 6)], [.int 6, .int 6], m2) _
  refine mz_go 4 (c' := (1589, [some (.ref 3000), some (.ref 0), some (.ref 65), some (.int 6)], [.int 1], m2)) rfl ?_
  exact mz_ret rfl
set_option maxHeartbeats 4000000 in
set_option maxRecDepth 100000 in
theorem lwc_body {xs : Nat → Int32} (h : xs 0 &&& 63 = 31) : ∃ m', mz_Ex 101 mz_kL (lw_c xs 6) (some (.int 1), m') := by
  obtain ⟨v, m1, m2, h1, h2⟩ := p1_body xs 6 (xs 1)
  have e1 := lw_e h1 (lw_e0 xs)
  have e2 := lw_e h2 e1
  refine ⟨m2, ?_⟩
  refine mz_go 3 (c' := (21, [some (.ref 3000), some (.ref 0), some (.ref 65), some (.int 0)], [.int 6, .int 0], (mz_i xs 6))) rfl ?_
  refine mz_go 8 (c' := (33, [some (.ref 3000), some (.ref 0), some (.ref 65), some (.int 0)], [.int ((xs 0) &&& 63)], (mz_i xs 6))) rfl ?_
  rw [h]
  refine mz_go 7 (c' := (1275, [some (.ref 3000), some (.ref 0), some (.ref 65), some (.int 0)], [.int (xs 1), .ref 0], (mz_i xs 6))) rfl ?_
  refine mz_do (R := mz_r98) (as := [.ref 0, .int (xs 1)]) (rest := []) (r1 := some (.int v)) (m1 := m1) rfl h1 ?_
  refine mz_go 5 (c' := (1283, [some (.ref 3000), some (.ref 0), some (.ref 65), some (.int 0)], [.int 1, .ref 3000, .ref 65, .int v], m1)) rfl ?_
  refine mz_arr (c' := (1284, [some (.ref 3000), some (.ref 0), some (.ref 65), some (.int 0)], [.int (m1 3000 1), .ref 65, .int v], m1)) rfl (show mz_in 1 (m1 3001 0).toNatClampNeg = true by rw [e1.2]; rfl) ?_
  refine mz_do (R := mz_r218) (as := [.ref 65, .int (m1 3000 1)]) (rest := [.int v]) (r1 := some (.int v)) (m1 := m2) rfl (by simp only [e1.1]; exact h2) ?_
  refine mz_go 1 (c' := (if v = v then 1582 else 1290, [some (.ref 3000), some (.ref 0), some (.ref 65), some (.int 0)], [], m2)) rfl ?_
  refine mz_ifT rfl ?_
  refine mz_go 5 (c' := (21, [some (.ref 3000), some (.ref 0), some (.ref 65), some (.int 6)], [.int (Int32.ofNat (m2 3001 0).toNatClampNeg), .int 6], m2)) rfl ?_
  rw [e2.2]
  show mz_Ex 101 mz_kL (21, [some (.ref 3000), some (.ref 0), some (.ref 65), some (.int 6)], [.int 6, .int 6], m2) _
  refine mz_go 4 (c' := (1589, [some (.ref 3000), some (.ref 0), some (.ref 65), some (.int 6)], [.int 1], m2)) rfl ?_
  exact mz_ret rfl
set_option maxHeartbeats 4000000 in
set_option maxRecDepth 100000 in
theorem lwc_sheet {xs : Nat → Int32} (h : xs 0 &&& 63 = 32) : ∃ m', mz_Ex 101 mz_kL (lw_c xs 6) (some (.int 1), m') := by
  obtain ⟨v, m1, m2, h1, h2⟩ := p1_sheet xs 6 (xs 1) (xs 2) (xs 3)
  have e1 := lw_e h1 (lw_e0 xs)
  have e2 := lw_e h2 e1
  refine ⟨m2, ?_⟩
  refine mz_go 3 (c' := (21, [some (.ref 3000), some (.ref 0), some (.ref 65), some (.int 0)], [.int 6, .int 0], (mz_i xs 6))) rfl ?_
  refine mz_go 8 (c' := (33, [some (.ref 3000), some (.ref 0), some (.ref 65), some (.int 0)], [.int ((xs 0) &&& 63)], (mz_i xs 6))) rfl ?_
  rw [h]
  refine mz_go 17 (c' := (1308, [some (.ref 3000), some (.ref 0), some (.ref 65), some (.int 0)], [.int (xs 3), .int (xs 2), .int (xs 1), .ref 0], (mz_i xs 6))) rfl ?_
  refine mz_do (R := mz_r99) (as := [.ref 0, .int (xs 1), .int (xs 2), .int (xs 3)]) (rest := []) (r1 := some (.int v)) (m1 := m1) rfl h1 ?_
  refine mz_go 5 (c' := (1316, [some (.ref 3000), some (.ref 0), some (.ref 65), some (.int 0)], [.int 1, .ref 3000, .ref 65, .int v], m1)) rfl ?_
  refine mz_arr (c' := (1317, [some (.ref 3000), some (.ref 0), some (.ref 65), some (.int 0)], [.int (m1 3000 1), .ref 65, .int v], m1)) rfl (show mz_in 1 (m1 3001 0).toNatClampNeg = true by rw [e1.2]; rfl) ?_
  refine mz_go 4 (c' := (1321, [some (.ref 3000), some (.ref 0), some (.ref 65), some (.int 0)], [.int 2, .ref 3000, .int (m1 3000 1), .ref 65, .int v], m1)) rfl ?_
  refine mz_arr (c' := (1322, [some (.ref 3000), some (.ref 0), some (.ref 65), some (.int 0)], [.int (m1 3000 2), .int (m1 3000 1), .ref 65, .int v], m1)) rfl (show mz_in 2 (m1 3001 0).toNatClampNeg = true by rw [e1.2]; rfl) ?_
  refine mz_go 4 (c' := (1326, [some (.ref 3000), some (.ref 0), some (.ref 65), some (.int 0)], [.int 3, .ref 3000, .int (m1 3000 2), .int (m1 3000 1), .ref 65, .int v], m1)) rfl ?_
  refine mz_arr (c' := (1327, [some (.ref 3000), some (.ref 0), some (.ref 65), some (.int 0)], [.int (m1 3000 3), .int (m1 3000 2), .int (m1 3000 1), .ref 65, .int v], m1)) rfl (show mz_in 3 (m1 3001 0).toNatClampNeg = true by rw [e1.2]; rfl) ?_
  refine mz_do (R := mz_r220) (as := [.ref 65, .int (m1 3000 1), .int (m1 3000 2), .int (m1 3000 3)]) (rest := [.int v]) (r1 := some (.int v)) (m1 := m2) rfl (by simp only [e1.1]; exact h2) ?_
  refine mz_go 1 (c' := (if v = v then 1582 else 1333, [some (.ref 3000), some (.ref 0), some (.ref 65), some (.int 0)], [], m2)) rfl ?_
  refine mz_ifT rfl ?_
  refine mz_go 5 (c' := (21, [some (.ref 3000), some (.ref 0), some (.ref 65), some (.int 6)], [.int (Int32.ofNat (m2 3001 0).toNatClampNeg), .int 6], m2)) rfl ?_
  rw [e2.2]
  show mz_Ex 101 mz_kL (21, [some (.ref 3000), some (.ref 0), some (.ref 65), some (.int 6)], [.int 6, .int 6], m2) _
  refine mz_go 4 (c' := (1589, [some (.ref 3000), some (.ref 0), some (.ref 65), some (.int 6)], [.int 1], m2)) rfl ?_
  exact mz_ret rfl
set_option maxHeartbeats 4000000 in
set_option maxRecDepth 100000 in
theorem lwc_put {xs : Nat → Int32} (h : xs 0 &&& 63 = 33) : ∃ m', mz_Ex 101 mz_kL (lw_c xs 6) (some (.int 1), m') := by
  obtain ⟨v, m1, m2, h1, h2⟩ := p1_put xs 6 (xs 1) (xs 2) (xs 3)
  have e1 := lw_e h1 (lw_e0 xs)
  have e2 := lw_e h2 e1
  refine ⟨m2, ?_⟩
  refine mz_go 3 (c' := (21, [some (.ref 3000), some (.ref 0), some (.ref 65), some (.int 0)], [.int 6, .int 0], (mz_i xs 6))) rfl ?_
  refine mz_go 8 (c' := (33, [some (.ref 3000), some (.ref 0), some (.ref 65), some (.int 0)], [.int ((xs 0) &&& 63)], (mz_i xs 6))) rfl ?_
  rw [h]
  refine mz_go 17 (c' := (1351, [some (.ref 3000), some (.ref 0), some (.ref 65), some (.int 0)], [.int (xs 3), .int (xs 2), .int (xs 1), .ref 0], (mz_i xs 6))) rfl ?_
  refine mz_do (R := mz_r100) (as := [.ref 0, .int (xs 1), .int (xs 2), .int (xs 3)]) (rest := []) (r1 := some (.int v)) (m1 := m1) rfl h1 ?_
  refine mz_go 5 (c' := (1359, [some (.ref 3000), some (.ref 0), some (.ref 65), some (.int 0)], [.int 1, .ref 3000, .ref 65, .int v], m1)) rfl ?_
  refine mz_arr (c' := (1360, [some (.ref 3000), some (.ref 0), some (.ref 65), some (.int 0)], [.int (m1 3000 1), .ref 65, .int v], m1)) rfl (show mz_in 1 (m1 3001 0).toNatClampNeg = true by rw [e1.2]; rfl) ?_
  refine mz_go 4 (c' := (1364, [some (.ref 3000), some (.ref 0), some (.ref 65), some (.int 0)], [.int 2, .ref 3000, .int (m1 3000 1), .ref 65, .int v], m1)) rfl ?_
  refine mz_arr (c' := (1365, [some (.ref 3000), some (.ref 0), some (.ref 65), some (.int 0)], [.int (m1 3000 2), .int (m1 3000 1), .ref 65, .int v], m1)) rfl (show mz_in 2 (m1 3001 0).toNatClampNeg = true by rw [e1.2]; rfl) ?_
  refine mz_go 4 (c' := (1369, [some (.ref 3000), some (.ref 0), some (.ref 65), some (.int 0)], [.int 3, .ref 3000, .int (m1 3000 2), .int (m1 3000 1), .ref 65, .int v], m1)) rfl ?_
  refine mz_arr (c' := (1370, [some (.ref 3000), some (.ref 0), some (.ref 65), some (.int 0)], [.int (m1 3000 3), .int (m1 3000 2), .int (m1 3000 1), .ref 65, .int v], m1)) rfl (show mz_in 3 (m1 3001 0).toNatClampNeg = true by rw [e1.2]; rfl) ?_
  refine mz_do (R := mz_r221) (as := [.ref 65, .int (m1 3000 1), .int (m1 3000 2), .int (m1 3000 3)]) (rest := [.int v]) (r1 := some (.int v)) (m1 := m2) rfl (by simp only [e1.1]; exact h2) ?_
  refine mz_go 1 (c' := (if v = v then 1582 else 1376, [some (.ref 3000), some (.ref 0), some (.ref 65), some (.int 0)], [], m2)) rfl ?_
  refine mz_ifT rfl ?_
  refine mz_go 5 (c' := (21, [some (.ref 3000), some (.ref 0), some (.ref 65), some (.int 6)], [.int (Int32.ofNat (m2 3001 0).toNatClampNeg), .int 6], m2)) rfl ?_
  rw [e2.2]
  show mz_Ex 101 mz_kL (21, [some (.ref 3000), some (.ref 0), some (.ref 65), some (.int 6)], [.int 6, .int 6], m2) _
  refine mz_go 4 (c' := (1589, [some (.ref 3000), some (.ref 0), some (.ref 65), some (.int 6)], [.int 1], m2)) rfl ?_
  exact mz_ret rfl
set_option maxHeartbeats 4000000 in
set_option maxRecDepth 100000 in
theorem lwc_move {xs : Nat → Int32} (h : xs 0 &&& 63 = 34) : ∃ m', mz_Ex 101 mz_kL (lw_c xs 6) (some (.int 1), m') := by
  obtain ⟨v, m1, m2, h1, h2⟩ := p1_move xs 6 (xs 1) (xs 2) (xs 3) (xs 4) (xs 5)
  have e1 := lw_e h1 (lw_e0 xs)
  have e2 := lw_e h2 e1
  refine ⟨m2, ?_⟩
  refine mz_go 3 (c' := (21, [some (.ref 3000), some (.ref 0), some (.ref 65), some (.int 0)], [.int 6, .int 0], (mz_i xs 6))) rfl ?_
  refine mz_go 8 (c' := (33, [some (.ref 3000), some (.ref 0), some (.ref 65), some (.int 0)], [.int ((xs 0) &&& 63)], (mz_i xs 6))) rfl ?_
  rw [h]
  refine mz_go 27 (c' := (1404, [some (.ref 3000), some (.ref 0), some (.ref 65), some (.int 0)], [.int (xs 5), .int (xs 4), .int (xs 3), .int (xs 2), .int (xs 1), .ref 0], (mz_i xs 6))) rfl ?_
  refine mz_do (R := mz_r101) (as := [.ref 0, .int (xs 1), .int (xs 2), .int (xs 3), .int (xs 4), .int (xs 5)]) (rest := []) (r1 := some (.int v)) (m1 := m1) rfl h1 ?_
  refine mz_go 5 (c' := (1412, [some (.ref 3000), some (.ref 0), some (.ref 65), some (.int 0)], [.int 1, .ref 3000, .ref 65, .int v], m1)) rfl ?_
  refine mz_arr (c' := (1413, [some (.ref 3000), some (.ref 0), some (.ref 65), some (.int 0)], [.int (m1 3000 1), .ref 65, .int v], m1)) rfl (show mz_in 1 (m1 3001 0).toNatClampNeg = true by rw [e1.2]; rfl) ?_
  refine mz_go 4 (c' := (1417, [some (.ref 3000), some (.ref 0), some (.ref 65), some (.int 0)], [.int 2, .ref 3000, .int (m1 3000 1), .ref 65, .int v], m1)) rfl ?_
  refine mz_arr (c' := (1418, [some (.ref 3000), some (.ref 0), some (.ref 65), some (.int 0)], [.int (m1 3000 2), .int (m1 3000 1), .ref 65, .int v], m1)) rfl (show mz_in 2 (m1 3001 0).toNatClampNeg = true by rw [e1.2]; rfl) ?_
  refine mz_go 4 (c' := (1422, [some (.ref 3000), some (.ref 0), some (.ref 65), some (.int 0)], [.int 3, .ref 3000, .int (m1 3000 2), .int (m1 3000 1), .ref 65, .int v], m1)) rfl ?_
  refine mz_arr (c' := (1423, [some (.ref 3000), some (.ref 0), some (.ref 65), some (.int 0)], [.int (m1 3000 3), .int (m1 3000 2), .int (m1 3000 1), .ref 65, .int v], m1)) rfl (show mz_in 3 (m1 3001 0).toNatClampNeg = true by rw [e1.2]; rfl) ?_
  refine mz_go 4 (c' := (1427, [some (.ref 3000), some (.ref 0), some (.ref 65), some (.int 0)], [.int 4, .ref 3000, .int (m1 3000 3), .int (m1 3000 2), .int (m1 3000 1), .ref 65, .int v], m1)) rfl ?_
  refine mz_arr (c' := (1428, [some (.ref 3000), some (.ref 0), some (.ref 65), some (.int 0)], [.int (m1 3000 4), .int (m1 3000 3), .int (m1 3000 2), .int (m1 3000 1), .ref 65, .int v], m1)) rfl (show mz_in 4 (m1 3001 0).toNatClampNeg = true by rw [e1.2]; rfl) ?_
  refine mz_go 4 (c' := (1432, [some (.ref 3000), some (.ref 0), some (.ref 65), some (.int 0)], [.int 5, .ref 3000, .int (m1 3000 4), .int (m1 3000 3), .int (m1 3000 2), .int (m1 3000 1), .ref 65, .int v], m1)) rfl ?_
  refine mz_arr (c' := (1433, [some (.ref 3000), some (.ref 0), some (.ref 65), some (.int 0)], [.int (m1 3000 5), .int (m1 3000 4), .int (m1 3000 3), .int (m1 3000 2), .int (m1 3000 1), .ref 65, .int v], m1)) rfl (show mz_in 5 (m1 3001 0).toNatClampNeg = true by rw [e1.2]; rfl) ?_
  refine mz_do (R := mz_r222) (as := [.ref 65, .int (m1 3000 1), .int (m1 3000 2), .int (m1 3000 3), .int (m1 3000 4), .int (m1 3000 5)]) (rest := [.int v]) (r1 := some (.int v)) (m1 := m2) rfl (by simp only [e1.1]; exact h2) ?_
  refine mz_go 1 (c' := (if v = v then 1582 else 1439, [some (.ref 3000), some (.ref 0), some (.ref 65), some (.int 0)], [], m2)) rfl ?_
  refine mz_ifT rfl ?_
  refine mz_go 5 (c' := (21, [some (.ref 3000), some (.ref 0), some (.ref 65), some (.int 6)], [.int (Int32.ofNat (m2 3001 0).toNatClampNeg), .int 6], m2)) rfl ?_
  rw [e2.2]
  show mz_Ex 101 mz_kL (21, [some (.ref 3000), some (.ref 0), some (.ref 65), some (.int 6)], [.int 6, .int 6], m2) _
  refine mz_go 4 (c' := (1589, [some (.ref 3000), some (.ref 0), some (.ref 65), some (.int 6)], [.int 1], m2)) rfl ?_
  exact mz_ret rfl
set_option maxHeartbeats 4000000 in
set_option maxRecDepth 100000 in
theorem lwc_magnets {xs : Nat → Int32} (h : xs 0 &&& 63 = 35) : ∃ m', mz_Ex 101 mz_kL (lw_c xs 6) (some (.int 1), m') := by
  obtain ⟨v, m1, m2, h1, h2⟩ := p1_magnets xs 6 (xs 1)
  have e1 := lw_e h1 (lw_e0 xs)
  have e2 := lw_e h2 e1
  refine ⟨m2, ?_⟩
  refine mz_go 3 (c' := (21, [some (.ref 3000), some (.ref 0), some (.ref 65), some (.int 0)], [.int 6, .int 0], (mz_i xs 6))) rfl ?_
  refine mz_go 8 (c' := (33, [some (.ref 3000), some (.ref 0), some (.ref 65), some (.int 0)], [.int ((xs 0) &&& 63)], (mz_i xs 6))) rfl ?_
  rw [h]
  refine mz_go 7 (c' := (1447, [some (.ref 3000), some (.ref 0), some (.ref 65), some (.int 0)], [.int (xs 1), .ref 0], (mz_i xs 6))) rfl ?_
  refine mz_do (R := mz_r102) (as := [.ref 0, .int (xs 1)]) (rest := []) (r1 := some (.int v)) (m1 := m1) rfl h1 ?_
  refine mz_go 5 (c' := (1455, [some (.ref 3000), some (.ref 0), some (.ref 65), some (.int 0)], [.int 1, .ref 3000, .ref 65, .int v], m1)) rfl ?_
  refine mz_arr (c' := (1456, [some (.ref 3000), some (.ref 0), some (.ref 65), some (.int 0)], [.int (m1 3000 1), .ref 65, .int v], m1)) rfl (show mz_in 1 (m1 3001 0).toNatClampNeg = true by rw [e1.2]; rfl) ?_
  refine mz_do (R := mz_r223) (as := [.ref 65, .int (m1 3000 1)]) (rest := [.int v]) (r1 := some (.int v)) (m1 := m2) rfl (by simp only [e1.1]; exact h2) ?_
  refine mz_go 1 (c' := (if v = v then 1582 else 1462, [some (.ref 3000), some (.ref 0), some (.ref 65), some (.int 0)], [], m2)) rfl ?_
  refine mz_ifT rfl ?_
  refine mz_go 5 (c' := (21, [some (.ref 3000), some (.ref 0), some (.ref 65), some (.int 6)], [.int (Int32.ofNat (m2 3001 0).toNatClampNeg), .int 6], m2)) rfl ?_
  rw [e2.2]
  show mz_Ex 101 mz_kL (21, [some (.ref 3000), some (.ref 0), some (.ref 65), some (.int 6)], [.int 6, .int 6], m2) _
  refine mz_go 4 (c' := (1589, [some (.ref 3000), some (.ref 0), some (.ref 65), some (.int 6)], [.int 1], m2)) rfl ?_
  exact mz_ret rfl
set_option maxHeartbeats 4000000 in
set_option maxRecDepth 100000 in
theorem lwc_image {xs : Nat → Int32} (h : xs 0 &&& 63 = 36) : ∃ m', mz_Ex 101 mz_kL (lw_c xs 6) (some (.int 1), m') := by
  obtain ⟨v, m1, m2, h1, h2⟩ := p1_image xs 6
  have e1 := lw_e h1 (lw_e0 xs)
  have e2 := lw_e h2 e1
  refine ⟨m2, ?_⟩
  refine mz_go 3 (c' := (21, [some (.ref 3000), some (.ref 0), some (.ref 65), some (.int 0)], [.int 6, .int 0], (mz_i xs 6))) rfl ?_
  refine mz_go 8 (c' := (33, [some (.ref 3000), some (.ref 0), some (.ref 65), some (.int 0)], [.int ((xs 0) &&& 63)], (mz_i xs 6))) rfl ?_
  rw [h]
  refine mz_go 2 (c' := (1465, [some (.ref 3000), some (.ref 0), some (.ref 65), some (.int 0)], [.ref 0], (mz_i xs 6))) rfl ?_
  refine mz_do (R := mz_r103) (as := [.ref 0]) (rest := []) (r1 := some (.int v)) (m1 := m1) rfl h1 ?_
  refine mz_go 1 (c' := (1469, [some (.ref 3000), some (.ref 0), some (.ref 65), some (.int 0)], [.ref 65, .int v], m1)) rfl ?_
  refine mz_do (R := mz_r224) (as := [.ref 65]) (rest := [.int v]) (r1 := some (.int v)) (m1 := m2) rfl h2 ?_
  refine mz_go 1 (c' := (if v = v then 1582 else 1475, [some (.ref 3000), some (.ref 0), some (.ref 65), some (.int 0)], [], m2)) rfl ?_
  refine mz_ifT rfl ?_
  refine mz_go 5 (c' := (21, [some (.ref 3000), some (.ref 0), some (.ref 65), some (.int 6)], [.int (Int32.ofNat (m2 3001 0).toNatClampNeg), .int 6], m2)) rfl ?_
  rw [e2.2]
  show mz_Ex 101 mz_kL (21, [some (.ref 3000), some (.ref 0), some (.ref 65), some (.int 6)], [.int 6, .int 6], m2) _
  refine mz_go 4 (c' := (1589, [some (.ref 3000), some (.ref 0), some (.ref 65), some (.int 6)], [.int 1], m2)) rfl ?_
  exact mz_ret rfl
set_option maxHeartbeats 4000000 in
set_option maxRecDepth 100000 in
theorem lwc_restore {xs : Nat → Int32} (h : xs 0 &&& 63 = 37) : ∃ m', mz_Ex 101 mz_kL (lw_c xs 6) (some (.int 1), m') := by
  obtain ⟨v, m1, m2, h1, h2⟩ := p1_restore xs 6
  have e1 := lw_e h1 (lw_e0 xs)
  have e2 := lw_e h2 e1
  refine ⟨m2, ?_⟩
  refine mz_go 3 (c' := (21, [some (.ref 3000), some (.ref 0), some (.ref 65), some (.int 0)], [.int 6, .int 0], (mz_i xs 6))) rfl ?_
  refine mz_go 8 (c' := (33, [some (.ref 3000), some (.ref 0), some (.ref 65), some (.int 0)], [.int ((xs 0) &&& 63)], (mz_i xs 6))) rfl ?_
  rw [h]
  refine mz_go 2 (c' := (1478, [some (.ref 3000), some (.ref 0), some (.ref 65), some (.int 0)], [.ref 0], (mz_i xs 6))) rfl ?_
  refine mz_do (R := mz_r104) (as := [.ref 0]) (rest := []) (r1 := some (.int v)) (m1 := m1) rfl h1 ?_
  refine mz_go 1 (c' := (1482, [some (.ref 3000), some (.ref 0), some (.ref 65), some (.int 0)], [.ref 65, .int v], m1)) rfl ?_
  refine mz_do (R := mz_r225) (as := [.ref 65]) (rest := [.int v]) (r1 := some (.int v)) (m1 := m2) rfl h2 ?_
  refine mz_go 1 (c' := (if v = v then 1582 else 1488, [some (.ref 3000), some (.ref 0), some (.ref 65), some (.int 0)], [], m2)) rfl ?_
  refine mz_ifT rfl ?_
  refine mz_go 5 (c' := (21, [some (.ref 3000), some (.ref 0), some (.ref 65), some (.int 6)], [.int (Int32.ofNat (m2 3001 0).toNatClampNeg), .int 6], m2)) rfl ?_
  rw [e2.2]
  show mz_Ex 101 mz_kL (21, [some (.ref 3000), some (.ref 0), some (.ref 65), some (.int 6)], [.int 6, .int 6], m2) _
  refine mz_go 4 (c' := (1589, [some (.ref 3000), some (.ref 0), some (.ref 65), some (.int 6)], [.int 1], m2)) rfl ?_
  exact mz_ret rfl
set_option maxHeartbeats 4000000 in
set_option maxRecDepth 100000 in
theorem lwc_tell {xs : Nat → Int32} (h : xs 0 &&& 63 = 38) : ∃ m', mz_Ex 101 mz_kL (lw_c xs 6) (some (.int 1), m') := by
  obtain ⟨v, m1, m2, h1, h2⟩ := p1_tell xs 6 (xs 1)
  have e1 := lw_e h1 (lw_e0 xs)
  have e2 := lw_e h2 e1
  refine ⟨m2, ?_⟩
  refine mz_go 3 (c' := (21, [some (.ref 3000), some (.ref 0), some (.ref 65), some (.int 0)], [.int 6, .int 0], (mz_i xs 6))) rfl ?_
  refine mz_go 8 (c' := (33, [some (.ref 3000), some (.ref 0), some (.ref 65), some (.int 0)], [.int ((xs 0) &&& 63)], (mz_i xs 6))) rfl ?_
  rw [h]
  refine mz_go 7 (c' := (1496, [some (.ref 3000), some (.ref 0), some (.ref 65), some (.int 0)], [.int (xs 1), .ref 0], (mz_i xs 6))) rfl ?_
  refine mz_do (R := mz_r105) (as := [.ref 0, .int (xs 1)]) (rest := []) (r1 := some (.int v)) (m1 := m1) rfl h1 ?_
  refine mz_go 5 (c' := (1504, [some (.ref 3000), some (.ref 0), some (.ref 65), some (.int 0)], [.int 1, .ref 3000, .ref 65, .int v], m1)) rfl ?_
  refine mz_arr (c' := (1505, [some (.ref 3000), some (.ref 0), some (.ref 65), some (.int 0)], [.int (m1 3000 1), .ref 65, .int v], m1)) rfl (show mz_in 1 (m1 3001 0).toNatClampNeg = true by rw [e1.2]; rfl) ?_
  refine mz_do (R := mz_r226) (as := [.ref 65, .int (m1 3000 1)]) (rest := [.int v]) (r1 := some (.int v)) (m1 := m2) rfl (by simp only [e1.1]; exact h2) ?_
  refine mz_go 1 (c' := (if v = v then 1582 else 1511, [some (.ref 3000), some (.ref 0), some (.ref 65), some (.int 0)], [], m2)) rfl ?_
  refine mz_ifT rfl ?_
  refine mz_go 5 (c' := (21, [some (.ref 3000), some (.ref 0), some (.ref 65), some (.int 6)], [.int (Int32.ofNat (m2 3001 0).toNatClampNeg), .int 6], m2)) rfl ?_
  rw [e2.2]
  show mz_Ex 101 mz_kL (21, [some (.ref 3000), some (.ref 0), some (.ref 65), some (.int 6)], [.int 6, .int 6], m2) _
  refine mz_go 4 (c' := (1589, [some (.ref 3000), some (.ref 0), some (.ref 65), some (.int 6)], [.int 1], m2)) rfl ?_
  exact mz_ret rfl
set_option maxHeartbeats 4000000 in
set_option maxRecDepth 100000 in
theorem lwc_check {xs : Nat → Int32} (h : xs 0 &&& 63 = 39) : ∃ m', mz_Ex 101 mz_kL (lw_c xs 6) (some (.int 1), m') := by
  obtain ⟨v, m1, m2, h1, h2⟩ := p1_check xs 6 (xs 1)
  have e1 := lw_e h1 (lw_e0 xs)
  have e2 := lw_e h2 e1
  refine ⟨m2, ?_⟩
  refine mz_go 3 (c' := (21, [some (.ref 3000), some (.ref 0), some (.ref 65), some (.int 0)], [.int 6, .int 0], (mz_i xs 6))) rfl ?_
  refine mz_go 8 (c' := (33, [some (.ref 3000), some (.ref 0), some (.ref 65), some (.int 0)], [.int ((xs 0) &&& 63)], (mz_i xs 6))) rfl ?_
  rw [h]
  refine mz_go 7 (c' := (1519, [some (.ref 3000), some (.ref 0), some (.ref 65), some (.int 0)], [.int (xs 1), .ref 0], (mz_i xs 6))) rfl ?_
  refine mz_do (R := mz_r106) (as := [.ref 0, .int (xs 1)]) (rest := []) (r1 := some (.int v)) (m1 := m1) rfl h1 ?_
  refine mz_go 5 (c' := (1527, [some (.ref 3000), some (.ref 0), some (.ref 65), some (.int 0)], [.int 1, .ref 3000, .ref 65, .int v], m1)) rfl ?_
  refine mz_arr (c' := (1528, [some (.ref 3000), some (.ref 0), some (.ref 65), some (.int 0)], [.int (m1 3000 1), .ref 65, .int v], m1)) rfl (show mz_in 1 (m1 3001 0).toNatClampNeg = true by rw [e1.2]; rfl) ?_
  refine mz_do (R := mz_r227) (as := [.ref 65, .int (m1 3000 1)]) (rest := [.int v]) (r1 := some (.int v)) (m1 := m2) rfl (by simp only [e1.1]; exact h2) ?_
  refine mz_go 1 (c' := (if v = v then 1582 else 1534, [some (.ref 3000), some (.ref 0), some (.ref 65), some (.int 0)], [], m2)) rfl ?_
  refine mz_ifT rfl ?_
  refine mz_go 5 (c' := (21, [some (.ref 3000), some (.ref 0), some (.ref 65), some (.int 6)], [.int (Int32.ofNat (m2 3001 0).toNatClampNeg), .int 6], m2)) rfl ?_
  rw [e2.2]
  show mz_Ex 101 mz_kL (21, [some (.ref 3000), some (.ref 0), some (.ref 65), some (.int 6)], [.int 6, .int 6], m2) _
  refine mz_go 4 (c' := (1589, [some (.ref 3000), some (.ref 0), some (.ref 65), some (.int 6)], [.int 1], m2)) rfl ?_
  exact mz_ret rfl
set_option maxHeartbeats 4000000 in
set_option maxRecDepth 100000 in
theorem lwc_count {xs : Nat → Int32} (h : xs 0 &&& 63 = 40) : ∃ m', mz_Ex 101 mz_kL (lw_c xs 6) (some (.int 1), m') := by
  obtain ⟨v, m1, m2, h1, h2⟩ := p1_count xs 6 (xs 1)
  have e1 := lw_e h1 (lw_e0 xs)
  have e2 := lw_e h2 e1
  refine ⟨m2, ?_⟩
  refine mz_go 3 (c' := (21, [some (.ref 3000), some (.ref 0), some (.ref 65), some (.int 0)], [.int 6, .int 0], (mz_i xs 6))) rfl ?_
  refine mz_go 8 (c' := (33, [some (.ref 3000), some (.ref 0), some (.ref 65), some (.int 0)], [.int ((xs 0) &&& 63)], (mz_i xs 6))) rfl ?_
  rw [h]
  refine mz_go 7 (c' := (1542, [some (.ref 3000), some (.ref 0), some (.ref 65), some (.int 0)], [.int (xs 1), .ref 0], (mz_i xs 6))) rfl ?_
  refine mz_do (R := mz_r107) (as := [.ref 0, .int (xs 1)]) (rest := []) (r1 := some (.int v)) (m1 := m1) rfl h1 ?_
  refine mz_go 5 (c' := (1550, [some (.ref 3000), some (.ref 0), some (.ref 65), some (.int 0)], [.int 1, .ref 3000, .ref 65, .int v], m1)) rfl ?_
  refine mz_arr (c' := (1551, [some (.ref 3000), some (.ref 0), some (.ref 65), some (.int 0)], [.int (m1 3000 1), .ref 65, .int v], m1)) rfl (show mz_in 1 (m1 3001 0).toNatClampNeg = true by rw [e1.2]; rfl) ?_
  refine mz_do (R := mz_r228) (as := [.ref 65, .int (m1 3000 1)]) (rest := [.int v]) (r1 := some (.int v)) (m1 := m2) rfl (by simp only [e1.1]; exact h2) ?_
  refine mz_go 1 (c' := (if v = v then 1582 else 1557, [some (.ref 3000), some (.ref 0), some (.ref 65), some (.int 0)], [], m2)) rfl ?_
  refine mz_ifT rfl ?_
  refine mz_go 5 (c' := (21, [some (.ref 3000), some (.ref 0), some (.ref 65), some (.int 6)], [.int (Int32.ofNat (m2 3001 0).toNatClampNeg), .int 6], m2)) rfl ?_
  rw [e2.2]
  show mz_Ex 101 mz_kL (21, [some (.ref 3000), some (.ref 0), some (.ref 65), some (.int 6)], [.int 6, .int 6], m2) _
  refine mz_go 4 (c' := (1589, [some (.ref 3000), some (.ref 0), some (.ref 65), some (.int 6)], [.int 1], m2)) rfl ?_
  exact mz_ret rfl
set_option maxHeartbeats 4000000 in
set_option maxRecDepth 100000 in
theorem lwc_told {xs : Nat → Int32} (h : xs 0 &&& 63 = 41) : ∃ m', mz_Ex 101 mz_kL (lw_c xs 6) (some (.int 1), m') := by
  obtain ⟨v, m1, m2, h1, h2⟩ := p1_told xs 6 (xs 1)
  have e1 := lw_e h1 (lw_e0 xs)
  have e2 := lw_e h2 e1
  refine ⟨m2, ?_⟩
  refine mz_go 3 (c' := (21, [some (.ref 3000), some (.ref 0), some (.ref 65), some (.int 0)], [.int 6, .int 0], (mz_i xs 6))) rfl ?_
  refine mz_go 8 (c' := (33, [some (.ref 3000), some (.ref 0), some (.ref 65), some (.int 0)], [.int ((xs 0) &&& 63)], (mz_i xs 6))) rfl ?_
  rw [h]
  refine mz_go 7 (c' := (1565, [some (.ref 3000), some (.ref 0), some (.ref 65), some (.int 0)], [.int (xs 1), .ref 0], (mz_i xs 6))) rfl ?_
  refine mz_do (R := mz_r108) (as := [.ref 0, .int (xs 1)]) (rest := []) (r1 := some (.int v)) (m1 := m1) rfl h1 ?_
  refine mz_go 5 (c' := (1573, [some (.ref 3000), some (.ref 0), some (.ref 65), some (.int 0)], [.int 1, .ref 3000, .ref 65, .int v], m1)) rfl ?_
  refine mz_arr (c' := (1574, [some (.ref 3000), some (.ref 0), some (.ref 65), some (.int 0)], [.int (m1 3000 1), .ref 65, .int v], m1)) rfl (show mz_in 1 (m1 3001 0).toNatClampNeg = true by rw [e1.2]; rfl) ?_
  refine mz_do (R := mz_r229) (as := [.ref 65, .int (m1 3000 1)]) (rest := [.int v]) (r1 := some (.int v)) (m1 := m2) rfl (by simp only [e1.1]; exact h2) ?_
  refine mz_go 1 (c' := (if v = v then 1582 else 1580, [some (.ref 3000), some (.ref 0), some (.ref 65), some (.int 0)], [], m2)) rfl ?_
  refine mz_ifT rfl ?_
  refine mz_go 5 (c' := (21, [some (.ref 3000), some (.ref 0), some (.ref 65), some (.int 6)], [.int (Int32.ofNat (m2 3001 0).toNatClampNeg), .int 6], m2)) rfl ?_
  rw [e2.2]
  show mz_Ex 101 mz_kL (21, [some (.ref 3000), some (.ref 0), some (.ref 65), some (.int 6)], [.int 6, .int 6], m2) _
  refine mz_go 4 (c' := (1589, [some (.ref 3000), some (.ref 0), some (.ref 65), some (.int 6)], [.int 1], m2)) rfl ?_
  exact mz_ret rfl
