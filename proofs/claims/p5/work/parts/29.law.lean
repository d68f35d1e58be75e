theorem lw_eL {xs : Nat → Int32} {L : Nat} {m m1 : mz_M} {d : Nat} {R : mz_R} {as : List Value} {r : Option Value} (h : mz_Me d R as m r m1) (e : (∀ j, m 3000 j = xs j) ∧ (m 3001 0).toNatClampNeg = L) : (∀ j, m1 3000 j = xs j) ∧ (m1 3001 0).toNatClampNeg = L := by
  have h1 : m1 3000 = m 3000 := mz_Me_keep h (by decide)
  have h2 : m1 3001 = m 3001 := mz_Me_keep h (by decide)
  rw [h1, h2]
  exact e
theorem sm_law6 {L : Nat} (hL : L ≤ 384) : (nI L - 6).toInt = (L : Int) - 6 := by
  have e1 := nI_toInt (show L < 2 ^ 31 by omega)
  have e2 : (6 : Int32).toInt = 6 := by decide
  rw [sm_sub (by omega) (by omega), e1, e2]
theorem sm_law {L i : Nat} (hL : L ≤ 384) (hi : i + 6 ≤ L) (h2 : i < 2 ^ 31) : ¬ nI L - 6 < nI i := by
  rw [Int32.lt_iff_toInt_lt, sm_law6 hL, nI_toInt h2]
  omega
theorem sm_lawX {L i : Nat} (hL : L ≤ 384) (hi : L < i + 6) (h2 : i < 2 ^ 31) : nI L - 6 < nI i := by
  rw [Int32.lt_iff_toInt_lt, sm_law6 hL, nI_toInt h2]
  omega
/-! the start -/
theorem mz_i66 {xs : Nat → Int32} {L k : Nat} (h : 16 ≤ k) : mz_i xs L 66 k = 0 := by
  have e : ∀ c, c < 16 → (k == c) = false := fun c hc => beq_eq_false_iff_ne.mpr (by omega)
  show cond (k == 3) 1 (cond (k == 10) 5 (cond (k == 11) 10 (cond (k == 12) 60 (cond (k == 13) 8 (cond (k == 14) 4 (cond (k == 15) 1 0)))))) = 0
  rw [e 3 (by decide), e 10 (by decide), e 11 (by decide), e 12 (by decide), e 13 (by decide), e 14 (by decide), e 15 (by decide)]
  rfl
theorem sm_N0 {n : Nat} : sm_N n 0 := by
  unfold sm_N
  rw [Int32.toInt_zero]
  omega
theorem sm_B0 {n : Nat} : sm_B n 0 := by
  unfold sm_B
  rw [Int32.toInt_zero]
  omega
theorem sm_start (xs : Nat → Int32) (L : Nat) : sm_I 0 (mz_i xs L) := by
  have z : ∀ k, 16 ≤ k → mz_i xs L 66 k = 0 := fun k h => mz_i66 h
  refine ⟨by decide, ⟨⟨⟨0, by decide, rfl, rfl⟩, fun i hi => ⟨⟨sm_N0, sm_B0, sm_B0, sm_N0⟩, z _ (by omega), z _ (by omega), z _ (by omega), z _ (by omega)⟩⟩, ⟨?_, Or.inl rfl, ?_⟩, ⟨⟨0, by decide, rfl, rfl⟩, fun i hi => ⟨sm_N0, z _ (by omega)⟩⟩, ⟨⟨0, rfl, z _ (by decide), Or.inl rfl, fun k hk => absurd hk (Nat.not_lt_zero k)⟩, ⟨0, rfl, z _ (by decide), Or.inl rfl, fun k hk => absurd hk (Nat.not_lt_zero k)⟩, ⟨0, rfl, z _ (by decide), Or.inl rfl, fun k hk => absurd hk (Nat.not_lt_zero k)⟩⟩, ⟨sm_B0, sm_B0, z _ (by decide), z _ (by decide), z _ (by decide), z _ (by decide), z _ (by decide)⟩, ⟨⟨0, 0, by decide, by decide, Iff.rfl, rfl, rfl, z _ (by decide), z _ (by decide)⟩, z _ (by decide), z _ (by decide), z _ (by decide), fun i hi => ⟨Or.inl sm_N0, z _ (by omega), z _ (by omega)⟩⟩, ⟨Or.inl rfl, z _ (by decide), fun i hi => z _ (by omega)⟩, ⟨⟨0, by decide, rfl, rfl⟩, rfl, fun i hi => z _ (by omega)⟩⟩, ⟨fun i hi => ⟨Or.inl rfl, sm_N0, rfl, rfl⟩, fun i hi => rfl⟩, ⟨sm_N0, sm_N0⟩, ⟨0, by decide, rfl, rfl, fun h => absurd h (by decide)⟩⟩
  · show sm_N 80 60
    exact sm_Nto (n := 80) (k := 60) (by decide) (by decide)
  · intro i hi
    rcases (show i = 0 ∨ i = 1 ∨ i = 2 ∨ i = 3 ∨ i = 4 ∨ i = 5 by omega) with rfl | rfl | rfl | rfl | rfl | rfl <;> rfl
set_option maxHeartbeats 4000000 in
set_option maxRecDepth 100000 in
theorem lwc_default {xs : Nat → Int32} {L i j : Nat} (hL : L ≤ 384) (hi : i + 6 ≤ L) {m : mz_M} (hj : j < 64) (hI : sm_I j m) (e : (∀ k, m 3000 k = xs k) ∧ (m 3001 0).toNatClampNeg = L) {kk : Int32} (h : xs i &&& 63 = kk) (hk : 41 < kk) (hk0 : ¬ kk < 0) : ∃ m2, sm_I (j + 1) m2 ∧ ((∀ k, m2 3000 k = xs k) ∧ (m2 3001 0).toNatClampNeg = L) ∧ ∀ r, mz_Ex 101 mz_kL (18, [some (.ref 3000), some (.ref 0), some (.ref 65), some (.int ((nI i) + 6))], [], m2) r → mz_Ex 101 mz_kL (18, [some (.ref 3000), some (.ref 0), some (.ref 65), some (.int (nI i))], [], m) r := by
  refine ⟨m, sm_I_scr hj hI (fun _ _ => rfl) rfl rfl, e, fun r hr => ?_⟩
  refine mz_go 3 (c' := (21, [some (.ref 3000), some (.ref 0), some (.ref 65), some (.int (nI i))], [.int (Int32.ofNat (m 3001 0).toNatClampNeg), .int (nI i)], m)) rfl ?_
  rw [show Int32.ofNat (m 3001 0).toNatClampNeg = nI L from by rw [e.2]; rfl]
  refine mz_go 3 (c' := (if ((nI L) - 6) < (nI i) then 1588 else 27, [some (.ref 3000), some (.ref 0), some (.ref 65), some (.int (nI i))], [], m)) rfl ?_
  refine mz_ifF (show ¬ (((nI L) - 6) < (nI i)) from (sm_law hL (by omega) (by omega))) ?_
  refine mz_go 2 (c' := (29, [some (.ref 3000), some (.ref 0), some (.ref 65), some (.int (nI i))], [.int (nI i), .ref 3000], m)) rfl ?_
  refine mz_arr (c' := (30, [some (.ref 3000), some (.ref 0), some (.ref 65), some (.int (nI i))], [.int (m 3000 ((nI i).toNatClampNeg))], m)) rfl (show mz_in (nI i) (m 3001 0).toNatClampNeg = true from by rw [e.2]; exact sm_inN rfl (show i < L by omega) (by omega)) ?_
  rw [show (nI i : Int32).toNatClampNeg = i from sm_clN rfl (show i < 2 ^ 31 by omega)]
  rw [show m 3000 i = xs i from e.1 _]
  refine mz_go 2 (c' := (33, [some (.ref 3000), some (.ref 0), some (.ref 65), some (.int (nI i))], [.int ((xs i) &&& 63)], m)) rfl ?_
  rw [h]
  refine mz_swd (c' := (1582, [some (.ref 3000), some (.ref 0), some (.ref 65), some (.int (nI i))], [], m)) rfl (Or.inr (Int32.lt_iff_toInt_lt.mp hk)) ?_
  refine mz_go 2 (c' := (18, [some (.ref 3000), some (.ref 0), some (.ref 65), some (.int ((nI i) + 6))], [], m)) rfl ?_
  exact hr
set_option maxHeartbeats 4000000 in
set_option maxRecDepth 100000 in
theorem lwc_magnet {xs : Nat → Int32} {L i j : Nat} (hL : L ≤ 384) (hi : i + 6 ≤ L) {m : mz_M} (hj : j < 64) (hI : sm_I j m) (e : (∀ k, m 3000 k = xs k) ∧ (m 3001 0).toNatClampNeg = L) (h : xs i &&& 63 = 0) : ∃ m2, sm_I (j + 1) m2 ∧ ((∀ k, m2 3000 k = xs k) ∧ (m2 3001 0).toNatClampNeg = L) ∧ ∀ r, mz_Ex 101 mz_kL (18, [some (.ref 3000), some (.ref 0), some (.ref 65), some (.int ((nI i) + 6))], [], m2) r → mz_Ex 101 mz_kL (18, [some (.ref 3000), some (.ref 0), some (.ref 65), some (.int (nI i))], [], m) r := by
  obtain ⟨v1, v2, m1, m2, h1, h2, h3, hv⟩ := sc_magnet hj hI (xs (i + 1)) (xs (i + 2)) (xs (i + 3)) (xs (i + 4))
  have e1 := lw_eL h1 e
  have e2 := lw_eL h2 e1
  refine ⟨m2, h3, e2, fun r hr => ?_⟩
  refine mz_go 3 (c' := (21, [some (.ref 3000), some (.ref 0), some (.ref 65), some (.int (nI i))], [.int (Int32.ofNat (m 3001 0).toNatClampNeg), .int (nI i)], m)) rfl ?_
  rw [show Int32.ofNat (m 3001 0).toNatClampNeg = nI L from by rw [e.2]; rfl]
  refine mz_go 3 (c' := (if ((nI L) - 6) < (nI i) then 1588 else 27, [some (.ref 3000), some (.ref 0), some (.ref 65), some (.int (nI i))], [], m)) rfl ?_
  refine mz_ifF (show ¬ (((nI L) - 6) < (nI i)) from (sm_law hL (by omega) (by omega))) ?_
  refine mz_go 2 (c' := (29, [some (.ref 3000), some (.ref 0), some (.ref 65), some (.int (nI i))], [.int (nI i), .ref 3000], m)) rfl ?_
  refine mz_arr (c' := (30, [some (.ref 3000), some (.ref 0), some (.ref 65), some (.int (nI i))], [.int (m 3000 ((nI i).toNatClampNeg))], m)) rfl (show mz_in (nI i) (m 3001 0).toNatClampNeg = true from by rw [e.2]; exact sm_inN rfl (show i < L by omega) (by omega)) ?_
  rw [show (nI i : Int32).toNatClampNeg = i from sm_clN rfl (show i < 2 ^ 31 by omega)]
  rw [show m 3000 i = xs i from e.1 _]
  refine mz_go 2 (c' := (33, [some (.ref 3000), some (.ref 0), some (.ref 65), some (.int (nI i))], [.int ((xs i) &&& 63)], m)) rfl ?_
  rw [h]
  refine mz_go 6 (c' := (221, [some (.ref 3000), some (.ref 0), some (.ref 65), some (.int (nI i))], [.int ((nI i) + 1), .ref 3000, .ref 0], m)) rfl ?_
  refine mz_arr (c' := (222, [some (.ref 3000), some (.ref 0), some (.ref 65), some (.int (nI i))], [.int (m 3000 (((nI i) + 1).toNatClampNeg)), .ref 0], m)) rfl (show mz_in ((nI i) + 1) (m 3001 0).toNatClampNeg = true from by rw [e.2]; exact sm_inN (sm_addN rfl rfl) (show (i + 1) < L by omega) (by omega)) ?_
  rw [show ((nI i) + 1 : Int32).toNatClampNeg = (i + 1) from sm_clN (sm_addN rfl rfl) (show (i + 1) < 2 ^ 31 by omega)]
  rw [show m 3000 (i + 1) = xs (i + 1) from e.1 _]
  refine mz_go 4 (c' := (226, [some (.ref 3000), some (.ref 0), some (.ref 65), some (.int (nI i))], [.int ((nI i) + 2), .ref 3000, .int (xs (i + 1)), .ref 0], m)) rfl ?_
  refine mz_arr (c' := (227, [some (.ref 3000), some (.ref 0), some (.ref 65), some (.int (nI i))], [.int (m 3000 (((nI i) + 2).toNatClampNeg)), .int (xs (i + 1)), .ref 0], m)) rfl (show mz_in ((nI i) + 2) (m 3001 0).toNatClampNeg = true from by rw [e.2]; exact sm_inN (sm_addN rfl rfl) (show (i + 2) < L by omega) (by omega)) ?_
  rw [show ((nI i) + 2 : Int32).toNatClampNeg = (i + 2) from sm_clN (sm_addN rfl rfl) (show (i + 2) < 2 ^ 31 by omega)]
  rw [show m 3000 (i + 2) = xs (i + 2) from e.1 _]
  refine mz_go 4 (c' := (231, [some (.ref 3000), some (.ref 0), some (.ref 65), some (.int (nI i))], [.int ((nI i) + 3), .ref 3000, .int (xs (i + 2)), .int (xs (i + 1)), .ref 0], m)) rfl ?_
  refine mz_arr (c' := (232, [some (.ref 3000), some (.ref 0), some (.ref 65), some (.int (nI i))], [.int (m 3000 (((nI i) + 3).toNatClampNeg)), .int (xs (i + 2)), .int (xs (i + 1)), .ref 0], m)) rfl (show mz_in ((nI i) + 3) (m 3001 0).toNatClampNeg = true from by rw [e.2]; exact sm_inN (sm_addN rfl rfl) (show (i + 3) < L by omega) (by omega)) ?_
  rw [show ((nI i) + 3 : Int32).toNatClampNeg = (i + 3) from sm_clN (sm_addN rfl rfl) (show (i + 3) < 2 ^ 31 by omega)]
  rw [show m 3000 (i + 3) = xs (i + 3) from e.1 _]
  refine mz_go 4 (c' := (236, [some (.ref 3000), some (.ref 0), some (.ref 65), some (.int (nI i))], [.int ((nI i) + 4), .ref 3000, .int (xs (i + 3)), .int (xs (i + 2)), .int (xs (i + 1)), .ref 0], m)) rfl ?_
  refine mz_arr (c' := (237, [some (.ref 3000), some (.ref 0), some (.ref 65), some (.int (nI i))], [.int (m 3000 (((nI i) + 4).toNatClampNeg)), .int (xs (i + 3)), .int (xs (i + 2)), .int (xs (i + 1)), .ref 0], m)) rfl (show mz_in ((nI i) + 4) (m 3001 0).toNatClampNeg = true from by rw [e.2]; exact sm_inN (sm_addN rfl rfl) (show (i + 4) < L by omega) (by omega)) ?_
  rw [show ((nI i) + 4 : Int32).toNatClampNeg = (i + 4) from sm_clN (sm_addN rfl rfl) (show (i + 4) < 2 ^ 31 by omega)]
  rw [show m 3000 (i + 4) = xs (i + 4) from e.1 _]
  refine mz_do (R := mz_r67) (as := [.ref 0, .int (xs (i + 1)), .int (xs (i + 2)), .int (xs (i + 3)), .int (xs (i + 4))]) (rest := []) (r1 := some (.int v1)) (m1 := m1) rfl h1 ?_
  refine mz_go 6 (c' := (246, [some (.ref 3000), some (.ref 0), some (.ref 65), some (.int (nI i))], [.int ((nI i) + 1), .ref 3000, .ref 65], m1)) rfl ?_
  refine mz_arr (c' := (247, [some (.ref 3000), some (.ref 0), some (.ref 65), some (.int (nI i))], [.int (m1 3000 (((nI i) + 1).toNatClampNeg)), .ref 65], m1)) rfl (show mz_in ((nI i) + 1) (m1 3001 0).toNatClampNeg = true from by rw [e1.2]; exact sm_inN (sm_addN rfl rfl) (show (i + 1) < L by omega) (by omega)) ?_
  rw [show ((nI i) + 1 : Int32).toNatClampNeg = (i + 1) from sm_clN (sm_addN rfl rfl) (show (i + 1) < 2 ^ 31 by omega)]
  rw [show m1 3000 (i + 1) = xs (i + 1) from e1.1 _]
  refine mz_go 4 (c' := (251, [some (.ref 3000), some (.ref 0), some (.ref 65), some (.int (nI i))], [.int ((nI i) + 2), .ref 3000, .int (xs (i + 1)), .ref 65], m1)) rfl ?_
  refine mz_arr (c' := (252, [some (.ref 3000), some (.ref 0), some (.ref 65), some (.int (nI i))], [.int (m1 3000 (((nI i) + 2).toNatClampNeg)), .int (xs (i + 1)), .ref 65], m1)) rfl (show mz_in ((nI i) + 2) (m1 3001 0).toNatClampNeg = true from by rw [e1.2]; exact sm_inN (sm_addN rfl rfl) (show (i + 2) < L by omega) (by omega)) ?_
  rw [show ((nI i) + 2 : Int32).toNatClampNeg = (i + 2) from sm_clN (sm_addN rfl rfl) (show (i + 2) < 2 ^ 31 by omega)]
  rw [show m1 3000 (i + 2) = xs (i + 2) from e1.1 _]
  refine mz_go 4 (c' := (256, [some (.ref 3000), some (.ref 0), some (.ref 65), some (.int (nI i))], [.int ((nI i) + 3), .ref 3000, .int (xs (i + 2)), .int (xs (i + 1)), .ref 65], m1)) rfl ?_
  refine mz_arr (c' := (257, [some (.ref 3000), some (.ref 0), some (.ref 65), some (.int (nI i))], [.int (m1 3000 (((nI i) + 3).toNatClampNeg)), .int (xs (i + 2)), .int (xs (i + 1)), .ref 65], m1)) rfl (show mz_in ((nI i) + 3) (m1 3001 0).toNatClampNeg = true from by rw [e1.2]; exact sm_inN (sm_addN rfl rfl) (show (i + 3) < L by omega) (by omega)) ?_
  rw [show ((nI i) + 3 : Int32).toNatClampNeg = (i + 3) from sm_clN (sm_addN rfl rfl) (show (i + 3) < 2 ^ 31 by omega)]
  rw [show m1 3000 (i + 3) = xs (i + 3) from e1.1 _]
  refine mz_go 4 (c' := (261, [some (.ref 3000), some (.ref 0), some (.ref 65), some (.int (nI i))], [.int ((nI i) + 4), .ref 3000, .int (xs (i + 3)), .int (xs (i + 2)), .int (xs (i + 1)), .ref 65], m1)) rfl ?_
  refine mz_arr (c' := (262, [some (.ref 3000), some (.ref 0), some (.ref 65), some (.int (nI i))], [.int (m1 3000 (((nI i) + 4).toNatClampNeg)), .int (xs (i + 3)), .int (xs (i + 2)), .int (xs (i + 1)), .ref 65], m1)) rfl (show mz_in ((nI i) + 4) (m1 3001 0).toNatClampNeg = true from by rw [e1.2]; exact sm_inN (sm_addN rfl rfl) (show (i + 4) < L by omega) (by omega)) ?_
  rw [show ((nI i) + 4 : Int32).toNatClampNeg = (i + 4) from sm_clN (sm_addN rfl rfl) (show (i + 4) < 2 ^ 31 by omega)]
  rw [show m1 3000 (i + 4) = xs (i + 4) from e1.1 _]
  refine mz_do (R := mz_r137) (as := [.ref 65, .int (xs (i + 1)), .int (xs (i + 2)), .int (xs (i + 3)), .int (xs (i + 4))]) (rest := []) (r1 := some (.int v2)) (m1 := m2) rfl h2 ?_
  refine mz_go 4 (c' := (18, [some (.ref 3000), some (.ref 0), some (.ref 65), some (.int ((nI i) + 6))], [], m2)) rfl ?_
  exact hr
set_option maxHeartbeats 4000000 in
set_option maxRecDepth 100000 in
theorem lwc_magnetIs {xs : Nat → Int32} {L i j : Nat} (hL : L ≤ 384) (hi : i + 6 ≤ L) {m : mz_M} (hj : j < 64) (hI : sm_I j m) (e : (∀ k, m 3000 k = xs k) ∧ (m 3001 0).toNatClampNeg = L) (h : xs i &&& 63 = 1) : ∃ m2, sm_I (j + 1) m2 ∧ ((∀ k, m2 3000 k = xs k) ∧ (m2 3001 0).toNatClampNeg = L) ∧ ∀ r, mz_Ex 101 mz_kL (18, [some (.ref 3000), some (.ref 0), some (.ref 65), some (.int ((nI i) + 6))], [], m2) r → mz_Ex 101 mz_kL (18, [some (.ref 3000), some (.ref 0), some (.ref 65), some (.int (nI i))], [], m) r := by
  obtain ⟨v1, v2, m1, m2, h1, h2, h3, hv⟩ := sc_magnetIs hj hI (xs (i + 1)) (xs (i + 2))
  have e1 := lw_eL h1 e
  have e2 := lw_eL h2 e1
  refine ⟨m2, h3, e2, fun r hr => ?_⟩
  refine mz_go 3 (c' := (21, [some (.ref 3000), some (.ref 0), some (.ref 65), some (.int (nI i))], [.int (Int32.ofNat (m 3001 0).toNatClampNeg), .int (nI i)], m)) rfl ?_
  rw [show Int32.ofNat (m 3001 0).toNatClampNeg = nI L from by rw [e.2]; rfl]
  refine mz_go 3 (c' := (if ((nI L) - 6) < (nI i) then 1588 else 27, [some (.ref 3000), some (.ref 0), some (.ref 65), some (.int (nI i))], [], m)) rfl ?_
  refine mz_ifF (show ¬ (((nI L) - 6) < (nI i)) from (sm_law hL (by omega) (by omega))) ?_
  refine mz_go 2 (c' := (29, [some (.ref 3000), some (.ref 0), some (.ref 65), some (.int (nI i))], [.int (nI i), .ref 3000], m)) rfl ?_
  refine mz_arr (c' := (30, [some (.ref 3000), some (.ref 0), some (.ref 65), some (.int (nI i))], [.int (m 3000 ((nI i).toNatClampNeg))], m)) rfl (show mz_in (nI i) (m 3001 0).toNatClampNeg = true from by rw [e.2]; exact sm_inN rfl (show i < L by omega) (by omega)) ?_
  rw [show (nI i : Int32).toNatClampNeg = i from sm_clN rfl (show i < 2 ^ 31 by omega)]
  rw [show m 3000 i = xs i from e.1 _]
  refine mz_go 2 (c' := (33, [some (.ref 3000), some (.ref 0), some (.ref 65), some (.int (nI i))], [.int ((xs i) &&& 63)], m)) rfl ?_
  rw [h]
  refine mz_go 6 (c' := (274, [some (.ref 3000), some (.ref 0), some (.ref 65), some (.int (nI i))], [.int ((nI i) + 1), .ref 3000, .ref 0], m)) rfl ?_
  refine mz_arr (c' := (275, [some (.ref 3000), some (.ref 0), some (.ref 65), some (.int (nI i))], [.int (m 3000 (((nI i) + 1).toNatClampNeg)), .ref 0], m)) rfl (show mz_in ((nI i) + 1) (m 3001 0).toNatClampNeg = true from by rw [e.2]; exact sm_inN (sm_addN rfl rfl) (show (i + 1) < L by omega) (by omega)) ?_
  rw [show ((nI i) + 1 : Int32).toNatClampNeg = (i + 1) from sm_clN (sm_addN rfl rfl) (show (i + 1) < 2 ^ 31 by omega)]
  rw [show m 3000 (i + 1) = xs (i + 1) from e.1 _]
  refine mz_go 4 (c' := (279, [some (.ref 3000), some (.ref 0), some (.ref 65), some (.int (nI i))], [.int ((nI i) + 2), .ref 3000, .int (xs (i + 1)), .ref 0], m)) rfl ?_
  refine mz_arr (c' := (280, [some (.ref 3000), some (.ref 0), some (.ref 65), some (.int (nI i))], [.int (m 3000 (((nI i) + 2).toNatClampNeg)), .int (xs (i + 1)), .ref 0], m)) rfl (show mz_in ((nI i) + 2) (m 3001 0).toNatClampNeg = true from by rw [e.2]; exact sm_inN (sm_addN rfl rfl) (show (i + 2) < L by omega) (by omega)) ?_
  rw [show ((nI i) + 2 : Int32).toNatClampNeg = (i + 2) from sm_clN (sm_addN rfl rfl) (show (i + 2) < 2 ^ 31 by omega)]
  rw [show m 3000 (i + 2) = xs (i + 2) from e.1 _]
  refine mz_do (R := mz_r68) (as := [.ref 0, .int (xs (i + 1)), .int (xs (i + 2))]) (rest := []) (r1 := some (.int v1)) (m1 := m1) rfl h1 ?_
  refine mz_go 6 (c' := (289, [some (.ref 3000), some (.ref 0), some (.ref 65), some (.int (nI i))], [.int ((nI i) + 1), .ref 3000, .ref 65], m1)) rfl ?_
  refine mz_arr (c' := (290, [some (.ref 3000), some (.ref 0), some (.ref 65), some (.int (nI i))], [.int (m1 3000 (((nI i) + 1).toNatClampNeg)), .ref 65], m1)) rfl (show mz_in ((nI i) + 1) (m1 3001 0).toNatClampNeg = true from by rw [e1.2]; exact sm_inN (sm_addN rfl rfl) (show (i + 1) < L by omega) (by omega)) ?_
  rw [show ((nI i) + 1 : Int32).toNatClampNeg = (i + 1) from sm_clN (sm_addN rfl rfl) (show (i + 1) < 2 ^ 31 by omega)]
  rw [show m1 3000 (i + 1) = xs (i + 1) from e1.1 _]
  refine mz_go 4 (c' := (294, [some (.ref 3000), some (.ref 0), some (.ref 65), some (.int (nI i))], [.int ((nI i) + 2), .ref 3000, .int (xs (i + 1)), .ref 65], m1)) rfl ?_
  refine mz_arr (c' := (295, [some (.ref 3000), some (.ref 0), some (.ref 65), some (.int (nI i))], [.int (m1 3000 (((nI i) + 2).toNatClampNeg)), .int (xs (i + 1)), .ref 65], m1)) rfl (show mz_in ((nI i) + 2) (m1 3001 0).toNatClampNeg = true from by rw [e1.2]; exact sm_inN (sm_addN rfl rfl) (show (i + 2) < L by omega) (by omega)) ?_
  rw [show ((nI i) + 2 : Int32).toNatClampNeg = (i + 2) from sm_clN (sm_addN rfl rfl) (show (i + 2) < 2 ^ 31 by omega)]
  rw [show m1 3000 (i + 2) = xs (i + 2) from e1.1 _]
  refine mz_do (R := mz_r138) (as := [.ref 65, .int (xs (i + 1)), .int (xs (i + 2))]) (rest := []) (r1 := some (.int v2)) (m1 := m2) rfl h2 ?_
  refine mz_go 4 (c' := (18, [some (.ref 3000), some (.ref 0), some (.ref 65), some (.int ((nI i) + 6))], [], m2)) rfl ?_
  exact hr
set_option maxHeartbeats 4000000 in
set_option maxRecDepth 100000 in
theorem lwc_as {xs : Nat → Int32} {L i j : Nat} (hL : L ≤ 384) (hi : i + 6 ≤ L) {m : mz_M} (hj : j < 64) (hI : sm_I j m) (e : (∀ k, m 3000 k = xs k) ∧ (m 3001 0).toNatClampNeg = L) (h : xs i &&& 63 = 2) : ∃ m2, sm_I (j + 1) m2 ∧ ((∀ k, m2 3000 k = xs k) ∧ (m2 3001 0).toNatClampNeg = L) ∧ ∀ r, mz_Ex 101 mz_kL (18, [some (.ref 3000), some (.ref 0), some (.ref 65), some (.int ((nI i) + 6))], [], m2) r → mz_Ex 101 mz_kL (18, [some (.ref 3000), some (.ref 0), some (.ref 65), some (.int (nI i))], [], m) r := by
  obtain ⟨v1, v2, m1, m2, h1, h2, h3, hv⟩ := sc_as hj hI (xs (i + 1)) (xs (i + 2))
  have e1 := lw_eL h1 e
  have e2 := lw_eL h2 e1
  refine ⟨m2, h3, e2, fun r hr => ?_⟩
  refine mz_go 3 (c' := (21, [some (.ref 3000), some (.ref 0), some (.ref 65), some (.int (nI i))], [.int (Int32.ofNat (m 3001 0).toNatClampNeg), .int (nI i)], m)) rfl ?_
  rw [show Int32.ofNat (m 3001 0).toNatClampNeg = nI L from by rw [e.2]; rfl]
  refine mz_go 3 (c' := (if ((nI L) - 6) < (nI i) then 1588 else 27, [some (.ref 3000), some (.ref 0), some (.ref 65), some (.int (nI i))], [], m)) rfl ?_
  refine mz_ifF (show ¬ (((nI L) - 6) < (nI i)) from (sm_law hL (by omega) (by omega))) ?_
  refine mz_go 2 (c' := (29, [some (.ref 3000), some (.ref 0), some (.ref 65), some (.int (nI i))], [.int (nI i), .ref 3000], m)) rfl ?_
  refine mz_arr (c' := (30, [some (.ref 3000), some (.ref 0), some (.ref 65), some (.int (nI i))], [.int (m 3000 ((nI i).toNatClampNeg))], m)) rfl (show mz_in (nI i) (m 3001 0).toNatClampNeg = true from by rw [e.2]; exact sm_inN rfl (show i < L by omega) (by omega)) ?_
  rw [show (nI i : Int32).toNatClampNeg = i from sm_clN rfl (show i < 2 ^ 31 by omega)]
  rw [show m 3000 i = xs i from e.1 _]
  refine mz_go 2 (c' := (33, [some (.ref 3000), some (.ref 0), some (.ref 65), some (.int (nI i))], [.int ((xs i) &&& 63)], m)) rfl ?_
  rw [h]
  refine mz_go 6 (c' := (307, [some (.ref 3000), some (.ref 0), some (.ref 65), some (.int (nI i))], [.int ((nI i) + 1), .ref 3000, .ref 0], m)) rfl ?_
  refine mz_arr (c' := (308, [some (.ref 3000), some (.ref 0), some (.ref 65), some (.int (nI i))], [.int (m 3000 (((nI i) + 1).toNatClampNeg)), .ref 0], m)) rfl (show mz_in ((nI i) + 1) (m 3001 0).toNatClampNeg = true from by rw [e.2]; exact sm_inN (sm_addN rfl rfl) (show (i + 1) < L by omega) (by omega)) ?_
  rw [show ((nI i) + 1 : Int32).toNatClampNeg = (i + 1) from sm_clN (sm_addN rfl rfl) (show (i + 1) < 2 ^ 31 by omega)]
  rw [show m 3000 (i + 1) = xs (i + 1) from e.1 _]
  refine mz_go 4 (c' := (312, [some (.ref 3000), some (.ref 0), some (.ref 65), some (.int (nI i))], [.int ((nI i) + 2), .ref 3000, .int (xs (i + 1)), .ref 0], m)) rfl ?_
  refine mz_arr (c' := (313, [some (.ref 3000), some (.ref 0), some (.ref 65), some (.int (nI i))], [.int (m 3000 (((nI i) + 2).toNatClampNeg)), .int (xs (i + 1)), .ref 0], m)) rfl (show mz_in ((nI i) + 2) (m 3001 0).toNatClampNeg = true from by rw [e.2]; exact sm_inN (sm_addN rfl rfl) (show (i + 2) < L by omega) (by omega)) ?_
  rw [show ((nI i) + 2 : Int32).toNatClampNeg = (i + 2) from sm_clN (sm_addN rfl rfl) (show (i + 2) < 2 ^ 31 by omega)]
  rw [show m 3000 (i + 2) = xs (i + 2) from e.1 _]
  refine mz_do (R := mz_r69) (as := [.ref 0, .int (xs (i + 1)), .int (xs (i + 2))]) (rest := []) (r1 := some (.int v1)) (m1 := m1) rfl h1 ?_
  refine mz_go 6 (c' := (322, [some (.ref 3000), some (.ref 0), some (.ref 65), some (.int (nI i))], [.int ((nI i) + 1), .ref 3000, .ref 65], m1)) rfl ?_
  refine mz_arr (c' := (323, [some (.ref 3000), some (.ref 0), some (.ref 65), some (.int (nI i))], [.int (m1 3000 (((nI i) + 1).toNatClampNeg)), .ref 65], m1)) rfl (show mz_in ((nI i) + 1) (m1 3001 0).toNatClampNeg = true from by rw [e1.2]; exact sm_inN (sm_addN rfl rfl) (show (i + 1) < L by omega) (by omega)) ?_
  rw [show ((nI i) + 1 : Int32).toNatClampNeg = (i + 1) from sm_clN (sm_addN rfl rfl) (show (i + 1) < 2 ^ 31 by omega)]
  rw [show m1 3000 (i + 1) = xs (i + 1) from e1.1 _]
  refine mz_go 4 (c' := (327, [some (.ref 3000), some (.ref 0), some (.ref 65), some (.int (nI i))], [.int ((nI i) + 2), .ref 3000, .int (xs (i + 1)), .ref 65], m1)) rfl ?_
  refine mz_arr (c' := (328, [some (.ref 3000), some (.ref 0), some (.ref 65), some (.int (nI i))], [.int (m1 3000 (((nI i) + 2).toNatClampNeg)), .int (xs (i + 1)), .ref 65], m1)) rfl (show mz_in ((nI i) + 2) (m1 3001 0).toNatClampNeg = true from by rw [e1.2]; exact sm_inN (sm_addN rfl rfl) (show (i + 2) < L by omega) (by omega)) ?_
  rw [show ((nI i) + 2 : Int32).toNatClampNeg = (i + 2) from sm_clN (sm_addN rfl rfl) (show (i + 2) < 2 ^ 31 by omega)]
  rw [show m1 3000 (i + 2) = xs (i + 2) from e1.1 _]
  refine mz_do (R := mz_r139) (as := [.ref 65, .int (xs (i + 1)), .int (xs (i + 2))]) (rest := []) (r1 := some (.int v2)) (m1 := m2) rfl h2 ?_
  refine mz_go 4 (c' := (18, [some (.ref 3000), some (.ref 0), some (.ref 65), some (.int ((nI i) + 6))], [], m2)) rfl ?_
  exact hr
set_option maxHeartbeats 4000000 in
set_option maxRecDepth 100000 in
theorem lwc_shift {xs : Nat → Int32} {L i j : Nat} (hL : L ≤ 384) (hi : i + 6 ≤ L) {m : mz_M} (hj : j < 64) (hI : sm_I j m) (e : (∀ k, m 3000 k = xs k) ∧ (m 3001 0).toNatClampNeg = L) (h : xs i &&& 63 = 3) : ∃ m2, sm_I (j + 1) m2 ∧ ((∀ k, m2 3000 k = xs k) ∧ (m2 3001 0).toNatClampNeg = L) ∧ ∀ r, mz_Ex 101 mz_kL (18, [some (.ref 3000), some (.ref 0), some (.ref 65), some (.int ((nI i) + 6))], [], m2) r → mz_Ex 101 mz_kL (18, [some (.ref 3000), some (.ref 0), some (.ref 65), some (.int (nI i))], [], m) r := by
  obtain ⟨v1, v2, m1, m2, h1, h2, h3, hv⟩ := sc_shift hj hI (xs (i + 1)) (xs (i + 2)) (xs (i + 3)) (xs (i + 4))
  have e1 := lw_eL h1 e
  have e2 := lw_eL h2 e1
  refine ⟨m2, h3, e2, fun r hr => ?_⟩
  refine mz_go 3 (c' := (21, [some (.ref 3000), some (.ref 0), some (.ref 65), some (.int (nI i))], [.int (Int32.ofNat (m 3001 0).toNatClampNeg), .int (nI i)], m)) rfl ?_
  rw [show Int32.ofNat (m 3001 0).toNatClampNeg = nI L from by rw [e.2]; rfl]
  refine mz_go 3 (c' := (if ((nI L) - 6) < (nI i) then 1588 else 27, [some (.ref 3000), some (.ref 0), some (.ref 65), some (.int (nI i))], [], m)) rfl ?_
  refine mz_ifF (show ¬ (((nI L) - 6) < (nI i)) from (sm_law hL (by omega) (by omega))) ?_
  refine mz_go 2 (c' := (29, [some (.ref 3000), some (.ref 0), some (.ref 65), some (.int (nI i))], [.int (nI i), .ref 3000], m)) rfl ?_
  refine mz_arr (c' := (30, [some (.ref 3000), some (.ref 0), some (.ref 65), some (.int (nI i))], [.int (m 3000 ((nI i).toNatClampNeg))], m)) rfl (show mz_in (nI i) (m 3001 0).toNatClampNeg = true from by rw [e.2]; exact sm_inN rfl (show i < L by omega) (by omega)) ?_
  rw [show (nI i : Int32).toNatClampNeg = i from sm_clN rfl (show i < 2 ^ 31 by omega)]
  rw [show m 3000 i = xs i from e.1 _]
  refine mz_go 2 (c' := (33, [some (.ref 3000), some (.ref 0), some (.ref 65), some (.int (nI i))], [.int ((xs i) &&& 63)], m)) rfl ?_
  rw [h]
  refine mz_go 6 (c' := (340, [some (.ref 3000), some (.ref 0), some (.ref 65), some (.int (nI i))], [.int ((nI i) + 1), .ref 3000, .ref 0], m)) rfl ?_
  refine mz_arr (c' := (341, [some (.ref 3000), some (.ref 0), some (.ref 65), some (.int (nI i))], [.int (m 3000 (((nI i) + 1).toNatClampNeg)), .ref 0], m)) rfl (show mz_in ((nI i) + 1) (m 3001 0).toNatClampNeg = true from by rw [e.2]; exact sm_inN (sm_addN rfl rfl) (show (i + 1) < L by omega) (by omega)) ?_
  rw [show ((nI i) + 1 : Int32).toNatClampNeg = (i + 1) from sm_clN (sm_addN rfl rfl) (show (i + 1) < 2 ^ 31 by omega)]
  rw [show m 3000 (i + 1) = xs (i + 1) from e.1 _]
  refine mz_go 4 (c' := (345, [some (.ref 3000), some (.ref 0), some (.ref 65), some (.int (nI i))], [.int ((nI i) + 2), .ref 3000, .int (xs (i + 1)), .ref 0], m)) rfl ?_
  refine mz_arr (c' := (346, [some (.ref 3000), some (.ref 0), some (.ref 65), some (.int (nI i))], [.int (m 3000 (((nI i) + 2).toNatClampNeg)), .int (xs (i + 1)), .ref 0], m)) rfl (show mz_in ((nI i) + 2) (m 3001 0).toNatClampNeg = true from by rw [e.2]; exact sm_inN (sm_addN rfl rfl) (show (i + 2) < L by omega) (by omega)) ?_
  rw [show ((nI i) + 2 : Int32).toNatClampNeg = (i + 2) from sm_clN (sm_addN rfl rfl) (show (i + 2) < 2 ^ 31 by omega)]
  rw [show m 3000 (i + 2) = xs (i + 2) from e.1 _]
  refine mz_go 4 (c' := (350, [some (.ref 3000), some (.ref 0), some (.ref 65), some (.int (nI i))], [.int ((nI i) + 3), .ref 3000, .int (xs (i + 2)), .int (xs (i + 1)), .ref 0], m)) rfl ?_
  refine mz_arr (c' := (351, [some (.ref 3000), some (.ref 0), some (.ref 65), some (.int (nI i))], [.int (m 3000 (((nI i) + 3).toNatClampNeg)), .int (xs (i + 2)), .int (xs (i + 1)), .ref 0], m)) rfl (show mz_in ((nI i) + 3) (m 3001 0).toNatClampNeg = true from by rw [e.2]; exact sm_inN (sm_addN rfl rfl) (show (i + 3) < L by omega) (by omega)) ?_
  rw [show ((nI i) + 3 : Int32).toNatClampNeg = (i + 3) from sm_clN (sm_addN rfl rfl) (show (i + 3) < 2 ^ 31 by omega)]
  rw [show m 3000 (i + 3) = xs (i + 3) from e.1 _]
  refine mz_go 4 (c' := (355, [some (.ref 3000), some (.ref 0), some (.ref 65), some (.int (nI i))], [.int ((nI i) + 4), .ref 3000, .int (xs (i + 3)), .int (xs (i + 2)), .int (xs (i + 1)), .ref 0], m)) rfl ?_
  refine mz_arr (c' := (356, [some (.ref 3000), some (.ref 0), some (.ref 65), some (.int (nI i))], [.int (m 3000 (((nI i) + 4).toNatClampNeg)), .int (xs (i + 3)), .int (xs (i + 2)), .int (xs (i + 1)), .ref 0], m)) rfl (show mz_in ((nI i) + 4) (m 3001 0).toNatClampNeg = true from by rw [e.2]; exact sm_inN (sm_addN rfl rfl) (show (i + 4) < L by omega) (by omega)) ?_
  rw [show ((nI i) + 4 : Int32).toNatClampNeg = (i + 4) from sm_clN (sm_addN rfl rfl) (show (i + 4) < 2 ^ 31 by omega)]
  rw [show m 3000 (i + 4) = xs (i + 4) from e.1 _]
  refine mz_do (R := mz_r70) (as := [.ref 0, .int (xs (i + 1)), .int (xs (i + 2)), .int (xs (i + 3)), .int (xs (i + 4))]) (rest := []) (r1 := some (.int v1)) (m1 := m1) rfl h1 ?_
  refine mz_go 5 (c' := (364, [some (.ref 3000), some (.ref 0), some (.ref 65), some (.int (nI i))], [.int ((nI i) + 1), .ref 3000, .ref 65, .int v1], m1)) rfl ?_
  refine mz_arr (c' := (365, [some (.ref 3000), some (.ref 0), some (.ref 65), some (.int (nI i))], [.int (m1 3000 (((nI i) + 1).toNatClampNeg)), .ref 65, .int v1], m1)) rfl (show mz_in ((nI i) + 1) (m1 3001 0).toNatClampNeg = true from by rw [e1.2]; exact sm_inN (sm_addN rfl rfl) (show (i + 1) < L by omega) (by omega)) ?_
  rw [show ((nI i) + 1 : Int32).toNatClampNeg = (i + 1) from sm_clN (sm_addN rfl rfl) (show (i + 1) < 2 ^ 31 by omega)]
  rw [show m1 3000 (i + 1) = xs (i + 1) from e1.1 _]
  refine mz_go 4 (c' := (369, [some (.ref 3000), some (.ref 0), some (.ref 65), some (.int (nI i))], [.int ((nI i) + 2), .ref 3000, .int (xs (i + 1)), .ref 65, .int v1], m1)) rfl ?_
  refine mz_arr (c' := (370, [some (.ref 3000), some (.ref 0), some (.ref 65), some (.int (nI i))], [.int (m1 3000 (((nI i) + 2).toNatClampNeg)), .int (xs (i + 1)), .ref 65, .int v1], m1)) rfl (show mz_in ((nI i) + 2) (m1 3001 0).toNatClampNeg = true from by rw [e1.2]; exact sm_inN (sm_addN rfl rfl) (show (i + 2) < L by omega) (by omega)) ?_
  rw [show ((nI i) + 2 : Int32).toNatClampNeg = (i + 2) from sm_clN (sm_addN rfl rfl) (show (i + 2) < 2 ^ 31 by omega)]
  rw [show m1 3000 (i + 2) = xs (i + 2) from e1.1 _]
  refine mz_go 4 (c' := (374, [some (.ref 3000), some (.ref 0), some (.ref 65), some (.int (nI i))], [.int ((nI i) + 3), .ref 3000, .int (xs (i + 2)), .int (xs (i + 1)), .ref 65, .int v1], m1)) rfl ?_
  refine mz_arr (c' := (375, [some (.ref 3000), some (.ref 0), some (.ref 65), some (.int (nI i))], [.int (m1 3000 (((nI i) + 3).toNatClampNeg)), .int (xs (i + 2)), .int (xs (i + 1)), .ref 65, .int v1], m1)) rfl (show mz_in ((nI i) + 3) (m1 3001 0).toNatClampNeg = true from by rw [e1.2]; exact sm_inN (sm_addN rfl rfl) (show (i + 3) < L by omega) (by omega)) ?_
  rw [show ((nI i) + 3 : Int32).toNatClampNeg = (i + 3) from sm_clN (sm_addN rfl rfl) (show (i + 3) < 2 ^ 31 by omega)]
  rw [show m1 3000 (i + 3) = xs (i + 3) from e1.1 _]
  refine mz_go 4 (c' := (379, [some (.ref 3000), some (.ref 0), some (.ref 65), some (.int (nI i))], [.int ((nI i) + 4), .ref 3000, .int (xs (i + 3)), .int (xs (i + 2)), .int (xs (i + 1)), .ref 65, .int v1], m1)) rfl ?_
  refine mz_arr (c' := (380, [some (.ref 3000), some (.ref 0), some (.ref 65), some (.int (nI i))], [.int (m1 3000 (((nI i) + 4).toNatClampNeg)), .int (xs (i + 3)), .int (xs (i + 2)), .int (xs (i + 1)), .ref 65, .int v1], m1)) rfl (show mz_in ((nI i) + 4) (m1 3001 0).toNatClampNeg = true from by rw [e1.2]; exact sm_inN (sm_addN rfl rfl) (show (i + 4) < L by omega) (by omega)) ?_
  rw [show ((nI i) + 4 : Int32).toNatClampNeg = (i + 4) from sm_clN (sm_addN rfl rfl) (show (i + 4) < 2 ^ 31 by omega)]
  rw [show m1 3000 (i + 4) = xs (i + 4) from e1.1 _]
  refine mz_do (R := mz_r140) (as := [.ref 65, .int (xs (i + 1)), .int (xs (i + 2)), .int (xs (i + 3)), .int (xs (i + 4))]) (rest := [.int v1]) (r1 := some (.int v2)) (m1 := m2) rfl h2 ?_
  refine mz_go 1 (c' := (if v1 = v2 then 1582 else 386, [some (.ref 3000), some (.ref 0), some (.ref 65), some (.int (nI i))], [], m2)) rfl ?_
  refine mz_ifT hv ?_
  refine mz_go 2 (c' := (18, [some (.ref 3000), some (.ref 0), some (.ref 65), some (.int ((nI i) + 6))], [], m2)) rfl ?_
  exact hr
set_option maxHeartbeats 4000000 in
set_option maxRecDepth 100000 in
theorem lwc_takeOff {xs : Nat → Int32} {L i j : Nat} (hL : L ≤ 384) (hi : i + 6 ≤ L) {m : mz_M} (hj : j < 64) (hI : sm_I j m) (e : (∀ k, m 3000 k = xs k) ∧ (m 3001 0).toNatClampNeg = L) (h : xs i &&& 63 = 4) : ∃ m2, sm_I (j + 1) m2 ∧ ((∀ k, m2 3000 k = xs k) ∧ (m2 3001 0).toNatClampNeg = L) ∧ ∀ r, mz_Ex 101 mz_kL (18, [some (.ref 3000), some (.ref 0), some (.ref 65), some (.int ((nI i) + 6))], [], m2) r → mz_Ex 101 mz_kL (18, [some (.ref 3000), some (.ref 0), some (.ref 65), some (.int (nI i))], [], m) r := by
  obtain ⟨v1, v2, m1, m2, h1, h2, h3, hv⟩ := sc_takeOff hj hI 
  have e1 := lw_eL h1 e
  have e2 := lw_eL h2 e1
  refine ⟨m2, h3, e2, fun r hr => ?_⟩
  refine mz_go 3 (c' := (21, [some (.ref 3000), some (.ref 0), some (.ref 65), some (.int (nI i))], [.int (Int32.ofNat (m 3001 0).toNatClampNeg), .int (nI i)], m)) rfl ?_
  rw [show Int32.ofNat (m 3001 0).toNatClampNeg = nI L from by rw [e.2]; rfl]
  refine mz_go 3 (c' := (if ((nI L) - 6) < (nI i) then 1588 else 27, [some (.ref 3000), some (.ref 0), some (.ref 65), some (.int (nI i))], [], m)) rfl ?_
  refine mz_ifF (show ¬ (((nI L) - 6) < (nI i)) from (sm_law hL (by omega) (by omega))) ?_
  refine mz_go 2 (c' := (29, [some (.ref 3000), some (.ref 0), some (.ref 65), some (.int (nI i))], [.int (nI i), .ref 3000], m)) rfl ?_
  refine mz_arr (c' := (30, [some (.ref 3000), some (.ref 0), some (.ref 65), some (.int (nI i))], [.int (m 3000 ((nI i).toNatClampNeg))], m)) rfl (show mz_in (nI i) (m 3001 0).toNatClampNeg = true from by rw [e.2]; exact sm_inN rfl (show i < L by omega) (by omega)) ?_
  rw [show (nI i : Int32).toNatClampNeg = i from sm_clN rfl (show i < 2 ^ 31 by omega)]
  rw [show m 3000 i = xs i from e.1 _]
  refine mz_go 2 (c' := (33, [some (.ref 3000), some (.ref 0), some (.ref 65), some (.int (nI i))], [.int ((xs i) &&& 63)], m)) rfl ?_
  rw [h]
  refine mz_go 2 (c' := (389, [some (.ref 3000), some (.ref 0), some (.ref 65), some (.int (nI i))], [.ref 0], m)) rfl ?_
  refine mz_do (R := mz_r71) (as := [.ref 0]) (rest := []) (r1 := some (.int v1)) (m1 := m1) rfl h1 ?_
  refine mz_go 2 (c' := (394, [some (.ref 3000), some (.ref 0), some (.ref 65), some (.int (nI i))], [.ref 65], m1)) rfl ?_
  refine mz_do (R := mz_r141) (as := [.ref 65]) (rest := []) (r1 := some (.int v2)) (m1 := m2) rfl h2 ?_
  refine mz_go 4 (c' := (18, [some (.ref 3000), some (.ref 0), some (.ref 65), some (.int ((nI i) + 6))], [], m2)) rfl ?_
  exact hr
set_option maxHeartbeats 4000000 in
set_option maxRecDepth 100000 in
theorem lwc_rule {xs : Nat → Int32} {L i j : Nat} (hL : L ≤ 384) (hi : i + 6 ≤ L) {m : mz_M} (hj : j < 64) (hI : sm_I j m) (e : (∀ k, m 3000 k = xs k) ∧ (m 3001 0).toNatClampNeg = L) (h : xs i &&& 63 = 5) : ∃ m2, sm_I (j + 1) m2 ∧ ((∀ k, m2 3000 k = xs k) ∧ (m2 3001 0).toNatClampNeg = L) ∧ ∀ r, mz_Ex 101 mz_kL (18, [some (.ref 3000), some (.ref 0), some (.ref 65), some (.int ((nI i) + 6))], [], m2) r → mz_Ex 101 mz_kL (18, [some (.ref 3000), some (.ref 0), some (.ref 65), some (.int (nI i))], [], m) r := by
  obtain ⟨v1, v2, m1, m2, h1, h2, h3, hv⟩ := sc_rule hj hI (xs (i + 1)) (xs (i + 2))
  have e1 := lw_eL h1 e
  have e2 := lw_eL h2 e1
  refine ⟨m2, h3, e2, fun r hr => ?_⟩
  refine mz_go 3 (c' := (21, [some (.ref 3000), some (.ref 0), some (.ref 65), some (.int (nI i))], [.int (Int32.ofNat (m 3001 0).toNatClampNeg), .int (nI i)], m)) rfl ?_
  rw [show Int32.ofNat (m 3001 0).toNatClampNeg = nI L from by rw [e.2]; rfl]
  refine mz_go 3 (c' := (if ((nI L) - 6) < (nI i) then 1588 else 27, [some (.ref 3000), some (.ref 0), some (.ref 65), some (.int (nI i))], [], m)) rfl ?_
  refine mz_ifF (show ¬ (((nI L) - 6) < (nI i)) from (sm_law hL (by omega) (by omega))) ?_
  refine mz_go 2 (c' := (29, [some (.ref 3000), some (.ref 0), some (.ref 65), some (.int (nI i))], [.int (nI i), .ref 3000], m)) rfl ?_
  refine mz_arr (c' := (30, [some (.ref 3000), some (.ref 0), some (.ref 65), some (.int (nI i))], [.int (m 3000 ((nI i).toNatClampNeg))], m)) rfl (show mz_in (nI i) (m 3001 0).toNatClampNeg = true from by rw [e.2]; exact sm_inN rfl (show i < L by omega) (by omega)) ?_
  rw [show (nI i : Int32).toNatClampNeg = i from sm_clN rfl (show i < 2 ^ 31 by omega)]
  rw [show m 3000 i = xs i from e.1 _]
  refine mz_go 2 (c' := (33, [some (.ref 3000), some (.ref 0), some (.ref 65), some (.int (nI i))], [.int ((xs i) &&& 63)], m)) rfl ?_
  rw [h]
  refine mz_go 6 (c' := (406, [some (.ref 3000), some (.ref 0), some (.ref 65), some (.int (nI i))], [.int ((nI i) + 1), .ref 3000, .ref 0], m)) rfl ?_
  refine mz_arr (c' := (407, [some (.ref 3000), some (.ref 0), some (.ref 65), some (.int (nI i))], [.int (m 3000 (((nI i) + 1).toNatClampNeg)), .ref 0], m)) rfl (show mz_in ((nI i) + 1) (m 3001 0).toNatClampNeg = true from by rw [e.2]; exact sm_inN (sm_addN rfl rfl) (show (i + 1) < L by omega) (by omega)) ?_
  rw [show ((nI i) + 1 : Int32).toNatClampNeg = (i + 1) from sm_clN (sm_addN rfl rfl) (show (i + 1) < 2 ^ 31 by omega)]
  rw [show m 3000 (i + 1) = xs (i + 1) from e.1 _]
  refine mz_go 4 (c' := (411, [some (.ref 3000), some (.ref 0), some (.ref 65), some (.int (nI i))], [.int ((nI i) + 2), .ref 3000, .int (xs (i + 1)), .ref 0], m)) rfl ?_
  refine mz_arr (c' := (412, [some (.ref 3000), some (.ref 0), some (.ref 65), some (.int (nI i))], [.int (m 3000 (((nI i) + 2).toNatClampNeg)), .int (xs (i + 1)), .ref 0], m)) rfl (show mz_in ((nI i) + 2) (m 3001 0).toNatClampNeg = true from by rw [e.2]; exact sm_inN (sm_addN rfl rfl) (show (i + 2) < L by omega) (by omega)) ?_
  rw [show ((nI i) + 2 : Int32).toNatClampNeg = (i + 2) from sm_clN (sm_addN rfl rfl) (show (i + 2) < 2 ^ 31 by omega)]
  rw [show m 3000 (i + 2) = xs (i + 2) from e.1 _]
  refine mz_do (R := mz_r72) (as := [.ref 0, .int (xs (i + 1)), .int (xs (i + 2))]) (rest := []) (r1 := some (.int v1)) (m1 := m1) rfl h1 ?_
  refine mz_go 6 (c' := (421, [some (.ref 3000), some (.ref 0), some (.ref 65), some (.int (nI i))], [.int ((nI i) + 1), .ref 3000, .ref 65], m1)) rfl ?_
  refine mz_arr (c' := (422, [some (.ref 3000), some (.ref 0), some (.ref 65), some (.int (nI i))], [.int (m1 3000 (((nI i) + 1).toNatClampNeg)), .ref 65], m1)) rfl (show mz_in ((nI i) + 1) (m1 3001 0).toNatClampNeg = true from by rw [e1.2]; exact sm_inN (sm_addN rfl rfl) (show (i + 1) < L by omega) (by omega)) ?_
  rw [show ((nI i) + 1 : Int32).toNatClampNeg = (i + 1) from sm_clN (sm_addN rfl rfl) (show (i + 1) < 2 ^ 31 by omega)]
  rw [show m1 3000 (i + 1) = xs (i + 1) from e1.1 _]
  refine mz_go 4 (c' := (426, [some (.ref 3000), some (.ref 0), some (.ref 65), some (.int (nI i))], [.int ((nI i) + 2), .ref 3000, .int (xs (i + 1)), .ref 65], m1)) rfl ?_
  refine mz_arr (c' := (427, [some (.ref 3000), some (.ref 0), some (.ref 65), some (.int (nI i))], [.int (m1 3000 (((nI i) + 2).toNatClampNeg)), .int (xs (i + 1)), .ref 65], m1)) rfl (show mz_in ((nI i) + 2) (m1 3001 0).toNatClampNeg = true from by rw [e1.2]; exact sm_inN (sm_addN rfl rfl) (show (i + 2) < L by omega) (by omega)) ?_
  rw [show ((nI i) + 2 : Int32).toNatClampNeg = (i + 2) from sm_clN (sm_addN rfl rfl) (show (i + 2) < 2 ^ 31 by omega)]
  rw [show m1 3000 (i + 2) = xs (i + 2) from e1.1 _]
  refine mz_do (R := mz_r143) (as := [.ref 65, .int (xs (i + 1)), .int (xs (i + 2))]) (rest := []) (r1 := some (.int v2)) (m1 := m2) rfl h2 ?_
  refine mz_go 4 (c' := (18, [some (.ref 3000), some (.ref 0), some (.ref 65), some (.int ((nI i) + 6))], [], m2)) rfl ?_
  exact hr
set_option maxHeartbeats 4000000 in
set_option maxRecDepth 100000 in
theorem lwc_nearest {xs : Nat → Int32} {L i j : Nat} (hL : L ≤ 384) (hi : i + 6 ≤ L) {m : mz_M} (hj : j < 64) (hI : sm_I j m) (e : (∀ k, m 3000 k = xs k) ∧ (m 3001 0).toNatClampNeg = L) (h : xs i &&& 63 = 6) : ∃ m2, sm_I (j + 1) m2 ∧ ((∀ k, m2 3000 k = xs k) ∧ (m2 3001 0).toNatClampNeg = L) ∧ ∀ r, mz_Ex 101 mz_kL (18, [some (.ref 3000), some (.ref 0), some (.ref 65), some (.int ((nI i) + 6))], [], m2) r → mz_Ex 101 mz_kL (18, [some (.ref 3000), some (.ref 0), some (.ref 65), some (.int (nI i))], [], m) r := by
  obtain ⟨v1, v2, m1, m2, h1, h2, h3, hv⟩ := sc_nearest hj hI (xs (i + 1)) (xs (i + 2)) (xs (i + 3))
  have e1 := lw_eL h1 e
  have e2 := lw_eL h2 e1
  refine ⟨m2, h3, e2, fun r hr => ?_⟩
  refine mz_go 3 (c' := (21, [some (.ref 3000), some (.ref 0), some (.ref 65), some (.int (nI i))], [.int (Int32.ofNat (m 3001 0).toNatClampNeg), .int (nI i)], m)) rfl ?_
  rw [show Int32.ofNat (m 3001 0).toNatClampNeg = nI L from by rw [e.2]; rfl]
  refine mz_go 3 (c' := (if ((nI L) - 6) < (nI i) then 1588 else 27, [some (.ref 3000), some (.ref 0), some (.ref 65), some (.int (nI i))], [], m)) rfl ?_
  refine mz_ifF (show ¬ (((nI L) - 6) < (nI i)) from (sm_law hL (by omega) (by omega))) ?_
  refine mz_go 2 (c' := (29, [some (.ref 3000), some (.ref 0), some (.ref 65), some (.int (nI i))], [.int (nI i), .ref 3000], m)) rfl ?_
  refine mz_arr (c' := (30, [some (.ref 3000), some (.ref 0), some (.ref 65), some (.int (nI i))], [.int (m 3000 ((nI i).toNatClampNeg))], m)) rfl (show mz_in (nI i) (m 3001 0).toNatClampNeg = true from by rw [e.2]; exact sm_inN rfl (show i < L by omega) (by omega)) ?_
  rw [show (nI i : Int32).toNatClampNeg = i from sm_clN rfl (show i < 2 ^ 31 by omega)]
  rw [show m 3000 i = xs i from e.1 _]
  refine mz_go 2 (c' := (33, [some (.ref 3000), some (.ref 0), some (.ref 65), some (.int (nI i))], [.int ((xs i) &&& 63)], m)) rfl ?_
  rw [h]
  refine mz_go 6 (c' := (439, [some (.ref 3000), some (.ref 0), some (.ref 65), some (.int (nI i))], [.int ((nI i) + 1), .ref 3000, .ref 0], m)) rfl ?_
  refine mz_arr (c' := (440, [some (.ref 3000), some (.ref 0), some (.ref 65), some (.int (nI i))], [.int (m 3000 (((nI i) + 1).toNatClampNeg)), .ref 0], m)) rfl (show mz_in ((nI i) + 1) (m 3001 0).toNatClampNeg = true from by rw [e.2]; exact sm_inN (sm_addN rfl rfl) (show (i + 1) < L by omega) (by omega)) ?_
  rw [show ((nI i) + 1 : Int32).toNatClampNeg = (i + 1) from sm_clN (sm_addN rfl rfl) (show (i + 1) < 2 ^ 31 by omega)]
  rw [show m 3000 (i + 1) = xs (i + 1) from e.1 _]
  refine mz_go 4 (c' := (444, [some (.ref 3000), some (.ref 0), some (.ref 65), some (.int (nI i))], [.int ((nI i) + 2), .ref 3000, .int (xs (i + 1)), .ref 0], m)) rfl ?_
  refine mz_arr (c' := (445, [some (.ref 3000), some (.ref 0), some (.ref 65), some (.int (nI i))], [.int (m 3000 (((nI i) + 2).toNatClampNeg)), .int (xs (i + 1)), .ref 0], m)) rfl (show mz_in ((nI i) + 2) (m 3001 0).toNatClampNeg = true from by rw [e.2]; exact sm_inN (sm_addN rfl rfl) (show (i + 2) < L by omega) (by omega)) ?_
  rw [show ((nI i) + 2 : Int32).toNatClampNeg = (i + 2) from sm_clN (sm_addN rfl rfl) (show (i + 2) < 2 ^ 31 by omega)]
  rw [show m 3000 (i + 2) = xs (i + 2) from e.1 _]
  refine mz_go 4 (c' := (449, [some (.ref 3000), some (.ref 0), some (.ref 65), some (.int (nI i))], [.int ((nI i) + 3), .ref 3000, .int (xs (i + 2)), .int (xs (i + 1)), .ref 0], m)) rfl ?_
  refine mz_arr (c' := (450, [some (.ref 3000), some (.ref 0), some (.ref 65), some (.int (nI i))], [.int (m 3000 (((nI i) + 3).toNatClampNeg)), .int (xs (i + 2)), .int (xs (i + 1)), .ref 0], m)) rfl (show mz_in ((nI i) + 3) (m 3001 0).toNatClampNeg = true from by rw [e.2]; exact sm_inN (sm_addN rfl rfl) (show (i + 3) < L by omega) (by omega)) ?_
  rw [show ((nI i) + 3 : Int32).toNatClampNeg = (i + 3) from sm_clN (sm_addN rfl rfl) (show (i + 3) < 2 ^ 31 by omega)]
  rw [show m 3000 (i + 3) = xs (i + 3) from e.1 _]
  refine mz_do (R := mz_r73) (as := [.ref 0, .int (xs (i + 1)), .int (xs (i + 2)), .int (xs (i + 3))]) (rest := []) (r1 := some (.int v1)) (m1 := m1) rfl h1 ?_
  refine mz_go 6 (c' := (459, [some (.ref 3000), some (.ref 0), some (.ref 65), some (.int (nI i))], [.int ((nI i) + 1), .ref 3000, .ref 65], m1)) rfl ?_
  refine mz_arr (c' := (460, [some (.ref 3000), some (.ref 0), some (.ref 65), some (.int (nI i))], [.int (m1 3000 (((nI i) + 1).toNatClampNeg)), .ref 65], m1)) rfl (show mz_in ((nI i) + 1) (m1 3001 0).toNatClampNeg = true from by rw [e1.2]; exact sm_inN (sm_addN rfl rfl) (show (i + 1) < L by omega) (by omega)) ?_
  rw [show ((nI i) + 1 : Int32).toNatClampNeg = (i + 1) from sm_clN (sm_addN rfl rfl) (show (i + 1) < 2 ^ 31 by omega)]
  rw [show m1 3000 (i + 1) = xs (i + 1) from e1.1 _]
  refine mz_go 4 (c' := (464, [some (.ref 3000), some (.ref 0), some (.ref 65), some (.int (nI i))], [.int ((nI i) + 2), .ref 3000, .int (xs (i + 1)), .ref 65], m1)) rfl ?_
  refine mz_arr (c' := (465, [some (.ref 3000), some (.ref 0), some (.ref 65), some (.int (nI i))], [.int (m1 3000 (((nI i) + 2).toNatClampNeg)), .int (xs (i + 1)), .ref 65], m1)) rfl (show mz_in ((nI i) + 2) (m1 3001 0).toNatClampNeg = true from by rw [e1.2]; exact sm_inN (sm_addN rfl rfl) (show (i + 2) < L by omega) (by omega)) ?_
  rw [show ((nI i) + 2 : Int32).toNatClampNeg = (i + 2) from sm_clN (sm_addN rfl rfl) (show (i + 2) < 2 ^ 31 by omega)]
  rw [show m1 3000 (i + 2) = xs (i + 2) from e1.1 _]
  refine mz_go 4 (c' := (469, [some (.ref 3000), some (.ref 0), some (.ref 65), some (.int (nI i))], [.int ((nI i) + 3), .ref 3000, .int (xs (i + 2)), .int (xs (i + 1)), .ref 65], m1)) rfl ?_
  refine mz_arr (c' := (470, [some (.ref 3000), some (.ref 0), some (.ref 65), some (.int (nI i))], [.int (m1 3000 (((nI i) + 3).toNatClampNeg)), .int (xs (i + 2)), .int (xs (i + 1)), .ref 65], m1)) rfl (show mz_in ((nI i) + 3) (m1 3001 0).toNatClampNeg = true from by rw [e1.2]; exact sm_inN (sm_addN rfl rfl) (show (i + 3) < L by omega) (by omega)) ?_
  rw [show ((nI i) + 3 : Int32).toNatClampNeg = (i + 3) from sm_clN (sm_addN rfl rfl) (show (i + 3) < 2 ^ 31 by omega)]
  rw [show m1 3000 (i + 3) = xs (i + 3) from e1.1 _]
  refine mz_do (R := mz_r157) (as := [.ref 65, .int (xs (i + 1)), .int (xs (i + 2)), .int (xs (i + 3))]) (rest := []) (r1 := some (.int v2)) (m1 := m2) rfl h2 ?_
  refine mz_go 4 (c' := (18, [some (.ref 3000), some (.ref 0), some (.ref 65), some (.int ((nI i) + 6))], [], m2)) rfl ?_
  exact hr
set_option maxHeartbeats 4000000 in
set_option maxRecDepth 100000 in
theorem lwc_feed {xs : Nat → Int32} {L i j : Nat} (hL : L ≤ 384) (hi : i + 6 ≤ L) {m : mz_M} (hj : j < 64) (hI : sm_I j m) (e : (∀ k, m 3000 k = xs k) ∧ (m 3001 0).toNatClampNeg = L) (h : xs i &&& 63 = 7) : ∃ m2, sm_I (j + 1) m2 ∧ ((∀ k, m2 3000 k = xs k) ∧ (m2 3001 0).toNatClampNeg = L) ∧ ∀ r, mz_Ex 101 mz_kL (18, [some (.ref 3000), some (.ref 0), some (.ref 65), some (.int ((nI i) + 6))], [], m2) r → mz_Ex 101 mz_kL (18, [some (.ref 3000), some (.ref 0), some (.ref 65), some (.int (nI i))], [], m) r := by
  obtain ⟨v1, v2, m1, m2, h1, h2, h3, hv⟩ := sc_feed hj hI ((((xs (i + 1) : Int32).toInt64) <<< ((32 : Int32).toInt64 &&& 63)) ||| (((xs (i + 2) : Int32).toInt64) &&& (Int64.ofNat 4294967295))) (xs (i + 3))
  have e1 := lw_eL h1 e
  have e2 := lw_eL h2 e1
  refine ⟨m2, h3, e2, fun r hr => ?_⟩
  refine mz_go 3 (c' := (21, [some (.ref 3000), some (.ref 0), some (.ref 65), some (.int (nI i))], [.int (Int32.ofNat (m 3001 0).toNatClampNeg), .int (nI i)], m)) rfl ?_
  rw [show Int32.ofNat (m 3001 0).toNatClampNeg = nI L from by rw [e.2]; rfl]
  refine mz_go 3 (c' := (if ((nI L) - 6) < (nI i) then 1588 else 27, [some (.ref 3000), some (.ref 0), some (.ref 65), some (.int (nI i))], [], m)) rfl ?_
  refine mz_ifF (show ¬ (((nI L) - 6) < (nI i)) from (sm_law hL (by omega) (by omega))) ?_
  refine mz_go 2 (c' := (29, [some (.ref 3000), some (.ref 0), some (.ref 65), some (.int (nI i))], [.int (nI i), .ref 3000], m)) rfl ?_
  refine mz_arr (c' := (30, [some (.ref 3000), some (.ref 0), some (.ref 65), some (.int (nI i))], [.int (m 3000 ((nI i).toNatClampNeg))], m)) rfl (show mz_in (nI i) (m 3001 0).toNatClampNeg = true from by rw [e.2]; exact sm_inN rfl (show i < L by omega) (by omega)) ?_
  rw [show (nI i : Int32).toNatClampNeg = i from sm_clN rfl (show i < 2 ^ 31 by omega)]
  rw [show m 3000 i = xs i from e.1 _]
  refine mz_go 2 (c' := (33, [some (.ref 3000), some (.ref 0), some (.ref 65), some (.int (nI i))], [.int ((xs i) &&& 63)], m)) rfl ?_
  rw [h]
  refine mz_go 6 (c' := (482, [some (.ref 3000), some (.ref 0), some (.ref 65), some (.int (nI i))], [.int ((nI i) + 1), .ref 3000, .ref 0], m)) rfl ?_
  refine mz_arr (c' := (483, [some (.ref 3000), some (.ref 0), some (.ref 65), some (.int (nI i))], [.int (m 3000 (((nI i) + 1).toNatClampNeg)), .ref 0], m)) rfl (show mz_in ((nI i) + 1) (m 3001 0).toNatClampNeg = true from by rw [e.2]; exact sm_inN (sm_addN rfl rfl) (show (i + 1) < L by omega) (by omega)) ?_
  rw [show ((nI i) + 1 : Int32).toNatClampNeg = (i + 1) from sm_clN (sm_addN rfl rfl) (show (i + 1) < 2 ^ 31 by omega)]
  rw [show m 3000 (i + 1) = xs (i + 1) from e.1 _]
  refine mz_go 7 (c' := (491, [some (.ref 3000), some (.ref 0), some (.ref 65), some (.int (nI i))], [.int ((nI i) + 2), .ref 3000, .long (((xs (i + 1) : Int32).toInt64) <<< ((32 : Int32).toInt64 &&& 63)), .ref 0], m)) rfl ?_
  refine mz_arr (c' := (492, [some (.ref 3000), some (.ref 0), some (.ref 65), some (.int (nI i))], [.int (m 3000 (((nI i) + 2).toNatClampNeg)), .long (((xs (i + 1) : Int32).toInt64) <<< ((32 : Int32).toInt64 &&& 63)), .ref 0], m)) rfl (show mz_in ((nI i) + 2) (m 3001 0).toNatClampNeg = true from by rw [e.2]; exact sm_inN (sm_addN rfl rfl) (show (i + 2) < L by omega) (by omega)) ?_
  rw [show ((nI i) + 2 : Int32).toNatClampNeg = (i + 2) from sm_clN (sm_addN rfl rfl) (show (i + 2) < 2 ^ 31 by omega)]
  rw [show m 3000 (i + 2) = xs (i + 2) from e.1 _]
  refine mz_go 8 (c' := (502, [some (.ref 3000), some (.ref 0), some (.ref 65), some (.int (nI i))], [.int ((nI i) + 3), .ref 3000, .long ((((xs (i + 1) : Int32).toInt64) <<< ((32 : Int32).toInt64 &&& 63)) ||| (((xs (i + 2) : Int32).toInt64) &&& (Int64.ofNat 4294967295))), .ref 0], m)) rfl ?_
  refine mz_arr (c' := (503, [some (.ref 3000), some (.ref 0), some (.ref 65), some (.int (nI i))], [.int (m 3000 (((nI i) + 3).toNatClampNeg)), .long ((((xs (i + 1) : Int32).toInt64) <<< ((32 : Int32).toInt64 &&& 63)) ||| (((xs (i + 2) : Int32).toInt64) &&& (Int64.ofNat 4294967295))), .ref 0], m)) rfl (show mz_in ((nI i) + 3) (m 3001 0).toNatClampNeg = true from by rw [e.2]; exact sm_inN (sm_addN rfl rfl) (show (i + 3) < L by omega) (by omega)) ?_
  rw [show ((nI i) + 3 : Int32).toNatClampNeg = (i + 3) from sm_clN (sm_addN rfl rfl) (show (i + 3) < 2 ^ 31 by omega)]
  rw [show m 3000 (i + 3) = xs (i + 3) from e.1 _]
  refine mz_do (R := mz_r74) (as := [.ref 0, .long ((((xs (i + 1) : Int32).toInt64) <<< ((32 : Int32).toInt64 &&& 63)) ||| (((xs (i + 2) : Int32).toInt64) &&& (Int64.ofNat 4294967295))), .int (xs (i + 3))]) (rest := []) (r1 := some (.int v1)) (m1 := m1) rfl h1 ?_
  refine mz_go 6 (c' := (512, [some (.ref 3000), some (.ref 0), some (.ref 65), some (.int (nI i))], [.int ((nI i) + 1), .ref 3000, .ref 65], m1)) rfl ?_
  refine mz_arr (c' := (513, [some (.ref 3000), some (.ref 0), some (.ref 65), some (.int (nI i))], [.int (m1 3000 (((nI i) + 1).toNatClampNeg)), .ref 65], m1)) rfl (show mz_in ((nI i) + 1) (m1 3001 0).toNatClampNeg = true from by rw [e1.2]; exact sm_inN (sm_addN rfl rfl) (show (i + 1) < L by omega) (by omega)) ?_
  rw [show ((nI i) + 1 : Int32).toNatClampNeg = (i + 1) from sm_clN (sm_addN rfl rfl) (show (i + 1) < 2 ^ 31 by omega)]
  rw [show m1 3000 (i + 1) = xs (i + 1) from e1.1 _]
  refine mz_go 7 (c' := (521, [some (.ref 3000), some (.ref 0), some (.ref 65), some (.int (nI i))], [.int ((nI i) + 2), .ref 3000, .long (((xs (i + 1) : Int32).toInt64) <<< ((32 : Int32).toInt64 &&& 63)), .ref 65], m1)) rfl ?_
  refine mz_arr (c' := (522, [some (.ref 3000), some (.ref 0), some (.ref 65), some (.int (nI i))], [.int (m1 3000 (((nI i) + 2).toNatClampNeg)), .long (((xs (i + 1) : Int32).toInt64) <<< ((32 : Int32).toInt64 &&& 63)), .ref 65], m1)) rfl (show mz_in ((nI i) + 2) (m1 3001 0).toNatClampNeg = true from by rw [e1.2]; exact sm_inN (sm_addN rfl rfl) (show (i + 2) < L by omega) (by omega)) ?_
  rw [show ((nI i) + 2 : Int32).toNatClampNeg = (i + 2) from sm_clN (sm_addN rfl rfl) (show (i + 2) < 2 ^ 31 by omega)]
  rw [show m1 3000 (i + 2) = xs (i + 2) from e1.1 _]
  refine mz_go 8 (c' := (532, [some (.ref 3000), some (.ref 0), some (.ref 65), some (.int (nI i))], [.int ((nI i) + 3), .ref 3000, .long ((((xs (i + 1) : Int32).toInt64) <<< ((32 : Int32).toInt64 &&& 63)) ||| (((xs (i + 2) : Int32).toInt64) &&& (Int64.ofNat 4294967295))), .ref 65], m1)) rfl ?_
  refine mz_arr (c' := (533, [some (.ref 3000), some (.ref 0), some (.ref 65), some (.int (nI i))], [.int (m1 3000 (((nI i) + 3).toNatClampNeg)), .long ((((xs (i + 1) : Int32).toInt64) <<< ((32 : Int32).toInt64 &&& 63)) ||| (((xs (i + 2) : Int32).toInt64) &&& (Int64.ofNat 4294967295))), .ref 65], m1)) rfl (show mz_in ((nI i) + 3) (m1 3001 0).toNatClampNeg = true from by rw [e1.2]; exact sm_inN (sm_addN rfl rfl) (show (i + 3) < L by omega) (by omega)) ?_
  rw [show ((nI i) + 3 : Int32).toNatClampNeg = (i + 3) from sm_clN (sm_addN rfl rfl) (show (i + 3) < 2 ^ 31 by omega)]
  rw [show m1 3000 (i + 3) = xs (i + 3) from e1.1 _]
  refine mz_do (R := mz_r158) (as := [.ref 65, .long ((((xs (i + 1) : Int32).toInt64) <<< ((32 : Int32).toInt64 &&& 63)) ||| (((xs (i + 2) : Int32).toInt64) &&& (Int64.ofNat 4294967295))), .int (xs (i + 3))]) (rest := []) (r1 := some (.int v2)) (m1 := m2) rfl h2 ?_
  refine mz_go 4 (c' := (18, [some (.ref 3000), some (.ref 0), some (.ref 65), some (.int ((nI i) + 6))], [], m2)) rfl ?_
  exact hr
set_option maxHeartbeats 4000000 in
set_option maxRecDepth 100000 in
theorem lwc_text {xs : Nat → Int32} {L i j : Nat} (hL : L ≤ 384) (hi : i + 6 ≤ L) {m : mz_M} (hj : j < 64) (hI : sm_I j m) (e : (∀ k, m 3000 k = xs k) ∧ (m 3001 0).toNatClampNeg = L) (h : xs i &&& 63 = 8) : ∃ m2, sm_I (j + 1) m2 ∧ ((∀ k, m2 3000 k = xs k) ∧ (m2 3001 0).toNatClampNeg = L) ∧ ∀ r, mz_Ex 101 mz_kL (18, [some (.ref 3000), some (.ref 0), some (.ref 65), some (.int ((nI i) + 6))], [], m2) r → mz_Ex 101 mz_kL (18, [some (.ref 3000), some (.ref 0), some (.ref 65), some (.int (nI i))], [], m) r := by
  obtain ⟨v1, v2, m1, m2, h1, h2, h3, hv⟩ := sc_text hj hI (xs (i + 1))
  have e1 := lw_eL h1 e
  have e2 := lw_eL h2 e1
  refine ⟨m2, h3, e2, fun r hr => ?_⟩
  refine mz_go 3 (c' := (21, [some (.ref 3000), some (.ref 0), some (.ref 65), some (.int (nI i))], [.int (Int32.ofNat (m 3001 0).toNatClampNeg), .int (nI i)], m)) rfl ?_
  rw [show Int32.ofNat (m 3001 0).toNatClampNeg = nI L from by rw [e.2]; rfl]
  refine mz_go 3 (c' := (if ((nI L) - 6) < (nI i) then 1588 else 27, [some (.ref 3000), some (.ref 0), some (.ref 65), some (.int (nI i))], [], m)) rfl ?_
  refine mz_ifF (show ¬ (((nI L) - 6) < (nI i)) from (sm_law hL (by omega) (by omega))) ?_
  refine mz_go 2 (c' := (29, [some (.ref 3000), some (.ref 0), some (.ref 65), some (.int (nI i))], [.int (nI i), .ref 3000], m)) rfl ?_
  refine mz_arr (c' := (30, [some (.ref 3000), some (.ref 0), some (.ref 65), some (.int (nI i))], [.int (m 3000 ((nI i).toNatClampNeg))], m)) rfl (show mz_in (nI i) (m 3001 0).toNatClampNeg = true from by rw [e.2]; exact sm_inN rfl (show i < L by omega) (by omega)) ?_
  rw [show (nI i : Int32).toNatClampNeg = i from sm_clN rfl (show i < 2 ^ 31 by omega)]
  rw [show m 3000 i = xs i from e.1 _]
  refine mz_go 2 (c' := (33, [some (.ref 3000), some (.ref 0), some (.ref 65), some (.int (nI i))], [.int ((xs i) &&& 63)], m)) rfl ?_
  rw [h]
  refine mz_go 6 (c' := (545, [some (.ref 3000), some (.ref 0), some (.ref 65), some (.int (nI i))], [.int ((nI i) + 1), .ref 3000, .ref 0], m)) rfl ?_
  refine mz_arr (c' := (546, [some (.ref 3000), some (.ref 0), some (.ref 65), some (.int (nI i))], [.int (m 3000 (((nI i) + 1).toNatClampNeg)), .ref 0], m)) rfl (show mz_in ((nI i) + 1) (m 3001 0).toNatClampNeg = true from by rw [e.2]; exact sm_inN (sm_addN rfl rfl) (show (i + 1) < L by omega) (by omega)) ?_
  rw [show ((nI i) + 1 : Int32).toNatClampNeg = (i + 1) from sm_clN (sm_addN rfl rfl) (show (i + 1) < 2 ^ 31 by omega)]
  rw [show m 3000 (i + 1) = xs (i + 1) from e.1 _]
  refine mz_do (R := mz_r75) (as := [.ref 0, .int (xs (i + 1))]) (rest := []) (r1 := some (.int v1)) (m1 := m1) rfl h1 ?_
  refine mz_go 6 (c' := (555, [some (.ref 3000), some (.ref 0), some (.ref 65), some (.int (nI i))], [.int ((nI i) + 1), .ref 3000, .ref 65], m1)) rfl ?_
  refine mz_arr (c' := (556, [some (.ref 3000), some (.ref 0), some (.ref 65), some (.int (nI i))], [.int (m1 3000 (((nI i) + 1).toNatClampNeg)), .ref 65], m1)) rfl (show mz_in ((nI i) + 1) (m1 3001 0).toNatClampNeg = true from by rw [e1.2]; exact sm_inN (sm_addN rfl rfl) (show (i + 1) < L by omega) (by omega)) ?_
  rw [show ((nI i) + 1 : Int32).toNatClampNeg = (i + 1) from sm_clN (sm_addN rfl rfl) (show (i + 1) < 2 ^ 31 by omega)]
  rw [show m1 3000 (i + 1) = xs (i + 1) from e1.1 _]
  refine mz_do (R := mz_r170) (as := [.ref 65, .int (xs (i + 1))]) (rest := []) (r1 := some (.int v2)) (m1 := m2) rfl h2 ?_
  refine mz_go 4 (c' := (18, [some (.ref 3000), some (.ref 0), some (.ref 65), some (.int ((nI i) + 6))], [], m2)) rfl ?_
  exact hr
set_option maxHeartbeats 4000000 in
set_option maxRecDepth 100000 in
theorem lwc_untell {xs : Nat → Int32} {L i j : Nat} (hL : L ≤ 384) (hi : i + 6 ≤ L) {m : mz_M} (hj : j < 64) (hI : sm_I j m) (e : (∀ k, m 3000 k = xs k) ∧ (m 3001 0).toNatClampNeg = L) (h : xs i &&& 63 = 9) : ∃ m2, sm_I (j + 1) m2 ∧ ((∀ k, m2 3000 k = xs k) ∧ (m2 3001 0).toNatClampNeg = L) ∧ ∀ r, mz_Ex 101 mz_kL (18, [some (.ref 3000), some (.ref 0), some (.ref 65), some (.int ((nI i) + 6))], [], m2) r → mz_Ex 101 mz_kL (18, [some (.ref 3000), some (.ref 0), some (.ref 65), some (.int (nI i))], [], m) r := by
  obtain ⟨v1, v2, m1, m2, h1, h2, h3, hv⟩ := sc_untell hj hI (xs (i + 1))
  have e1 := lw_eL h1 e
  have e2 := lw_eL h2 e1
  refine ⟨m2, h3, e2, fun r hr => ?_⟩
  refine mz_go 3 (c' := (21, [some (.ref 3000), some (.ref 0), some (.ref 65), some (.int (nI i))], [.int (Int32.ofNat (m 3001 0).toNatClampNeg), .int (nI i)], m)) rfl ?_
  rw [show Int32.ofNat (m 3001 0).toNatClampNeg = nI L from by rw [e.2]; rfl]
  refine mz_go 3 (c' := (if ((nI L) - 6) < (nI i) then 1588 else 27, [some (.ref 3000), some (.ref 0), some (.ref 65), some (.int (nI i))], [], m)) rfl ?_
  refine mz_ifF (show ¬ (((nI L) - 6) < (nI i)) from (sm_law hL (by omega) (by omega))) ?_
  refine mz_go 2 (c' := (29, [some (.ref 3000), some (.ref 0), some (.ref 65), some (.int (nI i))], [.int (nI i), .ref 3000], m)) rfl ?_
  refine mz_arr (c' := (30, [some (.ref 3000), some (.ref 0), some (.ref 65), some (.int (nI i))], [.int (m 3000 ((nI i).toNatClampNeg))], m)) rfl (show mz_in (nI i) (m 3001 0).toNatClampNeg = true from by rw [e.2]; exact sm_inN rfl (show i < L by omega) (by omega)) ?_
  rw [show (nI i : Int32).toNatClampNeg = i from sm_clN rfl (show i < 2 ^ 31 by omega)]
  rw [show m 3000 i = xs i from e.1 _]
  refine mz_go 2 (c' := (33, [some (.ref 3000), some (.ref 0), some (.ref 65), some (.int (nI i))], [.int ((xs i) &&& 63)], m)) rfl ?_
  rw [h]
  refine mz_go 6 (c' := (568, [some (.ref 3000), some (.ref 0), some (.ref 65), some (.int (nI i))], [.int ((nI i) + 1), .ref 3000, .ref 0], m)) rfl ?_
  refine mz_arr (c' := (569, [some (.ref 3000), some (.ref 0), some (.ref 65), some (.int (nI i))], [.int (m 3000 (((nI i) + 1).toNatClampNeg)), .ref 0], m)) rfl (show mz_in ((nI i) + 1) (m 3001 0).toNatClampNeg = true from by rw [e.2]; exact sm_inN (sm_addN rfl rfl) (show (i + 1) < L by omega) (by omega)) ?_
  rw [show ((nI i) + 1 : Int32).toNatClampNeg = (i + 1) from sm_clN (sm_addN rfl rfl) (show (i + 1) < 2 ^ 31 by omega)]
  rw [show m 3000 (i + 1) = xs (i + 1) from e.1 _]
  refine mz_do (R := mz_r76) (as := [.ref 0, .int (xs (i + 1))]) (rest := []) (r1 := some (.int v1)) (m1 := m1) rfl h1 ?_
  refine mz_go 6 (c' := (578, [some (.ref 3000), some (.ref 0), some (.ref 65), some (.int (nI i))], [.int ((nI i) + 1), .ref 3000, .ref 65], m1)) rfl ?_
  refine mz_arr (c' := (579, [some (.ref 3000), some (.ref 0), some (.ref 65), some (.int (nI i))], [.int (m1 3000 (((nI i) + 1).toNatClampNeg)), .ref 65], m1)) rfl (show mz_in ((nI i) + 1) (m1 3001 0).toNatClampNeg = true from by rw [e1.2]; exact sm_inN (sm_addN rfl rfl) (show (i + 1) < L by omega) (by omega)) ?_
  rw [show ((nI i) + 1 : Int32).toNatClampNeg = (i + 1) from sm_clN (sm_addN rfl rfl) (show (i + 1) < 2 ^ 31 by omega)]
  rw [show m1 3000 (i + 1) = xs (i + 1) from e1.1 _]
  refine mz_do (R := mz_r171) (as := [.ref 65, .int (xs (i + 1))]) (rest := []) (r1 := some (.int v2)) (m1 := m2) rfl h2 ?_
  refine mz_go 4 (c' := (18, [some (.ref 3000), some (.ref 0), some (.ref 65), some (.int ((nI i) + 6))], [], m2)) rfl ?_
  exact hr
set_option maxHeartbeats 4000000 in
set_option maxRecDepth 100000 in
theorem lwc_let {xs : Nat → Int32} {L i j : Nat} (hL : L ≤ 384) (hi : i + 6 ≤ L) {m : mz_M} (hj : j < 64) (hI : sm_I j m) (e : (∀ k, m 3000 k = xs k) ∧ (m 3001 0).toNatClampNeg = L) (h : xs i &&& 63 = 10) : ∃ m2, sm_I (j + 1) m2 ∧ ((∀ k, m2 3000 k = xs k) ∧ (m2 3001 0).toNatClampNeg = L) ∧ ∀ r, mz_Ex 101 mz_kL (18, [some (.ref 3000), some (.ref 0), some (.ref 65), some (.int ((nI i) + 6))], [], m2) r → mz_Ex 101 mz_kL (18, [some (.ref 3000), some (.ref 0), some (.ref 65), some (.int (nI i))], [], m) r := by
  obtain ⟨v1, v2, m1, m2, h1, h2, h3, hv⟩ := sc_let hj hI (xs (i + 1)) (xs (i + 2))
  have e1 := lw_eL h1 e
  have e2 := lw_eL h2 e1
  refine ⟨m2, h3, e2, fun r hr => ?_⟩
  refine mz_go 3 (c' := (21, [some (.ref 3000), some (.ref 0), some (.ref 65), some (.int (nI i))], [.int (Int32.ofNat (m 3001 0).toNatClampNeg), .int (nI i)], m)) rfl ?_
  rw [show Int32.ofNat (m 3001 0).toNatClampNeg = nI L from by rw [e.2]; rfl]
  refine mz_go 3 (c' := (if ((nI L) - 6) < (nI i) then 1588 else 27, [some (.ref 3000), some (.ref 0), some (.ref 65), some (.int (nI i))], [], m)) rfl ?_
  refine mz_ifF (show ¬ (((nI L) - 6) < (nI i)) from (sm_law hL (by omega) (by omega))) ?_
  refine mz_go 2 (c' := (29, [some (.ref 3000), some (.ref 0), some (.ref 65), some (.int (nI i))], [.int (nI i), .ref 3000], m)) rfl ?_
  refine mz_arr (c' := (30, [some (.ref 3000), some (.ref 0), some (.ref 65), some (.int (nI i))], [.int (m 3000 ((nI i).toNatClampNeg))], m)) rfl (show mz_in (nI i) (m 3001 0).toNatClampNeg = true from by rw [e.2]; exact sm_inN rfl (show i < L by omega) (by omega)) ?_
  rw [show (nI i : Int32).toNatClampNeg = i from sm_clN rfl (show i < 2 ^ 31 by omega)]
  rw [show m 3000 i = xs i from e.1 _]
  refine mz_go 2 (c' := (33, [some (.ref 3000), some (.ref 0), some (.ref 65), some (.int (nI i))], [.int ((xs i) &&& 63)], m)) rfl ?_
  rw [h]
  refine mz_go 6 (c' := (591, [some (.ref 3000), some (.ref 0), some (.ref 65), some (.int (nI i))], [.int ((nI i) + 1), .ref 3000, .ref 0], m)) rfl ?_
  refine mz_arr (c' := (592, [some (.ref 3000), some (.ref 0), some (.ref 65), some (.int (nI i))], [.int (m 3000 (((nI i) + 1).toNatClampNeg)), .ref 0], m)) rfl (show mz_in ((nI i) + 1) (m 3001 0).toNatClampNeg = true from by rw [e.2]; exact sm_inN (sm_addN rfl rfl) (show (i + 1) < L by omega) (by omega)) ?_
  rw [show ((nI i) + 1 : Int32).toNatClampNeg = (i + 1) from sm_clN (sm_addN rfl rfl) (show (i + 1) < 2 ^ 31 by omega)]
  rw [show m 3000 (i + 1) = xs (i + 1) from e.1 _]
  refine mz_go 4 (c' := (596, [some (.ref 3000), some (.ref 0), some (.ref 65), some (.int (nI i))], [.int ((nI i) + 2), .ref 3000, .int (xs (i + 1)), .ref 0], m)) rfl ?_
  refine mz_arr (c' := (597, [some (.ref 3000), some (.ref 0), some (.ref 65), some (.int (nI i))], [.int (m 3000 (((nI i) + 2).toNatClampNeg)), .int (xs (i + 1)), .ref 0], m)) rfl (show mz_in ((nI i) + 2) (m 3001 0).toNatClampNeg = true from by rw [e.2]; exact sm_inN (sm_addN rfl rfl) (show (i + 2) < L by omega) (by omega)) ?_
  rw [show ((nI i) + 2 : Int32).toNatClampNeg = (i + 2) from sm_clN (sm_addN rfl rfl) (show (i + 2) < 2 ^ 31 by omega)]
  rw [show m 3000 (i + 2) = xs (i + 2) from e.1 _]
  refine mz_do (R := mz_r77) (as := [.ref 0, .int (xs (i + 1)), .int (xs (i + 2))]) (rest := []) (r1 := some (.int v1)) (m1 := m1) rfl h1 ?_
  refine mz_go 6 (c' := (606, [some (.ref 3000), some (.ref 0), some (.ref 65), some (.int (nI i))], [.int ((nI i) + 1), .ref 3000, .ref 65], m1)) rfl ?_
  refine mz_arr (c' := (607, [some (.ref 3000), some (.ref 0), some (.ref 65), some (.int (nI i))], [.int (m1 3000 (((nI i) + 1).toNatClampNeg)), .ref 65], m1)) rfl (show mz_in ((nI i) + 1) (m1 3001 0).toNatClampNeg = true from by rw [e1.2]; exact sm_inN (sm_addN rfl rfl) (show (i + 1) < L by omega) (by omega)) ?_
  rw [show ((nI i) + 1 : Int32).toNatClampNeg = (i + 1) from sm_clN (sm_addN rfl rfl) (show (i + 1) < 2 ^ 31 by omega)]
  rw [show m1 3000 (i + 1) = xs (i + 1) from e1.1 _]
  refine mz_go 4 (c' := (611, [some (.ref 3000), some (.ref 0), some (.ref 65), some (.int (nI i))], [.int ((nI i) + 2), .ref 3000, .int (xs (i + 1)), .ref 65], m1)) rfl ?_
  refine mz_arr (c' := (612, [some (.ref 3000), some (.ref 0), some (.ref 65), some (.int (nI i))], [.int (m1 3000 (((nI i) + 2).toNatClampNeg)), .int (xs (i + 1)), .ref 65], m1)) rfl (show mz_in ((nI i) + 2) (m1 3001 0).toNatClampNeg = true from by rw [e1.2]; exact sm_inN (sm_addN rfl rfl) (show (i + 2) < L by omega) (by omega)) ?_
  rw [show ((nI i) + 2 : Int32).toNatClampNeg = (i + 2) from sm_clN (sm_addN rfl rfl) (show (i + 2) < 2 ^ 31 by omega)]
  rw [show m1 3000 (i + 2) = xs (i + 2) from e1.1 _]
  refine mz_do (R := mz_r174) (as := [.ref 65, .int (xs (i + 1)), .int (xs (i + 2))]) (rest := []) (r1 := some (.int v2)) (m1 := m2) rfl h2 ?_
  refine mz_go 4 (c' := (18, [some (.ref 3000), some (.ref 0), some (.ref 65), some (.int ((nI i) + 6))], [], m2)) rfl ?_
  exact hr
set_option maxHeartbeats 4000000 in
set_option maxRecDepth 100000 in
theorem lwc_push {xs : Nat → Int32} {L i j : Nat} (hL : L ≤ 384) (hi : i + 6 ≤ L) {m : mz_M} (hj : j < 64) (hI : sm_I j m) (e : (∀ k, m 3000 k = xs k) ∧ (m 3001 0).toNatClampNeg = L) (h : xs i &&& 63 = 11) : ∃ m2, sm_I (j + 1) m2 ∧ ((∀ k, m2 3000 k = xs k) ∧ (m2 3001 0).toNatClampNeg = L) ∧ ∀ r, mz_Ex 101 mz_kL (18, [some (.ref 3000), some (.ref 0), some (.ref 65), some (.int ((nI i) + 6))], [], m2) r → mz_Ex 101 mz_kL (18, [some (.ref 3000), some (.ref 0), some (.ref 65), some (.int (nI i))], [], m) r := by
  obtain ⟨v1, v2, m1, m2, h1, h2, h3, hv⟩ := sc_push hj hI (xs (i + 1)) (xs (i + 2))
  have e1 := lw_eL h1 e
  have e2 := lw_eL h2 e1
  refine ⟨m2, h3, e2, fun r hr => ?_⟩
  refine mz_go 3 (c' := (21, [some (.ref 3000), some (.ref 0), some (.ref 65), some (.int (nI i))], [.int (Int32.ofNat (m 3001 0).toNatClampNeg), .int (nI i)], m)) rfl ?_
  rw [show Int32.ofNat (m 3001 0).toNatClampNeg = nI L from by rw [e.2]; rfl]
  refine mz_go 3 (c' := (if ((nI L) - 6) < (nI i) then 1588 else 27, [some (.ref 3000), some (.ref 0), some (.ref 65), some (.int (nI i))], [], m)) rfl ?_
  refine mz_ifF (show ¬ (((nI L) - 6) < (nI i)) from (sm_law hL (by omega) (by omega))) ?_
  refine mz_go 2 (c' := (29, [some (.ref 3000), some (.ref 0), some (.ref 65), some (.int (nI i))], [.int (nI i), .ref 3000], m)) rfl ?_
  refine mz_arr (c' := (30, [some (.ref 3000), some (.ref 0), some (.ref 65), some (.int (nI i))], [.int (m 3000 ((nI i).toNatClampNeg))], m)) rfl (show mz_in (nI i) (m 3001 0).toNatClampNeg = true from by rw [e.2]; exact sm_inN rfl (show i < L by omega) (by omega)) ?_
  rw [show (nI i : Int32).toNatClampNeg = i from sm_clN rfl (show i < 2 ^ 31 by omega)]
  rw [show m 3000 i = xs i from e.1 _]
  refine mz_go 2 (c' := (33, [some (.ref 3000), some (.ref 0), some (.ref 65), some (.int (nI i))], [.int ((xs i) &&& 63)], m)) rfl ?_
  rw [h]
  refine mz_go 6 (c' := (624, [some (.ref 3000), some (.ref 0), some (.ref 65), some (.int (nI i))], [.int ((nI i) + 1), .ref 3000, .ref 0], m)) rfl ?_
  refine mz_arr (c' := (625, [some (.ref 3000), some (.ref 0), some (.ref 65), some (.int (nI i))], [.int (m 3000 (((nI i) + 1).toNatClampNeg)), .ref 0], m)) rfl (show mz_in ((nI i) + 1) (m 3001 0).toNatClampNeg = true from by rw [e.2]; exact sm_inN (sm_addN rfl rfl) (show (i + 1) < L by omega) (by omega)) ?_
  rw [show ((nI i) + 1 : Int32).toNatClampNeg = (i + 1) from sm_clN (sm_addN rfl rfl) (show (i + 1) < 2 ^ 31 by omega)]
  rw [show m 3000 (i + 1) = xs (i + 1) from e.1 _]
  refine mz_go 4 (c' := (629, [some (.ref 3000), some (.ref 0), some (.ref 65), some (.int (nI i))], [.int ((nI i) + 2), .ref 3000, .int (xs (i + 1)), .ref 0], m)) rfl ?_
  refine mz_arr (c' := (630, [some (.ref 3000), some (.ref 0), some (.ref 65), some (.int (nI i))], [.int (m 3000 (((nI i) + 2).toNatClampNeg)), .int (xs (i + 1)), .ref 0], m)) rfl (show mz_in ((nI i) + 2) (m 3001 0).toNatClampNeg = true from by rw [e.2]; exact sm_inN (sm_addN rfl rfl) (show (i + 2) < L by omega) (by omega)) ?_
  rw [show ((nI i) + 2 : Int32).toNatClampNeg = (i + 2) from sm_clN (sm_addN rfl rfl) (show (i + 2) < 2 ^ 31 by omega)]
  rw [show m 3000 (i + 2) = xs (i + 2) from e.1 _]
  refine mz_do (R := mz_r78) (as := [.ref 0, .int (xs (i + 1)), .int (xs (i + 2))]) (rest := []) (r1 := some (.int v1)) (m1 := m1) rfl h1 ?_
  refine mz_go 6 (c' := (639, [some (.ref 3000), some (.ref 0), some (.ref 65), some (.int (nI i))], [.int ((nI i) + 1), .ref 3000, .ref 65], m1)) rfl ?_
  refine mz_arr (c' := (640, [some (.ref 3000), some (.ref 0), some (.ref 65), some (.int (nI i))], [.int (m1 3000 (((nI i) + 1).toNatClampNeg)), .ref 65], m1)) rfl (show mz_in ((nI i) + 1) (m1 3001 0).toNatClampNeg = true from by rw [e1.2]; exact sm_inN (sm_addN rfl rfl) (show (i + 1) < L by omega) (by omega)) ?_
  rw [show ((nI i) + 1 : Int32).toNatClampNeg = (i + 1) from sm_clN (sm_addN rfl rfl) (show (i + 1) < 2 ^ 31 by omega)]
  rw [show m1 3000 (i + 1) = xs (i + 1) from e1.1 _]
  refine mz_go 4 (c' := (644, [some (.ref 3000), some (.ref 0), some (.ref 65), some (.int (nI i))], [.int ((nI i) + 2), .ref 3000, .int (xs (i + 1)), .ref 65], m1)) rfl ?_
  refine mz_arr (c' := (645, [some (.ref 3000), some (.ref 0), some (.ref 65), some (.int (nI i))], [.int (m1 3000 (((nI i) + 2).toNatClampNeg)), .int (xs (i + 1)), .ref 65], m1)) rfl (show mz_in ((nI i) + 2) (m1 3001 0).toNatClampNeg = true from by rw [e1.2]; exact sm_inN (sm_addN rfl rfl) (show (i + 2) < L by omega) (by omega)) ?_
  rw [show ((nI i) + 2 : Int32).toNatClampNeg = (i + 2) from sm_clN (sm_addN rfl rfl) (show (i + 2) < 2 ^ 31 by omega)]
  rw [show m1 3000 (i + 2) = xs (i + 2) from e1.1 _]
  refine mz_do (R := mz_r176) (as := [.ref 65, .int (xs (i + 1)), .int (xs (i + 2))]) (rest := []) (r1 := some (.int v2)) (m1 := m2) rfl h2 ?_
  refine mz_go 4 (c' := (18, [some (.ref 3000), some (.ref 0), some (.ref 65), some (.int ((nI i) + 6))], [], m2)) rfl ?_
  exact hr
set_option maxHeartbeats 4000000 in
set_option maxRecDepth 100000 in
theorem lwc_tick {xs : Nat → Int32} {L i j : Nat} (hL : L ≤ 384) (hi : i + 6 ≤ L) {m : mz_M} (hj : j < 64) (hI : sm_I j m) (e : (∀ k, m 3000 k = xs k) ∧ (m 3001 0).toNatClampNeg = L) (h : xs i &&& 63 = 12) : ∃ m2, sm_I (j + 1) m2 ∧ ((∀ k, m2 3000 k = xs k) ∧ (m2 3001 0).toNatClampNeg = L) ∧ ∀ r, mz_Ex 101 mz_kL (18, [some (.ref 3000), some (.ref 0), some (.ref 65), some (.int ((nI i) + 6))], [], m2) r → mz_Ex 101 mz_kL (18, [some (.ref 3000), some (.ref 0), some (.ref 65), some (.int (nI i))], [], m) r := by
  obtain ⟨v1, v2, m1, m2, h1, h2, h3, hv⟩ := sc_tick hj hI (xs (i + 1))
  have e1 := lw_eL h1 e
  have e2 := lw_eL h2 e1
  refine ⟨m2, h3, e2, fun r hr => ?_⟩
  refine mz_go 3 (c' := (21, [some (.ref 3000), some (.ref 0), some (.ref 65), some (.int (nI i))], [.int (Int32.ofNat (m 3001 0).toNatClampNeg), .int (nI i)], m)) rfl ?_
  rw [show Int32.ofNat (m 3001 0).toNatClampNeg = nI L from by rw [e.2]; rfl]
  refine mz_go 3 (c' := (if ((nI L) - 6) < (nI i) then 1588 else 27, [some (.ref 3000), some (.ref 0), some (.ref 65), some (.int (nI i))], [], m)) rfl ?_
  refine mz_ifF (show ¬ (((nI L) - 6) < (nI i)) from (sm_law hL (by omega) (by omega))) ?_
  refine mz_go 2 (c' := (29, [some (.ref 3000), some (.ref 0), some (.ref 65), some (.int (nI i))], [.int (nI i), .ref 3000], m)) rfl ?_
  refine mz_arr (c' := (30, [some (.ref 3000), some (.ref 0), some (.ref 65), some (.int (nI i))], [.int (m 3000 ((nI i).toNatClampNeg))], m)) rfl (show mz_in (nI i) (m 3001 0).toNatClampNeg = true from by rw [e.2]; exact sm_inN rfl (show i < L by omega) (by omega)) ?_
  rw [show (nI i : Int32).toNatClampNeg = i from sm_clN rfl (show i < 2 ^ 31 by omega)]
  rw [show m 3000 i = xs i from e.1 _]
  refine mz_go 2 (c' := (33, [some (.ref 3000), some (.ref 0), some (.ref 65), some (.int (nI i))], [.int ((xs i) &&& 63)], m)) rfl ?_
  rw [h]
  refine mz_go 6 (c' := (657, [some (.ref 3000), some (.ref 0), some (.ref 65), some (.int (nI i))], [.int ((nI i) + 1), .ref 3000, .ref 0], m)) rfl ?_
  refine mz_arr (c' := (658, [some (.ref 3000), some (.ref 0), some (.ref 65), some (.int (nI i))], [.int (m 3000 (((nI i) + 1).toNatClampNeg)), .ref 0], m)) rfl (show mz_in ((nI i) + 1) (m 3001 0).toNatClampNeg = true from by rw [e.2]; exact sm_inN (sm_addN rfl rfl) (show (i + 1) < L by omega) (by omega)) ?_
  rw [show ((nI i) + 1 : Int32).toNatClampNeg = (i + 1) from sm_clN (sm_addN rfl rfl) (show (i + 1) < 2 ^ 31 by omega)]
  rw [show m 3000 (i + 1) = xs (i + 1) from e.1 _]
  refine mz_do (R := mz_r79) (as := [.ref 0, .int (xs (i + 1))]) (rest := []) (r1 := some (.int v1)) (m1 := m1) rfl h1 ?_
  refine mz_go 6 (c' := (667, [some (.ref 3000), some (.ref 0), some (.ref 65), some (.int (nI i))], [.int ((nI i) + 1), .ref 3000, .ref 65], m1)) rfl ?_
  refine mz_arr (c' := (668, [some (.ref 3000), some (.ref 0), some (.ref 65), some (.int (nI i))], [.int (m1 3000 (((nI i) + 1).toNatClampNeg)), .ref 65], m1)) rfl (show mz_in ((nI i) + 1) (m1 3001 0).toNatClampNeg = true from by rw [e1.2]; exact sm_inN (sm_addN rfl rfl) (show (i + 1) < L by omega) (by omega)) ?_
  rw [show ((nI i) + 1 : Int32).toNatClampNeg = (i + 1) from sm_clN (sm_addN rfl rfl) (show (i + 1) < 2 ^ 31 by omega)]
  rw [show m1 3000 (i + 1) = xs (i + 1) from e1.1 _]
  refine mz_do (R := mz_r177) (as := [.ref 65, .int (xs (i + 1))]) (rest := []) (r1 := some (.int v2)) (m1 := m2) rfl h2 ?_
  refine mz_go 4 (c' := (18, [some (.ref 3000), some (.ref 0), some (.ref 65), some (.int ((nI i) + 6))], [], m2)) rfl ?_
  exact hr
set_option maxHeartbeats 4000000 in
set_option maxRecDepth 100000 in
theorem lwc_bob {xs : Nat → Int32} {L i j : Nat} (hL : L ≤ 384) (hi : i + 6 ≤ L) {m : mz_M} (hj : j < 64) (hI : sm_I j m) (e : (∀ k, m 3000 k = xs k) ∧ (m 3001 0).toNatClampNeg = L) (h : xs i &&& 63 = 13) : ∃ m2, sm_I (j + 1) m2 ∧ ((∀ k, m2 3000 k = xs k) ∧ (m2 3001 0).toNatClampNeg = L) ∧ ∀ r, mz_Ex 101 mz_kL (18, [some (.ref 3000), some (.ref 0), some (.ref 65), some (.int ((nI i) + 6))], [], m2) r → mz_Ex 101 mz_kL (18, [some (.ref 3000), some (.ref 0), some (.ref 65), some (.int (nI i))], [], m) r := by
  obtain ⟨v1, v2, m1, m2, h1, h2, h3, hv⟩ := sc_bob hj hI (xs (i + 1))
  have e1 := lw_eL h1 e
  have e2 := lw_eL h2 e1
  refine ⟨m2, h3, e2, fun r hr => ?_⟩
  refine mz_go 3 (c' := (21, [some (.ref 3000), some (.ref 0), some (.ref 65), some (.int (nI i))], [.int (Int32.ofNat (m 3001 0).toNatClampNeg), .int (nI i)], m)) rfl ?_
  rw [show Int32.ofNat (m 3001 0).toNatClampNeg = nI L from by rw [e.2]; rfl]
  refine mz_go 3 (c' := (if ((nI L) - 6) < (nI i) then 1588 else 27, [some (.ref 3000), some (.ref 0), some (.ref 65), some (.int (nI i))], [], m)) rfl ?_
  refine mz_ifF (show ¬ (((nI L) - 6) < (nI i)) from (sm_law hL (by omega) (by omega))) ?_
  refine mz_go 2 (c' := (29, [some (.ref 3000), some (.ref 0), some (.ref 65), some (.int (nI i))], [.int (nI i), .ref 3000], m)) rfl ?_
  refine mz_arr (c' := (30, [some (.ref 3000), some (.ref 0), some (.ref 65), some (.int (nI i))], [.int (m 3000 ((nI i).toNatClampNeg))], m)) rfl (show mz_in (nI i) (m 3001 0).toNatClampNeg = true from by rw [e.2]; exact sm_inN rfl (show i < L by omega) (by omega)) ?_
  rw [show (nI i : Int32).toNatClampNeg = i from sm_clN rfl (show i < 2 ^ 31 by omega)]
  rw [show m 3000 i = xs i from e.1 _]
  refine mz_go 2 (c' := (33, [some (.ref 3000), some (.ref 0), some (.ref 65), some (.int (nI i))], [.int ((xs i) &&& 63)], m)) rfl ?_
  rw [h]
  refine mz_go 6 (c' := (680, [some (.ref 3000), some (.ref 0), some (.ref 65), some (.int (nI i))], [.int ((nI i) + 1), .ref 3000, .ref 0], m)) rfl ?_
  refine mz_arr (c' := (681, [some (.ref 3000), some (.ref 0), some (.ref 65), some (.int (nI i))], [.int (m 3000 (((nI i) + 1).toNatClampNeg)), .ref 0], m)) rfl (show mz_in ((nI i) + 1) (m 3001 0).toNatClampNeg = true from by rw [e.2]; exact sm_inN (sm_addN rfl rfl) (show (i + 1) < L by omega) (by omega)) ?_
  rw [show ((nI i) + 1 : Int32).toNatClampNeg = (i + 1) from sm_clN (sm_addN rfl rfl) (show (i + 1) < 2 ^ 31 by omega)]
  rw [show m 3000 (i + 1) = xs (i + 1) from e.1 _]
  refine mz_do (R := mz_r80) (as := [.ref 0, .int (xs (i + 1))]) (rest := []) (r1 := some (.int v1)) (m1 := m1) rfl h1 ?_
  refine mz_go 6 (c' := (690, [some (.ref 3000), some (.ref 0), some (.ref 65), some (.int (nI i))], [.int ((nI i) + 1), .ref 3000, .ref 65], m1)) rfl ?_
  refine mz_arr (c' := (691, [some (.ref 3000), some (.ref 0), some (.ref 65), some (.int (nI i))], [.int (m1 3000 (((nI i) + 1).toNatClampNeg)), .ref 65], m1)) rfl (show mz_in ((nI i) + 1) (m1 3001 0).toNatClampNeg = true from by rw [e1.2]; exact sm_inN (sm_addN rfl rfl) (show (i + 1) < L by omega) (by omega)) ?_
  rw [show ((nI i) + 1 : Int32).toNatClampNeg = (i + 1) from sm_clN (sm_addN rfl rfl) (show (i + 1) < 2 ^ 31 by omega)]
  rw [show m1 3000 (i + 1) = xs (i + 1) from e1.1 _]
  refine mz_do (R := mz_r178) (as := [.ref 65, .int (xs (i + 1))]) (rest := []) (r1 := some (.int v2)) (m1 := m2) rfl h2 ?_
  refine mz_go 4 (c' := (18, [some (.ref 3000), some (.ref 0), some (.ref 65), some (.int ((nI i) + 6))], [], m2)) rfl ?_
  exact hr
set_option maxHeartbeats 4000000 in
set_option maxRecDepth 100000 in
theorem lwc_ends {xs : Nat → Int32} {L i j : Nat} (hL : L ≤ 384) (hi : i + 6 ≤ L) {m : mz_M} (hj : j < 64) (hI : sm_I j m) (e : (∀ k, m 3000 k = xs k) ∧ (m 3001 0).toNatClampNeg = L) (h : xs i &&& 63 = 14) : ∃ m2, sm_I (j + 1) m2 ∧ ((∀ k, m2 3000 k = xs k) ∧ (m2 3001 0).toNatClampNeg = L) ∧ ∀ r, mz_Ex 101 mz_kL (18, [some (.ref 3000), some (.ref 0), some (.ref 65), some (.int ((nI i) + 6))], [], m2) r → mz_Ex 101 mz_kL (18, [some (.ref 3000), some (.ref 0), some (.ref 65), some (.int (nI i))], [], m) r := by
  obtain ⟨v1, v2, m1, m2, h1, h2, h3, hv⟩ := sc_ends hj hI (xs (i + 1)) (xs (i + 2)) (xs (i + 3)) (xs (i + 4))
  have e1 := lw_eL h1 e
  have e2 := lw_eL h2 e1
  refine ⟨m2, h3, e2, fun r hr => ?_⟩
  refine mz_go 3 (c' := (21, [some (.ref 3000), some (.ref 0), some (.ref 65), some (.int (nI i))], [.int (Int32.ofNat (m 3001 0).toNatClampNeg), .int (nI i)], m)) rfl ?_
  rw [show Int32.ofNat (m 3001 0).toNatClampNeg = nI L from by rw [e.2]; rfl]
  refine mz_go 3 (c' := (if ((nI L) - 6) < (nI i) then 1588 else 27, [some (.ref 3000), some (.ref 0), some (.ref 65), some (.int (nI i))], [], m)) rfl ?_
  refine mz_ifF (show ¬ (((nI L) - 6) < (nI i)) from (sm_law hL (by omega) (by omega))) ?_
  refine mz_go 2 (c' := (29, [some (.ref 3000), some (.ref 0), some (.ref 65), some (.int (nI i))], [.int (nI i), .ref 3000], m)) rfl ?_
  refine mz_arr (c' := (30, [some (.ref 3000), some (.ref 0), some (.ref 65), some (.int (nI i))], [.int (m 3000 ((nI i).toNatClampNeg))], m)) rfl (show mz_in (nI i) (m 3001 0).toNatClampNeg = true from by rw [e.2]; exact sm_inN rfl (show i < L by omega) (by omega)) ?_
  rw [show (nI i : Int32).toNatClampNeg = i from sm_clN rfl (show i < 2 ^ 31 by omega)]
  rw [show m 3000 i = xs i from e.1 _]
  refine mz_go 2 (c' := (33, [some (.ref 3000), some (.ref 0), some (.ref 65), some (.int (nI i))], [.int ((xs i) &&& 63)], m)) rfl ?_
  rw [h]
  refine mz_go 6 (c' := (703, [some (.ref 3000), some (.ref 0), some (.ref 65), some (.int (nI i))], [.int ((nI i) + 1), .ref 3000, .ref 0], m)) rfl ?_
  refine mz_arr (c' := (704, [some (.ref 3000), some (.ref 0), some (.ref 65), some (.int (nI i))], [.int (m 3000 (((nI i) + 1).toNatClampNeg)), .ref 0], m)) rfl (show mz_in ((nI i) + 1) (m 3001 0).toNatClampNeg = true from by rw [e.2]; exact sm_inN (sm_addN rfl rfl) (show (i + 1) < L by omega) (by omega)) ?_
  rw [show ((nI i) + 1 : Int32).toNatClampNeg = (i + 1) from sm_clN (sm_addN rfl rfl) (show (i + 1) < 2 ^ 31 by omega)]
  rw [show m 3000 (i + 1) = xs (i + 1) from e.1 _]
  refine mz_go 4 (c' := (708, [some (.ref 3000), some (.ref 0), some (.ref 65), some (.int (nI i))], [.int ((nI i) + 2), .ref 3000, .int (xs (i + 1)), .ref 0], m)) rfl ?_
  refine mz_arr (c' := (709, [some (.ref 3000), some (.ref 0), some (.ref 65), some (.int (nI i))], [.int (m 3000 (((nI i) + 2).toNatClampNeg)), .int (xs (i + 1)), .ref 0], m)) rfl (show mz_in ((nI i) + 2) (m 3001 0).toNatClampNeg = true from by rw [e.2]; exact sm_inN (sm_addN rfl rfl) (show (i + 2) < L by omega) (by omega)) ?_
  rw [show ((nI i) + 2 : Int32).toNatClampNeg = (i + 2) from sm_clN (sm_addN rfl rfl) (show (i + 2) < 2 ^ 31 by omega)]
  rw [show m 3000 (i + 2) = xs (i + 2) from e.1 _]
  refine mz_go 4 (c' := (713, [some (.ref 3000), some (.ref 0), some (.ref 65), some (.int (nI i))], [.int ((nI i) + 3), .ref 3000, .int (xs (i + 2)), .int (xs (i + 1)), .ref 0], m)) rfl ?_
  refine mz_arr (c' := (714, [some (.ref 3000), some (.ref 0), some (.ref 65), some (.int (nI i))], [.int (m 3000 (((nI i) + 3).toNatClampNeg)), .int (xs (i + 2)), .int (xs (i + 1)), .ref 0], m)) rfl (show mz_in ((nI i) + 3) (m 3001 0).toNatClampNeg = true from by rw [e.2]; exact sm_inN (sm_addN rfl rfl) (show (i + 3) < L by omega) (by omega)) ?_
  rw [show ((nI i) + 3 : Int32).toNatClampNeg = (i + 3) from sm_clN (sm_addN rfl rfl) (show (i + 3) < 2 ^ 31 by omega)]
  rw [show m 3000 (i + 3) = xs (i + 3) from e.1 _]
  refine mz_go 4 (c' := (718, [some (.ref 3000), some (.ref 0), some (.ref 65), some (.int (nI i))], [.int ((nI i) + 4), .ref 3000, .int (xs (i + 3)), .int (xs (i + 2)), .int (xs (i + 1)), .ref 0], m)) rfl ?_
  refine mz_arr (c' := (719, [some (.ref 3000), some (.ref 0), some (.ref 65), some (.int (nI i))], [.int (m 3000 (((nI i) + 4).toNatClampNeg)), .int (xs (i + 3)), .int (xs (i + 2)), .int (xs (i + 1)), .ref 0], m)) rfl (show mz_in ((nI i) + 4) (m 3001 0).toNatClampNeg = true from by rw [e.2]; exact sm_inN (sm_addN rfl rfl) (show (i + 4) < L by omega) (by omega)) ?_
  rw [show ((nI i) + 4 : Int32).toNatClampNeg = (i + 4) from sm_clN (sm_addN rfl rfl) (show (i + 4) < 2 ^ 31 by omega)]
  rw [show m 3000 (i + 4) = xs (i + 4) from e.1 _]
  refine mz_do (R := mz_r81) (as := [.ref 0, .int (xs (i + 1)), .int (xs (i + 2)), .int (xs (i + 3)), .int (xs (i + 4))]) (rest := []) (r1 := some (.int v1)) (m1 := m1) rfl h1 ?_
  refine mz_go 6 (c' := (728, [some (.ref 3000), some (.ref 0), some (.ref 65), some (.int (nI i))], [.int ((nI i) + 1), .ref 3000, .ref 65], m1)) rfl ?_
  refine mz_arr (c' := (729, [some (.ref 3000), some (.ref 0), some (.ref 65), some (.int (nI i))], [.int (m1 3000 (((nI i) + 1).toNatClampNeg)), .ref 65], m1)) rfl (show mz_in ((nI i) + 1) (m1 3001 0).toNatClampNeg = true from by rw [e1.2]; exact sm_inN (sm_addN rfl rfl) (show (i + 1) < L by omega) (by omega)) ?_
  rw [show ((nI i) + 1 : Int32).toNatClampNeg = (i + 1) from sm_clN (sm_addN rfl rfl) (show (i + 1) < 2 ^ 31 by omega)]
  rw [show m1 3000 (i + 1) = xs (i + 1) from e1.1 _]
  refine mz_go 4 (c' := (733, [some (.ref 3000), some (.ref 0), some (.ref 65), some (.int (nI i))], [.int ((nI i) + 2), .ref 3000, .int (xs (i + 1)), .ref 65], m1)) rfl ?_
  refine mz_arr (c' := (734, [some (.ref 3000), some (.ref 0), some (.ref 65), some (.int (nI i))], [.int (m1 3000 (((nI i) + 2).toNatClampNeg)), .int (xs (i + 1)), .ref 65], m1)) rfl (show mz_in ((nI i) + 2) (m1 3001 0).toNatClampNeg = true from by rw [e1.2]; exact sm_inN (sm_addN rfl rfl) (show (i + 2) < L by omega) (by omega)) ?_
  rw [show ((nI i) + 2 : Int32).toNatClampNeg = (i + 2) from sm_clN (sm_addN rfl rfl) (show (i + 2) < 2 ^ 31 by omega)]
  rw [show m1 3000 (i + 2) = xs (i + 2) from e1.1 _]
  refine mz_go 4 (c' := (738, [some (.ref 3000), some (.ref 0), some (.ref 65), some (.int (nI i))], [.int ((nI i) + 3), .ref 3000, .int (xs (i + 2)), .int (xs (i + 1)), .ref 65], m1)) rfl ?_
  refine mz_arr (c' := (739, [some (.ref 3000), some (.ref 0), some (.ref 65), some (.int (nI i))], [.int (m1 3000 (((nI i) + 3).toNatClampNeg)), .int (xs (i + 2)), .int (xs (i + 1)), .ref 65], m1)) rfl (show mz_in ((nI i) + 3) (m1 3001 0).toNatClampNeg = true from by rw [e1.2]; exact sm_inN (sm_addN rfl rfl) (show (i + 3) < L by omega) (by omega)) ?_
  rw [show ((nI i) + 3 : Int32).toNatClampNeg = (i + 3) from sm_clN (sm_addN rfl rfl) (show (i + 3) < 2 ^ 31 by omega)]
  rw [show m1 3000 (i + 3) = xs (i + 3) from e1.1 _]
  refine mz_go 4 (c' := (743, [some (.ref 3000), some (.ref 0), some (.ref 65), some (.int (nI i))], [.int ((nI i) + 4), .ref 3000, .int (xs (i + 3)), .int (xs (i + 2)), .int (xs (i + 1)), .ref 65], m1)) rfl ?_
  refine mz_arr (c' := (744, [some (.ref 3000), some (.ref 0), some (.ref 65), some (.int (nI i))], [.int (m1 3000 (((nI i) + 4).toNatClampNeg)), .int (xs (i + 3)), .int (xs (i + 2)), .int (xs (i + 1)), .ref 65], m1)) rfl (show mz_in ((nI i) + 4) (m1 3001 0).toNatClampNeg = true from by rw [e1.2]; exact sm_inN (sm_addN rfl rfl) (show (i + 4) < L by omega) (by omega)) ?_
  rw [show ((nI i) + 4 : Int32).toNatClampNeg = (i + 4) from sm_clN (sm_addN rfl rfl) (show (i + 4) < 2 ^ 31 by omega)]
  rw [show m1 3000 (i + 4) = xs (i + 4) from e1.1 _]
  refine mz_do (R := mz_r179) (as := [.ref 65, .int (xs (i + 1)), .int (xs (i + 2)), .int (xs (i + 3)), .int (xs (i + 4))]) (rest := []) (r1 := some (.int v2)) (m1 := m2) rfl h2 ?_
  refine mz_go 4 (c' := (18, [some (.ref 3000), some (.ref 0), some (.ref 65), some (.int ((nI i) + 6))], [], m2)) rfl ?_
  exact hr
set_option maxHeartbeats 4000000 in
set_option maxRecDepth 100000 in
theorem lwc_length {xs : Nat → Int32} {L i j : Nat} (hL : L ≤ 384) (hi : i + 6 ≤ L) {m : mz_M} (hj : j < 64) (hI : sm_I j m) (e : (∀ k, m 3000 k = xs k) ∧ (m 3001 0).toNatClampNeg = L) (h : xs i &&& 63 = 15) : ∃ m2, sm_I (j + 1) m2 ∧ ((∀ k, m2 3000 k = xs k) ∧ (m2 3001 0).toNatClampNeg = L) ∧ ∀ r, mz_Ex 101 mz_kL (18, [some (.ref 3000), some (.ref 0), some (.ref 65), some (.int ((nI i) + 6))], [], m2) r → mz_Ex 101 mz_kL (18, [some (.ref 3000), some (.ref 0), some (.ref 65), some (.int (nI i))], [], m) r := by
  obtain ⟨v1, v2, m1, m2, h1, h2, h3, hv⟩ := sc_length hj hI (xs (i + 1)) (xs (i + 2))
  have e1 := lw_eL h1 e
  have e2 := lw_eL h2 e1
  refine ⟨m2, h3, e2, fun r hr => ?_⟩
  refine mz_go 3 (c' := (21, [some (.ref 3000), some (.ref 0), some (.ref 65), some (.int (nI i))], [.int (Int32.ofNat (m 3001 0).toNatClampNeg), .int (nI i)], m)) rfl ?_
  rw [show Int32.ofNat (m 3001 0).toNatClampNeg = nI L from by rw [e.2]; rfl]
  refine mz_go 3 (c' := (if ((nI L) - 6) < (nI i) then 1588 else 27, [some (.ref 3000), some (.ref 0), some (.ref 65), some (.int (nI i))], [], m)) rfl ?_
  refine mz_ifF (show ¬ (((nI L) - 6) < (nI i)) from (sm_law hL (by omega) (by omega))) ?_
  refine mz_go 2 (c' := (29, [some (.ref 3000), some (.ref 0), some (.ref 65), some (.int (nI i))], [.int (nI i), .ref 3000], m)) rfl ?_
  refine mz_arr (c' := (30, [some (.ref 3000), some (.ref 0), some (.ref 65), some (.int (nI i))], [.int (m 3000 ((nI i).toNatClampNeg))], m)) rfl (show mz_in (nI i) (m 3001 0).toNatClampNeg = true from by rw [e.2]; exact sm_inN rfl (show i < L by omega) (by omega)) ?_
  rw [show (nI i : Int32).toNatClampNeg = i from sm_clN rfl (show i < 2 ^ 31 by omega)]
  rw [show m 3000 i = xs i from e.1 _]
  refine mz_go 2 (c' := (33, [some (.ref 3000), some (.ref 0), some (.ref 65), some (.int (nI i))], [.int ((xs i) &&& 63)], m)) rfl ?_
  rw [h]
  refine mz_go 6 (c' := (756, [some (.ref 3000), some (.ref 0), some (.ref 65), some (.int (nI i))], [.int ((nI i) + 1), .ref 3000, .ref 0], m)) rfl ?_
  refine mz_arr (c' := (757, [some (.ref 3000), some (.ref 0), some (.ref 65), some (.int (nI i))], [.int (m 3000 (((nI i) + 1).toNatClampNeg)), .ref 0], m)) rfl (show mz_in ((nI i) + 1) (m 3001 0).toNatClampNeg = true from by rw [e.2]; exact sm_inN (sm_addN rfl rfl) (show (i + 1) < L by omega) (by omega)) ?_
  rw [show ((nI i) + 1 : Int32).toNatClampNeg = (i + 1) from sm_clN (sm_addN rfl rfl) (show (i + 1) < 2 ^ 31 by omega)]
  rw [show m 3000 (i + 1) = xs (i + 1) from e.1 _]
  refine mz_go 4 (c' := (761, [some (.ref 3000), some (.ref 0), some (.ref 65), some (.int (nI i))], [.int ((nI i) + 2), .ref 3000, .int (xs (i + 1)), .ref 0], m)) rfl ?_
  refine mz_arr (c' := (762, [some (.ref 3000), some (.ref 0), some (.ref 65), some (.int (nI i))], [.int (m 3000 (((nI i) + 2).toNatClampNeg)), .int (xs (i + 1)), .ref 0], m)) rfl (show mz_in ((nI i) + 2) (m 3001 0).toNatClampNeg = true from by rw [e.2]; exact sm_inN (sm_addN rfl rfl) (show (i + 2) < L by omega) (by omega)) ?_
  rw [show ((nI i) + 2 : Int32).toNatClampNeg = (i + 2) from sm_clN (sm_addN rfl rfl) (show (i + 2) < 2 ^ 31 by omega)]
  rw [show m 3000 (i + 2) = xs (i + 2) from e.1 _]
  refine mz_do (R := mz_r82) (as := [.ref 0, .int (xs (i + 1)), .int (xs (i + 2))]) (rest := []) (r1 := some (.int v1)) (m1 := m1) rfl h1 ?_
  refine mz_go 6 (c' := (771, [some (.ref 3000), some (.ref 0), some (.ref 65), some (.int (nI i))], [.int ((nI i) + 1), .ref 3000, .ref 65], m1)) rfl ?_
  refine mz_arr (c' := (772, [some (.ref 3000), some (.ref 0), some (.ref 65), some (.int (nI i))], [.int (m1 3000 (((nI i) + 1).toNatClampNeg)), .ref 65], m1)) rfl (show mz_in ((nI i) + 1) (m1 3001 0).toNatClampNeg = true from by rw [e1.2]; exact sm_inN (sm_addN rfl rfl) (show (i + 1) < L by omega) (by omega)) ?_
  rw [show ((nI i) + 1 : Int32).toNatClampNeg = (i + 1) from sm_clN (sm_addN rfl rfl) (show (i + 1) < 2 ^ 31 by omega)]
  rw [show m1 3000 (i + 1) = xs (i + 1) from e1.1 _]
  refine mz_go 4 (c' := (776, [some (.ref 3000), some (.ref 0), some (.ref 65), some (.int (nI i))], [.int ((nI i) + 2), .ref 3000, .int (xs (i + 1)), .ref 65], m1)) rfl ?_
  refine mz_arr (c' := (777, [some (.ref 3000), some (.ref 0), some (.ref 65), some (.int (nI i))], [.int (m1 3000 (((nI i) + 2).toNatClampNeg)), .int (xs (i + 1)), .ref 65], m1)) rfl (show mz_in ((nI i) + 2) (m1 3001 0).toNatClampNeg = true from by rw [e1.2]; exact sm_inN (sm_addN rfl rfl) (show (i + 2) < L by omega) (by omega)) ?_
  rw [show ((nI i) + 2 : Int32).toNatClampNeg = (i + 2) from sm_clN (sm_addN rfl rfl) (show (i + 2) < 2 ^ 31 by omega)]
  rw [show m1 3000 (i + 2) = xs (i + 2) from e1.1 _]
  refine mz_do (R := mz_r180) (as := [.ref 65, .int (xs (i + 1)), .int (xs (i + 2))]) (rest := []) (r1 := some (.int v2)) (m1 := m2) rfl h2 ?_
  refine mz_go 4 (c' := (18, [some (.ref 3000), some (.ref 0), some (.ref 65), some (.int ((nI i) + 6))], [], m2)) rfl ?_
  exact hr
set_option maxHeartbeats 4000000 in
set_option maxRecDepth 100000 in
theorem lwc_doubt {xs : Nat → Int32} {L i j : Nat} (hL : L ≤ 384) (hi : i + 6 ≤ L) {m : mz_M} (hj : j < 64) (hI : sm_I j m) (e : (∀ k, m 3000 k = xs k) ∧ (m 3001 0).toNatClampNeg = L) (h : xs i &&& 63 = 16) : ∃ m2, sm_I (j + 1) m2 ∧ ((∀ k, m2 3000 k = xs k) ∧ (m2 3001 0).toNatClampNeg = L) ∧ ∀ r, mz_Ex 101 mz_kL (18, [some (.ref 3000), some (.ref 0), some (.ref 65), some (.int ((nI i) + 6))], [], m2) r → mz_Ex 101 mz_kL (18, [some (.ref 3000), some (.ref 0), some (.ref 65), some (.int (nI i))], [], m) r := by
  obtain ⟨v1, v2, m1, m2, h1, h2, h3, hv⟩ := sc_doubt hj hI (xs (i + 1)) (xs (i + 2))
  have e1 := lw_eL h1 e
  have e2 := lw_eL h2 e1
  refine ⟨m2, h3, e2, fun r hr => ?_⟩
  refine mz_go 3 (c' := (21, [some (.ref 3000), some (.ref 0), some (.ref 65), some (.int (nI i))], [.int (Int32.ofNat (m 3001 0).toNatClampNeg), .int (nI i)], m)) rfl ?_
  rw [show Int32.ofNat (m 3001 0).toNatClampNeg = nI L from by rw [e.2]; rfl]
  refine mz_go 3 (c' := (if ((nI L) - 6) < (nI i) then 1588 else 27, [some (.ref 3000), some (.ref 0), some (.ref 65), some (.int (nI i))], [], m)) rfl ?_
  refine mz_ifF (show ¬ (((nI L) - 6) < (nI i)) from (sm_law hL (by omega) (by omega))) ?_
  refine mz_go 2 (c' := (29, [some (.ref 3000), some (.ref 0), some (.ref 65), some (.int (nI i))], [.int (nI i), .ref 3000], m)) rfl ?_
  refine mz_arr (c' := (30, [some (.ref 3000), some (.ref 0), some (.ref 65), some (.int (nI i))], [.int (m 3000 ((nI i).toNatClampNeg))], m)) rfl (show mz_in (nI i) (m 3001 0).toNatClampNeg = true from by rw [e.2]; exact sm_inN rfl (show i < L by omega) (by omega)) ?_
  rw [show (nI i : Int32).toNatClampNeg = i from sm_clN rfl (show i < 2 ^ 31 by omega)]
  rw [show m 3000 i = xs i from e.1 _]
  refine mz_go 2 (c' := (33, [some (.ref 3000), some (.ref 0), some (.ref 65), some (.int (nI i))], [.int ((xs i) &&& 63)], m)) rfl ?_
  rw [h]
  refine mz_go 6 (c' := (789, [some (.ref 3000), some (.ref 0), some (.ref 65), some (.int (nI i))], [.int ((nI i) + 1), .ref 3000, .ref 0], m)) rfl ?_
  refine mz_arr (c' := (790, [some (.ref 3000), some (.ref 0), some (.ref 65), some (.int (nI i))], [.int (m 3000 (((nI i) + 1).toNatClampNeg)), .ref 0], m)) rfl (show mz_in ((nI i) + 1) (m 3001 0).toNatClampNeg = true from by rw [e.2]; exact sm_inN (sm_addN rfl rfl) (show (i + 1) < L by omega) (by omega)) ?_
  rw [show ((nI i) + 1 : Int32).toNatClampNeg = (i + 1) from sm_clN (sm_addN rfl rfl) (show (i + 1) < 2 ^ 31 by omega)]
  rw [show m 3000 (i + 1) = xs (i + 1) from e.1 _]
  refine mz_go 4 (c' := (794, [some (.ref 3000), some (.ref 0), some (.ref 65), some (.int (nI i))], [.int ((nI i) + 2), .ref 3000, .int (xs (i + 1)), .ref 0], m)) rfl ?_
  refine mz_arr (c' := (795, [some (.ref 3000), some (.ref 0), some (.ref 65), some (.int (nI i))], [.int (m 3000 (((nI i) + 2).toNatClampNeg)), .int (xs (i + 1)), .ref 0], m)) rfl (show mz_in ((nI i) + 2) (m 3001 0).toNatClampNeg = true from by rw [e.2]; exact sm_inN (sm_addN rfl rfl) (show (i + 2) < L by omega) (by omega)) ?_
  rw [show ((nI i) + 2 : Int32).toNatClampNeg = (i + 2) from sm_clN (sm_addN rfl rfl) (show (i + 2) < 2 ^ 31 by omega)]
  rw [show m 3000 (i + 2) = xs (i + 2) from e.1 _]
  refine mz_do (R := mz_r83) (as := [.ref 0, .int (xs (i + 1)), .int (xs (i + 2))]) (rest := []) (r1 := some (.int v1)) (m1 := m1) rfl h1 ?_
  refine mz_go 6 (c' := (804, [some (.ref 3000), some (.ref 0), some (.ref 65), some (.int (nI i))], [.int ((nI i) + 1), .ref 3000, .ref 65], m1)) rfl ?_
  refine mz_arr (c' := (805, [some (.ref 3000), some (.ref 0), some (.ref 65), some (.int (nI i))], [.int (m1 3000 (((nI i) + 1).toNatClampNeg)), .ref 65], m1)) rfl (show mz_in ((nI i) + 1) (m1 3001 0).toNatClampNeg = true from by rw [e1.2]; exact sm_inN (sm_addN rfl rfl) (show (i + 1) < L by omega) (by omega)) ?_
  rw [show ((nI i) + 1 : Int32).toNatClampNeg = (i + 1) from sm_clN (sm_addN rfl rfl) (show (i + 1) < 2 ^ 31 by omega)]
  rw [show m1 3000 (i + 1) = xs (i + 1) from e1.1 _]
  refine mz_go 4 (c' := (809, [some (.ref 3000), some (.ref 0), some (.ref 65), some (.int (nI i))], [.int ((nI i) + 2), .ref 3000, .int (xs (i + 1)), .ref 65], m1)) rfl ?_
  refine mz_arr (c' := (810, [some (.ref 3000), some (.ref 0), some (.ref 65), some (.int (nI i))], [.int (m1 3000 (((nI i) + 2).toNatClampNeg)), .int (xs (i + 1)), .ref 65], m1)) rfl (show mz_in ((nI i) + 2) (m1 3001 0).toNatClampNeg = true from by rw [e1.2]; exact sm_inN (sm_addN rfl rfl) (show (i + 2) < L by omega) (by omega)) ?_
  rw [show ((nI i) + 2 : Int32).toNatClampNeg = (i + 2) from sm_clN (sm_addN rfl rfl) (show (i + 2) < 2 ^ 31 by omega)]
  rw [show m1 3000 (i + 2) = xs (i + 2) from e1.1 _]
  refine mz_do (R := mz_r181) (as := [.ref 65, .int (xs (i + 1)), .int (xs (i + 2))]) (rest := []) (r1 := some (.int v2)) (m1 := m2) rfl h2 ?_
  refine mz_go 4 (c' := (18, [some (.ref 3000), some (.ref 0), some (.ref 65), some (.int ((nI i) + 6))], [], m2)) rfl ?_
  exact hr
set_option maxHeartbeats 4000000 in
set_option maxRecDepth 100000 in
theorem lwc_holds {xs : Nat → Int32} {L i j : Nat} (hL : L ≤ 384) (hi : i + 6 ≤ L) {m : mz_M} (hj : j < 64) (hI : sm_I j m) (e : (∀ k, m 3000 k = xs k) ∧ (m 3001 0).toNatClampNeg = L) (h : xs i &&& 63 = 17) : ∃ m2, sm_I (j + 1) m2 ∧ ((∀ k, m2 3000 k = xs k) ∧ (m2 3001 0).toNatClampNeg = L) ∧ ∀ r, mz_Ex 101 mz_kL (18, [some (.ref 3000), some (.ref 0), some (.ref 65), some (.int ((nI i) + 6))], [], m2) r → mz_Ex 101 mz_kL (18, [some (.ref 3000), some (.ref 0), some (.ref 65), some (.int (nI i))], [], m) r := by
  obtain ⟨v1, v2, m1, m2, h1, h2, h3, hv⟩ := sc_holds hj hI (xs (i + 1)) (xs (i + 2))
  have e1 := lw_eL h1 e
  have e2 := lw_eL h2 e1
  refine ⟨m2, h3, e2, fun r hr => ?_⟩
  refine mz_go 3 (c' := (21, [some (.ref 3000), some (.ref 0), some (.ref 65), some (.int (nI i))], [.int (Int32.ofNat (m 3001 0).toNatClampNeg), .int (nI i)], m)) rfl ?_
  rw [show Int32.ofNat (m 3001 0).toNatClampNeg = nI L from by rw [e.2]; rfl]
  refine mz_go 3 (c' := (if ((nI L) - 6) < (nI i) then 1588 else 27, [some (.ref 3000), some (.ref 0), some (.ref 65), some (.int (nI i))], [], m)) rfl ?_
  refine mz_ifF (show ¬ (((nI L) - 6) < (nI i)) from (sm_law hL (by omega) (by omega))) ?_
  refine mz_go 2 (c' := (29, [some (.ref 3000), some (.ref 0), some (.ref 65), some (.int (nI i))], [.int (nI i), .ref 3000], m)) rfl ?_
  refine mz_arr (c' := (30, [some (.ref 3000), some (.ref 0), some (.ref 65), some (.int (nI i))], [.int (m 3000 ((nI i).toNatClampNeg))], m)) rfl (show mz_in (nI i) (m 3001 0).toNatClampNeg = true from by rw [e.2]; exact sm_inN rfl (show i < L by omega) (by omega)) ?_
  rw [show (nI i : Int32).toNatClampNeg = i from sm_clN rfl (show i < 2 ^ 31 by omega)]
  rw [show m 3000 i = xs i from e.1 _]
  refine mz_go 2 (c' := (33, [some (.ref 3000), some (.ref 0), some (.ref 65), some (.int (nI i))], [.int ((xs i) &&& 63)], m)) rfl ?_
  rw [h]
  refine mz_go 6 (c' := (822, [some (.ref 3000), some (.ref 0), some (.ref 65), some (.int (nI i))], [.int ((nI i) + 1), .ref 3000, .ref 0], m)) rfl ?_
  refine mz_arr (c' := (823, [some (.ref 3000), some (.ref 0), some (.ref 65), some (.int (nI i))], [.int (m 3000 (((nI i) + 1).toNatClampNeg)), .ref 0], m)) rfl (show mz_in ((nI i) + 1) (m 3001 0).toNatClampNeg = true from by rw [e.2]; exact sm_inN (sm_addN rfl rfl) (show (i + 1) < L by omega) (by omega)) ?_
  rw [show ((nI i) + 1 : Int32).toNatClampNeg = (i + 1) from sm_clN (sm_addN rfl rfl) (show (i + 1) < 2 ^ 31 by omega)]
  rw [show m 3000 (i + 1) = xs (i + 1) from e.1 _]
  refine mz_go 4 (c' := (827, [some (.ref 3000), some (.ref 0), some (.ref 65), some (.int (nI i))], [.int ((nI i) + 2), .ref 3000, .int (xs (i + 1)), .ref 0], m)) rfl ?_
  refine mz_arr (c' := (828, [some (.ref 3000), some (.ref 0), some (.ref 65), some (.int (nI i))], [.int (m 3000 (((nI i) + 2).toNatClampNeg)), .int (xs (i + 1)), .ref 0], m)) rfl (show mz_in ((nI i) + 2) (m 3001 0).toNatClampNeg = true from by rw [e.2]; exact sm_inN (sm_addN rfl rfl) (show (i + 2) < L by omega) (by omega)) ?_
  rw [show ((nI i) + 2 : Int32).toNatClampNeg = (i + 2) from sm_clN (sm_addN rfl rfl) (show (i + 2) < 2 ^ 31 by omega)]
  rw [show m 3000 (i + 2) = xs (i + 2) from e.1 _]
  refine mz_do (R := mz_r84) (as := [.ref 0, .int (xs (i + 1)), .int (xs (i + 2))]) (rest := []) (r1 := some (.int v1)) (m1 := m1) rfl h1 ?_
  refine mz_go 6 (c' := (837, [some (.ref 3000), some (.ref 0), some (.ref 65), some (.int (nI i))], [.int ((nI i) + 1), .ref 3000, .ref 65], m1)) rfl ?_
  refine mz_arr (c' := (838, [some (.ref 3000), some (.ref 0), some (.ref 65), some (.int (nI i))], [.int (m1 3000 (((nI i) + 1).toNatClampNeg)), .ref 65], m1)) rfl (show mz_in ((nI i) + 1) (m1 3001 0).toNatClampNeg = true from by rw [e1.2]; exact sm_inN (sm_addN rfl rfl) (show (i + 1) < L by omega) (by omega)) ?_
  rw [show ((nI i) + 1 : Int32).toNatClampNeg = (i + 1) from sm_clN (sm_addN rfl rfl) (show (i + 1) < 2 ^ 31 by omega)]
  rw [show m1 3000 (i + 1) = xs (i + 1) from e1.1 _]
  refine mz_go 4 (c' := (842, [some (.ref 3000), some (.ref 0), some (.ref 65), some (.int (nI i))], [.int ((nI i) + 2), .ref 3000, .int (xs (i + 1)), .ref 65], m1)) rfl ?_
  refine mz_arr (c' := (843, [some (.ref 3000), some (.ref 0), some (.ref 65), some (.int (nI i))], [.int (m1 3000 (((nI i) + 2).toNatClampNeg)), .int (xs (i + 1)), .ref 65], m1)) rfl (show mz_in ((nI i) + 2) (m1 3001 0).toNatClampNeg = true from by rw [e1.2]; exact sm_inN (sm_addN rfl rfl) (show (i + 2) < L by omega) (by omega)) ?_
  rw [show ((nI i) + 2 : Int32).toNatClampNeg = (i + 2) from sm_clN (sm_addN rfl rfl) (show (i + 2) < 2 ^ 31 by omega)]
  rw [show m1 3000 (i + 2) = xs (i + 2) from e1.1 _]
  refine mz_do (R := mz_r182) (as := [.ref 65, .int (xs (i + 1)), .int (xs (i + 2))]) (rest := []) (r1 := some (.int v2)) (m1 := m2) rfl h2 ?_
  refine mz_go 4 (c' := (18, [some (.ref 3000), some (.ref 0), some (.ref 65), some (.int ((nI i) + 6))], [], m2)) rfl ?_
  exact hr
set_option maxHeartbeats 4000000 in
set_option maxRecDepth 100000 in
theorem lwc_picture {xs : Nat → Int32} {L i j : Nat} (hL : L ≤ 384) (hi : i + 6 ≤ L) {m : mz_M} (hj : j < 64) (hI : sm_I j m) (e : (∀ k, m 3000 k = xs k) ∧ (m 3001 0).toNatClampNeg = L) (h : xs i &&& 63 = 18) : ∃ m2, sm_I (j + 1) m2 ∧ ((∀ k, m2 3000 k = xs k) ∧ (m2 3001 0).toNatClampNeg = L) ∧ ∀ r, mz_Ex 101 mz_kL (18, [some (.ref 3000), some (.ref 0), some (.ref 65), some (.int ((nI i) + 6))], [], m2) r → mz_Ex 101 mz_kL (18, [some (.ref 3000), some (.ref 0), some (.ref 65), some (.int (nI i))], [], m) r := by
  obtain ⟨v1, v2, m1, m2, h1, h2, h3⟩ := sc_picture hj hI (xs (i + 1)) (xs (i + 2)) (xs (i + 3)) (xs (i + 4))
  have e1 := lw_eL h1 e
  have e2 := lw_eL h2 e1
  refine ⟨m2, h3, e2, fun r hr => ?_⟩
  refine mz_go 3 (c' := (21, [some (.ref 3000), some (.ref 0), some (.ref 65), some (.int (nI i))], [.int (Int32.ofNat (m 3001 0).toNatClampNeg), .int (nI i)], m)) rfl ?_
  rw [show Int32.ofNat (m 3001 0).toNatClampNeg = nI L from by rw [e.2]; rfl]
  refine mz_go 3 (c' := (if ((nI L) - 6) < (nI i) then 1588 else 27, [some (.ref 3000), some (.ref 0), some (.ref 65), some (.int (nI i))], [], m)) rfl ?_
  refine mz_ifF (show ¬ (((nI L) - 6) < (nI i)) from (sm_law hL (by omega) (by omega))) ?_
  refine mz_go 2 (c' := (29, [some (.ref 3000), some (.ref 0), some (.ref 65), some (.int (nI i))], [.int (nI i), .ref 3000], m)) rfl ?_
  refine mz_arr (c' := (30, [some (.ref 3000), some (.ref 0), some (.ref 65), some (.int (nI i))], [.int (m 3000 ((nI i).toNatClampNeg))], m)) rfl (show mz_in (nI i) (m 3001 0).toNatClampNeg = true from by rw [e.2]; exact sm_inN rfl (show i < L by omega) (by omega)) ?_
  rw [show (nI i : Int32).toNatClampNeg = i from sm_clN rfl (show i < 2 ^ 31 by omega)]
  rw [show m 3000 i = xs i from e.1 _]
  refine mz_go 2 (c' := (33, [some (.ref 3000), some (.ref 0), some (.ref 65), some (.int (nI i))], [.int ((xs i) &&& 63)], m)) rfl ?_
  rw [h]
  refine mz_go 6 (c' := (855, [some (.ref 3000), some (.ref 0), some (.ref 65), some (.int (nI i))], [.int ((nI i) + 1), .ref 3000, .ref 0], m)) rfl ?_
  refine mz_arr (c' := (856, [some (.ref 3000), some (.ref 0), some (.ref 65), some (.int (nI i))], [.int (m 3000 (((nI i) + 1).toNatClampNeg)), .ref 0], m)) rfl (show mz_in ((nI i) + 1) (m 3001 0).toNatClampNeg = true from by rw [e.2]; exact sm_inN (sm_addN rfl rfl) (show (i + 1) < L by omega) (by omega)) ?_
  rw [show ((nI i) + 1 : Int32).toNatClampNeg = (i + 1) from sm_clN (sm_addN rfl rfl) (show (i + 1) < 2 ^ 31 by omega)]
  rw [show m 3000 (i + 1) = xs (i + 1) from e.1 _]
  refine mz_go 4 (c' := (860, [some (.ref 3000), some (.ref 0), some (.ref 65), some (.int (nI i))], [.int ((nI i) + 2), .ref 3000, .int (xs (i + 1)), .ref 0], m)) rfl ?_
  refine mz_arr (c' := (861, [some (.ref 3000), some (.ref 0), some (.ref 65), some (.int (nI i))], [.int (m 3000 (((nI i) + 2).toNatClampNeg)), .int (xs (i + 1)), .ref 0], m)) rfl (show mz_in ((nI i) + 2) (m 3001 0).toNatClampNeg = true from by rw [e.2]; exact sm_inN (sm_addN rfl rfl) (show (i + 2) < L by omega) (by omega)) ?_
  rw [show ((nI i) + 2 : Int32).toNatClampNeg = (i + 2) from sm_clN (sm_addN rfl rfl) (show (i + 2) < 2 ^ 31 by omega)]
  rw [show m 3000 (i + 2) = xs (i + 2) from e.1 _]
  refine mz_go 4 (c' := (865, [some (.ref 3000), some (.ref 0), some (.ref 65), some (.int (nI i))], [.int ((nI i) + 3), .ref 3000, .int (xs (i + 2)), .int (xs (i + 1)), .ref 0], m)) rfl ?_
  refine mz_arr (c' := (866, [some (.ref 3000), some (.ref 0), some (.ref 65), some (.int (nI i))], [.int (m 3000 (((nI i) + 3).toNatClampNeg)), .int (xs (i + 2)), .int (xs (i + 1)), .ref 0], m)) rfl (show mz_in ((nI i) + 3) (m 3001 0).toNatClampNeg = true from by rw [e.2]; exact sm_inN (sm_addN rfl rfl) (show (i + 3) < L by omega) (by omega)) ?_
  rw [show ((nI i) + 3 : Int32).toNatClampNeg = (i + 3) from sm_clN (sm_addN rfl rfl) (show (i + 3) < 2 ^ 31 by omega)]
  rw [show m 3000 (i + 3) = xs (i + 3) from e.1 _]
  refine mz_go 4 (c' := (870, [some (.ref 3000), some (.ref 0), some (.ref 65), some (.int (nI i))], [.int ((nI i) + 4), .ref 3000, .int (xs (i + 3)), .int (xs (i + 2)), .int (xs (i + 1)), .ref 0], m)) rfl ?_
  refine mz_arr (c' := (871, [some (.ref 3000), some (.ref 0), some (.ref 65), some (.int (nI i))], [.int (m 3000 (((nI i) + 4).toNatClampNeg)), .int (xs (i + 3)), .int (xs (i + 2)), .int (xs (i + 1)), .ref 0], m)) rfl (show mz_in ((nI i) + 4) (m 3001 0).toNatClampNeg = true from by rw [e.2]; exact sm_inN (sm_addN rfl rfl) (show (i + 4) < L by omega) (by omega)) ?_
  rw [show ((nI i) + 4 : Int32).toNatClampNeg = (i + 4) from sm_clN (sm_addN rfl rfl) (show (i + 4) < 2 ^ 31 by omega)]
  rw [show m 3000 (i + 4) = xs (i + 4) from e.1 _]
  refine mz_do (R := mz_r85) (as := [.ref 0, .int (xs (i + 1)), .int (xs (i + 2)), .int (xs (i + 3)), .int (xs (i + 4))]) (rest := []) (r1 := some (.int v1)) (m1 := m1) rfl h1 ?_
  refine mz_go 6 (c' := (880, [some (.ref 3000), some (.ref 0), some (.ref 65), some (.int (nI i))], [.int ((nI i) + 1), .ref 3000, .ref 65], m1)) rfl ?_
  refine mz_arr (c' := (881, [some (.ref 3000), some (.ref 0), some (.ref 65), some (.int (nI i))], [.int (m1 3000 (((nI i) + 1).toNatClampNeg)), .ref 65], m1)) rfl (show mz_in ((nI i) + 1) (m1 3001 0).toNatClampNeg = true from by rw [e1.2]; exact sm_inN (sm_addN rfl rfl) (show (i + 1) < L by omega) (by omega)) ?_
  rw [show ((nI i) + 1 : Int32).toNatClampNeg = (i + 1) from sm_clN (sm_addN rfl rfl) (show (i + 1) < 2 ^ 31 by omega)]
  rw [show m1 3000 (i + 1) = xs (i + 1) from e1.1 _]
  refine mz_go 4 (c' := (885, [some (.ref 3000), some (.ref 0), some (.ref 65), some (.int (nI i))], [.int ((nI i) + 2), .ref 3000, .int (xs (i + 1)), .ref 65], m1)) rfl ?_
  refine mz_arr (c' := (886, [some (.ref 3000), some (.ref 0), some (.ref 65), some (.int (nI i))], [.int (m1 3000 (((nI i) + 2).toNatClampNeg)), .int (xs (i + 1)), .ref 65], m1)) rfl (show mz_in ((nI i) + 2) (m1 3001 0).toNatClampNeg = true from by rw [e1.2]; exact sm_inN (sm_addN rfl rfl) (show (i + 2) < L by omega) (by omega)) ?_
  rw [show ((nI i) + 2 : Int32).toNatClampNeg = (i + 2) from sm_clN (sm_addN rfl rfl) (show (i + 2) < 2 ^ 31 by omega)]
  rw [show m1 3000 (i + 2) = xs (i + 2) from e1.1 _]
  refine mz_go 4 (c' := (890, [some (.ref 3000), some (.ref 0), some (.ref 65), some (.int (nI i))], [.int ((nI i) + 3), .ref 3000, .int (xs (i + 2)), .int (xs (i + 1)), .ref 65], m1)) rfl ?_
  refine mz_arr (c' := (891, [some (.ref 3000), some (.ref 0), some (.ref 65), some (.int (nI i))], [.int (m1 3000 (((nI i) + 3).toNatClampNeg)), .int (xs (i + 2)), .int (xs (i + 1)), .ref 65], m1)) rfl (show mz_in ((nI i) + 3) (m1 3001 0).toNatClampNeg = true from by rw [e1.2]; exact sm_inN (sm_addN rfl rfl) (show (i + 3) < L by omega) (by omega)) ?_
  rw [show ((nI i) + 3 : Int32).toNatClampNeg = (i + 3) from sm_clN (sm_addN rfl rfl) (show (i + 3) < 2 ^ 31 by omega)]
  rw [show m1 3000 (i + 3) = xs (i + 3) from e1.1 _]
  refine mz_go 4 (c' := (895, [some (.ref 3000), some (.ref 0), some (.ref 65), some (.int (nI i))], [.int ((nI i) + 4), .ref 3000, .int (xs (i + 3)), .int (xs (i + 2)), .int (xs (i + 1)), .ref 65], m1)) rfl ?_
  refine mz_arr (c' := (896, [some (.ref 3000), some (.ref 0), some (.ref 65), some (.int (nI i))], [.int (m1 3000 (((nI i) + 4).toNatClampNeg)), .int (xs (i + 3)), .int (xs (i + 2)), .int (xs (i + 1)), .ref 65], m1)) rfl (show mz_in ((nI i) + 4) (m1 3001 0).toNatClampNeg = true from by rw [e1.2]; exact sm_inN (sm_addN rfl rfl) (show (i + 4) < L by omega) (by omega)) ?_
  rw [show ((nI i) + 4 : Int32).toNatClampNeg = (i + 4) from sm_clN (sm_addN rfl rfl) (show (i + 4) < 2 ^ 31 by omega)]
  rw [show m1 3000 (i + 4) = xs (i + 4) from e1.1 _]
  refine mz_do (R := mz_r190) (as := [.ref 65, .int (xs (i + 1)), .int (xs (i + 2)), .int (xs (i + 3)), .int (xs (i + 4))]) (rest := []) (r1 := some (.int v2)) (m1 := m2) rfl h2 ?_
  refine mz_go 4 (c' := (18, [some (.ref 3000), some (.ref 0), some (.ref 65), some (.int ((nI i) + 6))], [], m2)) rfl ?_
  exact hr
set_option maxHeartbeats 4000000 in
set_option maxRecDepth 100000 in
theorem lwc_cell {xs : Nat → Int32} {L i j : Nat} (hL : L ≤ 384) (hi : i + 6 ≤ L) {m : mz_M} (hj : j < 64) (hI : sm_I j m) (e : (∀ k, m 3000 k = xs k) ∧ (m 3001 0).toNatClampNeg = L) (h : xs i &&& 63 = 19) : ∃ m2, sm_I (j + 1) m2 ∧ ((∀ k, m2 3000 k = xs k) ∧ (m2 3001 0).toNatClampNeg = L) ∧ ∀ r, mz_Ex 101 mz_kL (18, [some (.ref 3000), some (.ref 0), some (.ref 65), some (.int ((nI i) + 6))], [], m2) r → mz_Ex 101 mz_kL (18, [some (.ref 3000), some (.ref 0), some (.ref 65), some (.int (nI i))], [], m) r := by
  obtain ⟨v1, v2, m1, m2, h1, h2, h3, hv⟩ := sc_cell hj hI (xs (i + 1)) (xs (i + 2))
  have e1 := lw_eL h1 e
  have e2 := lw_eL h2 e1
  refine ⟨m2, h3, e2, fun r hr => ?_⟩
  refine mz_go 3 (c' := (21, [some (.ref 3000), some (.ref 0), some (.ref 65), some (.int (nI i))], [.int (Int32.ofNat (m 3001 0).toNatClampNeg), .int (nI i)], m)) rfl ?_
  rw [show Int32.ofNat (m 3001 0).toNatClampNeg = nI L from by rw [e.2]; rfl]
  refine mz_go 3 (c' := (if ((nI L) - 6) < (nI i) then 1588 else 27, [some (.ref 3000), some (.ref 0), some (.ref 65), some (.int (nI i))], [], m)) rfl ?_
  refine mz_ifF (show ¬ (((nI L) - 6) < (nI i)) from (sm_law hL (by omega) (by omega))) ?_
  refine mz_go 2 (c' := (29, [some (.ref 3000), some (.ref 0), some (.ref 65), some (.int (nI i))], [.int (nI i), .ref 3000], m)) rfl ?_
  refine mz_arr (c' := (30, [some (.ref 3000), some (.ref 0), some (.ref 65), some (.int (nI i))], [.int (m 3000 ((nI i).toNatClampNeg))], m)) rfl (show mz_in (nI i) (m 3001 0).toNatClampNeg = true from by rw [e.2]; exact sm_inN rfl (show i < L by omega) (by omega)) ?_
  rw [show (nI i : Int32).toNatClampNeg = i from sm_clN rfl (show i < 2 ^ 31 by omega)]
  rw [show m 3000 i = xs i from e.1 _]
  refine mz_go 2 (c' := (33, [some (.ref 3000), some (.ref 0), some (.ref 65), some (.int (nI i))], [.int ((xs i) &&& 63)], m)) rfl ?_
  rw [h]
  refine mz_go 6 (c' := (908, [some (.ref 3000), some (.ref 0), some (.ref 65), some (.int (nI i))], [.int ((nI i) + 1), .ref 3000, .ref 0], m)) rfl ?_
  refine mz_arr (c' := (909, [some (.ref 3000), some (.ref 0), some (.ref 65), some (.int (nI i))], [.int (m 3000 (((nI i) + 1).toNatClampNeg)), .ref 0], m)) rfl (show mz_in ((nI i) + 1) (m 3001 0).toNatClampNeg = true from by rw [e.2]; exact sm_inN (sm_addN rfl rfl) (show (i + 1) < L by omega) (by omega)) ?_
  rw [show ((nI i) + 1 : Int32).toNatClampNeg = (i + 1) from sm_clN (sm_addN rfl rfl) (show (i + 1) < 2 ^ 31 by omega)]
  rw [show m 3000 (i + 1) = xs (i + 1) from e.1 _]
  refine mz_go 4 (c' := (913, [some (.ref 3000), some (.ref 0), some (.ref 65), some (.int (nI i))], [.int ((nI i) + 2), .ref 3000, .int (xs (i + 1)), .ref 0], m)) rfl ?_
  refine mz_arr (c' := (914, [some (.ref 3000), some (.ref 0), some (.ref 65), some (.int (nI i))], [.int (m 3000 (((nI i) + 2).toNatClampNeg)), .int (xs (i + 1)), .ref 0], m)) rfl (show mz_in ((nI i) + 2) (m 3001 0).toNatClampNeg = true from by rw [e.2]; exact sm_inN (sm_addN rfl rfl) (show (i + 2) < L by omega) (by omega)) ?_
  rw [show ((nI i) + 2 : Int32).toNatClampNeg = (i + 2) from sm_clN (sm_addN rfl rfl) (show (i + 2) < 2 ^ 31 by omega)]
  rw [show m 3000 (i + 2) = xs (i + 2) from e.1 _]
  refine mz_do (R := mz_r86) (as := [.ref 0, .int (xs (i + 1)), .int (xs (i + 2))]) (rest := []) (r1 := some (.int v1)) (m1 := m1) rfl h1 ?_
  refine mz_go 6 (c' := (923, [some (.ref 3000), some (.ref 0), some (.ref 65), some (.int (nI i))], [.int ((nI i) + 1), .ref 3000, .ref 65], m1)) rfl ?_
  refine mz_arr (c' := (924, [some (.ref 3000), some (.ref 0), some (.ref 65), some (.int (nI i))], [.int (m1 3000 (((nI i) + 1).toNatClampNeg)), .ref 65], m1)) rfl (show mz_in ((nI i) + 1) (m1 3001 0).toNatClampNeg = true from by rw [e1.2]; exact sm_inN (sm_addN rfl rfl) (show (i + 1) < L by omega) (by omega)) ?_
  rw [show ((nI i) + 1 : Int32).toNatClampNeg = (i + 1) from sm_clN (sm_addN rfl rfl) (show (i + 1) < 2 ^ 31 by omega)]
  rw [show m1 3000 (i + 1) = xs (i + 1) from e1.1 _]
  refine mz_go 4 (c' := (928, [some (.ref 3000), some (.ref 0), some (.ref 65), some (.int (nI i))], [.int ((nI i) + 2), .ref 3000, .int (xs (i + 1)), .ref 65], m1)) rfl ?_
  refine mz_arr (c' := (929, [some (.ref 3000), some (.ref 0), some (.ref 65), some (.int (nI i))], [.int (m1 3000 (((nI i) + 2).toNatClampNeg)), .int (xs (i + 1)), .ref 65], m1)) rfl (show mz_in ((nI i) + 2) (m1 3001 0).toNatClampNeg = true from by rw [e1.2]; exact sm_inN (sm_addN rfl rfl) (show (i + 2) < L by omega) (by omega)) ?_
  rw [show ((nI i) + 2 : Int32).toNatClampNeg = (i + 2) from sm_clN (sm_addN rfl rfl) (show (i + 2) < 2 ^ 31 by omega)]
  rw [show m1 3000 (i + 2) = xs (i + 2) from e1.1 _]
  refine mz_do (R := mz_r191) (as := [.ref 65, .int (xs (i + 1)), .int (xs (i + 2))]) (rest := []) (r1 := some (.int v2)) (m1 := m2) rfl h2 ?_
  refine mz_go 4 (c' := (18, [some (.ref 3000), some (.ref 0), some (.ref 65), some (.int ((nI i) + 6))], [], m2)) rfl ?_
  exact hr
set_option maxHeartbeats 4000000 in
set_option maxRecDepth 100000 in
theorem lwc_share {xs : Nat → Int32} {L i j : Nat} (hL : L ≤ 384) (hi : i + 6 ≤ L) {m : mz_M} (hj : j < 64) (hI : sm_I j m) (e : (∀ k, m 3000 k = xs k) ∧ (m 3001 0).toNatClampNeg = L) (h : xs i &&& 63 = 20) : ∃ m2, sm_I (j + 1) m2 ∧ ((∀ k, m2 3000 k = xs k) ∧ (m2 3001 0).toNatClampNeg = L) ∧ ∀ r, mz_Ex 101 mz_kL (18, [some (.ref 3000), some (.ref 0), some (.ref 65), some (.int ((nI i) + 6))], [], m2) r → mz_Ex 101 mz_kL (18, [some (.ref 3000), some (.ref 0), some (.ref 65), some (.int (nI i))], [], m) r := by
  obtain ⟨v1, v2, m1, m2, h1, h2, h3⟩ := sc_share hj hI (xs (i + 1))
  have e1 := lw_eL h1 e
  have e2 := lw_eL h2 e1
  refine ⟨m2, h3, e2, fun r hr => ?_⟩
  refine mz_go 3 (c' := (21, [some (.ref 3000), some (.ref 0), some (.ref 65), some (.int (nI i))], [.int (Int32.ofNat (m 3001 0).toNatClampNeg), .int (nI i)], m)) rfl ?_
  rw [show Int32.ofNat (m 3001 0).toNatClampNeg = nI L from by rw [e.2]; rfl]
  refine mz_go 3 (c' := (if ((nI L) - 6) < (nI i) then 1588 else 27, [some (.ref 3000), some (.ref 0), some (.ref 65), some (.int (nI i))], [], m)) rfl ?_
  refine mz_ifF (show ¬ (((nI L) - 6) < (nI i)) from (sm_law hL (by omega) (by omega))) ?_
  refine mz_go 2 (c' := (29, [some (.ref 3000), some (.ref 0), some (.ref 65), some (.int (nI i))], [.int (nI i), .ref 3000], m)) rfl ?_
  refine mz_arr (c' := (30, [some (.ref 3000), some (.ref 0), some (.ref 65), some (.int (nI i))], [.int (m 3000 ((nI i).toNatClampNeg))], m)) rfl (show mz_in (nI i) (m 3001 0).toNatClampNeg = true from by rw [e.2]; exact sm_inN rfl (show i < L by omega) (by omega)) ?_
  rw [show (nI i : Int32).toNatClampNeg = i from sm_clN rfl (show i < 2 ^ 31 by omega)]
  rw [show m 3000 i = xs i from e.1 _]
  refine mz_go 2 (c' := (33, [some (.ref 3000), some (.ref 0), some (.ref 65), some (.int (nI i))], [.int ((xs i) &&& 63)], m)) rfl ?_
  rw [h]
  refine mz_go 6 (c' := (941, [some (.ref 3000), some (.ref 0), some (.ref 65), some (.int (nI i))], [.int ((nI i) + 1), .ref 3000, .ref 0], m)) rfl ?_
  refine mz_arr (c' := (942, [some (.ref 3000), some (.ref 0), some (.ref 65), some (.int (nI i))], [.int (m 3000 (((nI i) + 1).toNatClampNeg)), .ref 0], m)) rfl (show mz_in ((nI i) + 1) (m 3001 0).toNatClampNeg = true from by rw [e.2]; exact sm_inN (sm_addN rfl rfl) (show (i + 1) < L by omega) (by omega)) ?_
  rw [show ((nI i) + 1 : Int32).toNatClampNeg = (i + 1) from sm_clN (sm_addN rfl rfl) (show (i + 1) < 2 ^ 31 by omega)]
  rw [show m 3000 (i + 1) = xs (i + 1) from e.1 _]
  refine mz_do (R := mz_r87) (as := [.ref 0, .int (xs (i + 1))]) (rest := []) (r1 := some (.int v1)) (m1 := m1) rfl h1 ?_
  refine mz_go 6 (c' := (951, [some (.ref 3000), some (.ref 0), some (.ref 65), some (.int (nI i))], [.int ((nI i) + 1), .ref 3000, .ref 65], m1)) rfl ?_
  refine mz_arr (c' := (952, [some (.ref 3000), some (.ref 0), some (.ref 65), some (.int (nI i))], [.int (m1 3000 (((nI i) + 1).toNatClampNeg)), .ref 65], m1)) rfl (show mz_in ((nI i) + 1) (m1 3001 0).toNatClampNeg = true from by rw [e1.2]; exact sm_inN (sm_addN rfl rfl) (show (i + 1) < L by omega) (by omega)) ?_
  rw [show ((nI i) + 1 : Int32).toNatClampNeg = (i + 1) from sm_clN (sm_addN rfl rfl) (show (i + 1) < 2 ^ 31 by omega)]
  rw [show m1 3000 (i + 1) = xs (i + 1) from e1.1 _]
  refine mz_do (R := mz_r194) (as := [.ref 65, .int (xs (i + 1))]) (rest := []) (r1 := some (.int v2)) (m1 := m2) rfl h2 ?_
  refine mz_go 4 (c' := (18, [some (.ref 3000), some (.ref 0), some (.ref 65), some (.int ((nI i) + 6))], [], m2)) rfl ?_
  exact hr
set_option maxHeartbeats 4000000 in
set_option maxRecDepth 100000 in
theorem lwc_edge {xs : Nat → Int32} {L i j : Nat} (hL : L ≤ 384) (hi : i + 6 ≤ L) {m : mz_M} (hj : j < 64) (hI : sm_I j m) (e : (∀ k, m 3000 k = xs k) ∧ (m 3001 0).toNatClampNeg = L) (h : xs i &&& 63 = 21) : ∃ m2, sm_I (j + 1) m2 ∧ ((∀ k, m2 3000 k = xs k) ∧ (m2 3001 0).toNatClampNeg = L) ∧ ∀ r, mz_Ex 101 mz_kL (18, [some (.ref 3000), some (.ref 0), some (.ref 65), some (.int ((nI i) + 6))], [], m2) r → mz_Ex 101 mz_kL (18, [some (.ref 3000), some (.ref 0), some (.ref 65), some (.int (nI i))], [], m) r := by
  obtain ⟨v1, v2, m1, m2, h1, h2, h3⟩ := sc_edge hj hI (xs (i + 1)) (xs (i + 2))
  have e1 := lw_eL h1 e
  have e2 := lw_eL h2 e1
  refine ⟨m2, h3, e2, fun r hr => ?_⟩
  refine mz_go 3 (c' := (21, [some (.ref 3000), some (.ref 0), some (.ref 65), some (.int (nI i))], [.int (Int32.ofNat (m 3001 0).toNatClampNeg), .int (nI i)], m)) rfl ?_
  rw [show Int32.ofNat (m 3001 0).toNatClampNeg = nI L from by rw [e.2]; rfl]
  refine mz_go 3 (c' := (if ((nI L) - 6) < (nI i) then 1588 else 27, [some (.ref 3000), some (.ref 0), some (.ref 65), some (.int (nI i))], [], m)) rfl ?_
  refine mz_ifF (show ¬ (((nI L) - 6) < (nI i)) from (sm_law hL (by omega) (by omega))) ?_
  refine mz_go 2 (c' := (29, [some (.ref 3000), some (.ref 0), some (.ref 65), some (.int (nI i))], [.int (nI i), .ref 3000], m)) rfl ?_
  refine mz_arr (c' := (30, [some (.ref 3000), some (.ref 0), some (.ref 65), some (.int (nI i))], [.int (m 3000 ((nI i).toNatClampNeg))], m)) rfl (show mz_in (nI i) (m 3001 0).toNatClampNeg = true from by rw [e.2]; exact sm_inN rfl (show i < L by omega) (by omega)) ?_
  rw [show (nI i : Int32).toNatClampNeg = i from sm_clN rfl (show i < 2 ^ 31 by omega)]
  rw [show m 3000 i = xs i from e.1 _]
  refine mz_go 2 (c' := (33, [some (.ref 3000), some (.ref 0), some (.ref 65), some (.int (nI i))], [.int ((xs i) &&& 63)], m)) rfl ?_
  rw [h]
  refine mz_go 6 (c' := (964, [some (.ref 3000), some (.ref 0), some (.ref 65), some (.int (nI i))], [.int ((nI i) + 1), .ref 3000, .ref 0], m)) rfl ?_
  refine mz_arr (c' := (965, [some (.ref 3000), some (.ref 0), some (.ref 65), some (.int (nI i))], [.int (m 3000 (((nI i) + 1).toNatClampNeg)), .ref 0], m)) rfl (show mz_in ((nI i) + 1) (m 3001 0).toNatClampNeg = true from by rw [e.2]; exact sm_inN (sm_addN rfl rfl) (show (i + 1) < L by omega) (by omega)) ?_
  rw [show ((nI i) + 1 : Int32).toNatClampNeg = (i + 1) from sm_clN (sm_addN rfl rfl) (show (i + 1) < 2 ^ 31 by omega)]
  rw [show m 3000 (i + 1) = xs (i + 1) from e.1 _]
  refine mz_go 4 (c' := (969, [some (.ref 3000), some (.ref 0), some (.ref 65), some (.int (nI i))], [.int ((nI i) + 2), .ref 3000, .int (xs (i + 1)), .ref 0], m)) rfl ?_
  refine mz_arr (c' := (970, [some (.ref 3000), some (.ref 0), some (.ref 65), some (.int (nI i))], [.int (m 3000 (((nI i) + 2).toNatClampNeg)), .int (xs (i + 1)), .ref 0], m)) rfl (show mz_in ((nI i) + 2) (m 3001 0).toNatClampNeg = true from by rw [e.2]; exact sm_inN (sm_addN rfl rfl) (show (i + 2) < L by omega) (by omega)) ?_
  rw [show ((nI i) + 2 : Int32).toNatClampNeg = (i + 2) from sm_clN (sm_addN rfl rfl) (show (i + 2) < 2 ^ 31 by omega)]
  rw [show m 3000 (i + 2) = xs (i + 2) from e.1 _]
  refine mz_do (R := mz_r88) (as := [.ref 0, .int (xs (i + 1)), .int (xs (i + 2))]) (rest := []) (r1 := some (.int v1)) (m1 := m1) rfl h1 ?_
  refine mz_go 6 (c' := (979, [some (.ref 3000), some (.ref 0), some (.ref 65), some (.int (nI i))], [.int ((nI i) + 1), .ref 3000, .ref 65], m1)) rfl ?_
  refine mz_arr (c' := (980, [some (.ref 3000), some (.ref 0), some (.ref 65), some (.int (nI i))], [.int (m1 3000 (((nI i) + 1).toNatClampNeg)), .ref 65], m1)) rfl (show mz_in ((nI i) + 1) (m1 3001 0).toNatClampNeg = true from by rw [e1.2]; exact sm_inN (sm_addN rfl rfl) (show (i + 1) < L by omega) (by omega)) ?_
  rw [show ((nI i) + 1 : Int32).toNatClampNeg = (i + 1) from sm_clN (sm_addN rfl rfl) (show (i + 1) < 2 ^ 31 by omega)]
  rw [show m1 3000 (i + 1) = xs (i + 1) from e1.1 _]
  refine mz_go 4 (c' := (984, [some (.ref 3000), some (.ref 0), some (.ref 65), some (.int (nI i))], [.int ((nI i) + 2), .ref 3000, .int (xs (i + 1)), .ref 65], m1)) rfl ?_
  refine mz_arr (c' := (985, [some (.ref 3000), some (.ref 0), some (.ref 65), some (.int (nI i))], [.int (m1 3000 (((nI i) + 2).toNatClampNeg)), .int (xs (i + 1)), .ref 65], m1)) rfl (show mz_in ((nI i) + 2) (m1 3001 0).toNatClampNeg = true from by rw [e1.2]; exact sm_inN (sm_addN rfl rfl) (show (i + 2) < L by omega) (by omega)) ?_
  rw [show ((nI i) + 2 : Int32).toNatClampNeg = (i + 2) from sm_clN (sm_addN rfl rfl) (show (i + 2) < 2 ^ 31 by omega)]
  rw [show m1 3000 (i + 2) = xs (i + 2) from e1.1 _]
  refine mz_do (R := mz_r197) (as := [.ref 65, .int (xs (i + 1)), .int (xs (i + 2))]) (rest := []) (r1 := some (.int v2)) (m1 := m2) rfl h2 ?_
  refine mz_go 4 (c' := (18, [some (.ref 3000), some (.ref 0), some (.ref 65), some (.int ((nI i) + 6))], [], m2)) rfl ?_
  exact hr
set_option maxHeartbeats 4000000 in
set_option maxRecDepth 100000 in
theorem lwc_seen {xs : Nat → Int32} {L i j : Nat} (hL : L ≤ 384) (hi : i + 6 ≤ L) {m : mz_M} (hj : j < 64) (hI : sm_I j m) (e : (∀ k, m 3000 k = xs k) ∧ (m 3001 0).toNatClampNeg = L) (h : xs i &&& 63 = 22) : ∃ m2, sm_I (j + 1) m2 ∧ ((∀ k, m2 3000 k = xs k) ∧ (m2 3001 0).toNatClampNeg = L) ∧ ∀ r, mz_Ex 101 mz_kL (18, [some (.ref 3000), some (.ref 0), some (.ref 65), some (.int ((nI i) + 6))], [], m2) r → mz_Ex 101 mz_kL (18, [some (.ref 3000), some (.ref 0), some (.ref 65), some (.int (nI i))], [], m) r := by
  obtain ⟨v1, v2, m1, m2, h1, h2, h3⟩ := sc_seen hj hI (xs (i + 1))
  have e1 := lw_eL h1 e
  have e2 := lw_eL h2 e1
  refine ⟨m2, h3, e2, fun r hr => ?_⟩
  refine mz_go 3 (c' := (21, [some (.ref 3000), some (.ref 0), some (.ref 65), some (.int (nI i))], [.int (Int32.ofNat (m 3001 0).toNatClampNeg), .int (nI i)], m)) rfl ?_
  rw [show Int32.ofNat (m 3001 0).toNatClampNeg = nI L from by rw [e.2]; rfl]
  refine mz_go 3 (c' := (if ((nI L) - 6) < (nI i) then 1588 else 27, [some (.ref 3000), some (.ref 0), some (.ref 65), some (.int (nI i))], [], m)) rfl ?_
  refine mz_ifF (show ¬ (((nI L) - 6) < (nI i)) from (sm_law hL (by omega) (by omega))) ?_
  refine mz_go 2 (c' := (29, [some (.ref 3000), some (.ref 0), some (.ref 65), some (.int (nI i))], [.int (nI i), .ref 3000], m)) rfl ?_
  refine mz_arr (c' := (30, [some (.ref 3000), some (.ref 0), some (.ref 65), some (.int (nI i))], [.int (m 3000 ((nI i).toNatClampNeg))], m)) rfl (show mz_in (nI i) (m 3001 0).toNatClampNeg = true from by rw [e.2]; exact sm_inN rfl (show i < L by omega) (by omega)) ?_
  rw [show (nI i : Int32).toNatClampNeg = i from sm_clN rfl (show i < 2 ^ 31 by omega)]
  rw [show m 3000 i = xs i from e.1 _]
  refine mz_go 2 (c' := (33, [some (.ref 3000), some (.ref 0), some (.ref 65), some (.int (nI i))], [.int ((xs i) &&& 63)], m)) rfl ?_
  rw [h]
  refine mz_go 6 (c' := (997, [some (.ref 3000), some (.ref 0), some (.ref 65), some (.int (nI i))], [.int ((nI i) + 1), .ref 3000, .ref 0], m)) rfl ?_
  refine mz_arr (c' := (998, [some (.ref 3000), some (.ref 0), some (.ref 65), some (.int (nI i))], [.int (m 3000 (((nI i) + 1).toNatClampNeg)), .ref 0], m)) rfl (show mz_in ((nI i) + 1) (m 3001 0).toNatClampNeg = true from by rw [e.2]; exact sm_inN (sm_addN rfl rfl) (show (i + 1) < L by omega) (by omega)) ?_
  rw [show ((nI i) + 1 : Int32).toNatClampNeg = (i + 1) from sm_clN (sm_addN rfl rfl) (show (i + 1) < 2 ^ 31 by omega)]
  rw [show m 3000 (i + 1) = xs (i + 1) from e.1 _]
  refine mz_do (R := mz_r89) (as := [.ref 0, .int (xs (i + 1))]) (rest := []) (r1 := some (.int v1)) (m1 := m1) rfl h1 ?_
  refine mz_go 6 (c' := (1007, [some (.ref 3000), some (.ref 0), some (.ref 65), some (.int (nI i))], [.int ((nI i) + 1), .ref 3000, .ref 65], m1)) rfl ?_
  refine mz_arr (c' := (1008, [some (.ref 3000), some (.ref 0), some (.ref 65), some (.int (nI i))], [.int (m1 3000 (((nI i) + 1).toNatClampNeg)), .ref 65], m1)) rfl (show mz_in ((nI i) + 1) (m1 3001 0).toNatClampNeg = true from by rw [e1.2]; exact sm_inN (sm_addN rfl rfl) (show (i + 1) < L by omega) (by omega)) ?_
  rw [show ((nI i) + 1 : Int32).toNatClampNeg = (i + 1) from sm_clN (sm_addN rfl rfl) (show (i + 1) < 2 ^ 31 by omega)]
  rw [show m1 3000 (i + 1) = xs (i + 1) from e1.1 _]
  refine mz_do (R := mz_r199) (as := [.ref 65, .int (xs (i + 1))]) (rest := []) (r1 := some (.int v2)) (m1 := m2) rfl h2 ?_
  refine mz_go 4 (c' := (18, [some (.ref 3000), some (.ref 0), some (.ref 65), some (.int ((nI i) + 6))], [], m2)) rfl ?_
  exact hr
set_option maxHeartbeats 4000000 in
set_option maxRecDepth 100000 in
theorem lwc_sure {xs : Nat → Int32} {L i j : Nat} (hL : L ≤ 384) (hi : i + 6 ≤ L) {m : mz_M} (hj : j < 64) (hI : sm_I j m) (e : (∀ k, m 3000 k = xs k) ∧ (m 3001 0).toNatClampNeg = L) (h : xs i &&& 63 = 23) : ∃ m2, sm_I (j + 1) m2 ∧ ((∀ k, m2 3000 k = xs k) ∧ (m2 3001 0).toNatClampNeg = L) ∧ ∀ r, mz_Ex 101 mz_kL (18, [some (.ref 3000), some (.ref 0), some (.ref 65), some (.int ((nI i) + 6))], [], m2) r → mz_Ex 101 mz_kL (18, [some (.ref 3000), some (.ref 0), some (.ref 65), some (.int (nI i))], [], m) r := by
  obtain ⟨v1, v2, m1, m2, h1, h2, h3⟩ := sc_sure hj hI (xs (i + 1)) (xs (i + 2)) (xs (i + 3))
  have e1 := lw_eL h1 e
  have e2 := lw_eL h2 e1
  refine ⟨m2, h3, e2, fun r hr => ?_⟩
  refine mz_go 3 (c' := (21, [some (.ref 3000), some (.ref 0), some (.ref 65), some (.int (nI i))], [.int (Int32.ofNat (m 3001 0).toNatClampNeg), .int (nI i)], m)) rfl ?_
  rw [show Int32.ofNat (m 3001 0).toNatClampNeg = nI L from by rw [e.2]; rfl]
  refine mz_go 3 (c' := (if ((nI L) - 6) < (nI i) then 1588 else 27, [some (.ref 3000), some (.ref 0), some (.ref 65), some (.int (nI i))], [], m)) rfl ?_
  refine mz_ifF (show ¬ (((nI L) - 6) < (nI i)) from (sm_law hL (by omega) (by omega))) ?_
  refine mz_go 2 (c' := (29, [some (.ref 3000), some (.ref 0), some (.ref 65), some (.int (nI i))], [.int (nI i), .ref 3000], m)) rfl ?_
  refine mz_arr (c' := (30, [some (.ref 3000), some (.ref 0), some (.ref 65), some (.int (nI i))], [.int (m 3000 ((nI i).toNatClampNeg))], m)) rfl (show mz_in (nI i) (m 3001 0).toNatClampNeg = true from by rw [e.2]; exact sm_inN rfl (show i < L by omega) (by omega)) ?_
  rw [show (nI i : Int32).toNatClampNeg = i from sm_clN rfl (show i < 2 ^ 31 by omega)]
  rw [show m 3000 i = xs i from e.1 _]
  refine mz_go 2 (c' := (33, [some (.ref 3000), some (.ref 0), some (.ref 65), some (.int (nI i))], [.int ((xs i) &&& 63)], m)) rfl ?_
  rw [h]
  refine mz_go 6 (c' := (1020, [some (.ref 3000), some (.ref 0), some (.ref 65), some (.int (nI i))], [.int ((nI i) + 1), .ref 3000, .ref 0], m)) rfl ?_
  refine mz_arr (c' := (1021, [some (.ref 3000), some (.ref 0), some (.ref 65), some (.int (nI i))], [.int (m 3000 (((nI i) + 1).toNatClampNeg)), .ref 0], m)) rfl (show mz_in ((nI i) + 1) (m 3001 0).toNatClampNeg = true from by rw [e.2]; exact sm_inN (sm_addN rfl rfl) (show (i + 1) < L by omega) (by omega)) ?_
  rw [show ((nI i) + 1 : Int32).toNatClampNeg = (i + 1) from sm_clN (sm_addN rfl rfl) (show (i + 1) < 2 ^ 31 by omega)]
  rw [show m 3000 (i + 1) = xs (i + 1) from e.1 _]
  refine mz_go 4 (c' := (1025, [some (.ref 3000), some (.ref 0), some (.ref 65), some (.int (nI i))], [.int ((nI i) + 2), .ref 3000, .int (xs (i + 1)), .ref 0], m)) rfl ?_
  refine mz_arr (c' := (1026, [some (.ref 3000), some (.ref 0), some (.ref 65), some (.int (nI i))], [.int (m 3000 (((nI i) + 2).toNatClampNeg)), .int (xs (i + 1)), .ref 0], m)) rfl (show mz_in ((nI i) + 2) (m 3001 0).toNatClampNeg = true from by rw [e.2]; exact sm_inN (sm_addN rfl rfl) (show (i + 2) < L by omega) (by omega)) ?_
  rw [show ((nI i) + 2 : Int32).toNatClampNeg = (i + 2) from sm_clN (sm_addN rfl rfl) (show (i + 2) < 2 ^ 31 by omega)]
  rw [show m 3000 (i + 2) = xs (i + 2) from e.1 _]
  refine mz_go 4 (c' := (1030, [some (.ref 3000), some (.ref 0), some (.ref 65), some (.int (nI i))], [.int ((nI i) + 3), .ref 3000, .int (xs (i + 2)), .int (xs (i + 1)), .ref 0], m)) rfl ?_
  refine mz_arr (c' := (1031, [some (.ref 3000), some (.ref 0), some (.ref 65), some (.int (nI i))], [.int (m 3000 (((nI i) + 3).toNatClampNeg)), .int (xs (i + 2)), .int (xs (i + 1)), .ref 0], m)) rfl (show mz_in ((nI i) + 3) (m 3001 0).toNatClampNeg = true from by rw [e.2]; exact sm_inN (sm_addN rfl rfl) (show (i + 3) < L by omega) (by omega)) ?_
  rw [show ((nI i) + 3 : Int32).toNatClampNeg = (i + 3) from sm_clN (sm_addN rfl rfl) (show (i + 3) < 2 ^ 31 by omega)]
  rw [show m 3000 (i + 3) = xs (i + 3) from e.1 _]
  refine mz_do (R := mz_r90) (as := [.ref 0, .int (xs (i + 1)), .int (xs (i + 2)), .int (xs (i + 3))]) (rest := []) (r1 := some (.int v1)) (m1 := m1) rfl h1 ?_
  refine mz_go 6 (c' := (1040, [some (.ref 3000), some (.ref 0), some (.ref 65), some (.int (nI i))], [.int ((nI i) + 1), .ref 3000, .ref 65], m1)) rfl ?_
  refine mz_arr (c' := (1041, [some (.ref 3000), some (.ref 0), some (.ref 65), some (.int (nI i))], [.int (m1 3000 (((nI i) + 1).toNatClampNeg)), .ref 65], m1)) rfl (show mz_in ((nI i) + 1) (m1 3001 0).toNatClampNeg = true from by rw [e1.2]; exact sm_inN (sm_addN rfl rfl) (show (i + 1) < L by omega) (by omega)) ?_
  rw [show ((nI i) + 1 : Int32).toNatClampNeg = (i + 1) from sm_clN (sm_addN rfl rfl) (show (i + 1) < 2 ^ 31 by omega)]
  rw [show m1 3000 (i + 1) = xs (i + 1) from e1.1 _]
  refine mz_go 4 (c' := (1045, [some (.ref 3000), some (.ref 0), some (.ref 65), some (.int (nI i))], [.int ((nI i) + 2), .ref 3000, .int (xs (i + 1)), .ref 65], m1)) rfl ?_
  refine mz_arr (c' := (1046, [some (.ref 3000), some (.ref 0), some (.ref 65), some (.int (nI i))], [.int (m1 3000 (((nI i) + 2).toNatClampNeg)), .int (xs (i + 1)), .ref 65], m1)) rfl (show mz_in ((nI i) + 2) (m1 3001 0).toNatClampNeg = true from by rw [e1.2]; exact sm_inN (sm_addN rfl rfl) (show (i + 2) < L by omega) (by omega)) ?_
  rw [show ((nI i) + 2 : Int32).toNatClampNeg = (i + 2) from sm_clN (sm_addN rfl rfl) (show (i + 2) < 2 ^ 31 by omega)]
  rw [show m1 3000 (i + 2) = xs (i + 2) from e1.1 _]
  refine mz_go 4 (c' := (1050, [some (.ref 3000), some (.ref 0), some (.ref 65), some (.int (nI i))], [.int ((nI i) + 3), .ref 3000, .int (xs (i + 2)), .int (xs (i + 1)), .ref 65], m1)) rfl ?_
  refine mz_arr (c' := (1051, [some (.ref 3000), some (.ref 0), some (.ref 65), some (.int (nI i))], [.int (m1 3000 (((nI i) + 3).toNatClampNeg)), .int (xs (i + 2)), .int (xs (i + 1)), .ref 65], m1)) rfl (show mz_in ((nI i) + 3) (m1 3001 0).toNatClampNeg = true from by rw [e1.2]; exact sm_inN (sm_addN rfl rfl) (show (i + 3) < L by omega) (by omega)) ?_
  rw [show ((nI i) + 3 : Int32).toNatClampNeg = (i + 3) from sm_clN (sm_addN rfl rfl) (show (i + 3) < 2 ^ 31 by omega)]
  rw [show m1 3000 (i + 3) = xs (i + 3) from e1.1 _]
  refine mz_do (R := mz_r200) (as := [.ref 65, .int (xs (i + 1)), .int (xs (i + 2)), .int (xs (i + 3))]) (rest := []) (r1 := some (.int v2)) (m1 := m2) rfl h2 ?_
  refine mz_go 4 (c' := (18, [some (.ref 3000), some (.ref 0), some (.ref 65), some (.int ((nI i) + 6))], [], m2)) rfl ?_
  exact hr
set_option maxHeartbeats 4000000 in
set_option maxRecDepth 100000 in
theorem lwc_turned {xs : Nat → Int32} {L i j : Nat} (hL : L ≤ 384) (hi : i + 6 ≤ L) {m : mz_M} (hj : j < 64) (hI : sm_I j m) (e : (∀ k, m 3000 k = xs k) ∧ (m 3001 0).toNatClampNeg = L) (h : xs i &&& 63 = 24) : ∃ m2, sm_I (j + 1) m2 ∧ ((∀ k, m2 3000 k = xs k) ∧ (m2 3001 0).toNatClampNeg = L) ∧ ∀ r, mz_Ex 101 mz_kL (18, [some (.ref 3000), some (.ref 0), some (.ref 65), some (.int ((nI i) + 6))], [], m2) r → mz_Ex 101 mz_kL (18, [some (.ref 3000), some (.ref 0), some (.ref 65), some (.int (nI i))], [], m) r := by
  obtain ⟨v1, v2, m1, m2, h1, h2, h3⟩ := sc_turned hj hI (xs (i + 1))
  have e1 := lw_eL h1 e
  have e2 := lw_eL h2 e1
  refine ⟨m2, h3, e2, fun r hr => ?_⟩
  refine mz_go 3 (c' := (21, [some (.ref 3000), some (.ref 0), some (.ref 65), some (.int (nI i))], [.int (Int32.ofNat (m 3001 0).toNatClampNeg), .int (nI i)], m)) rfl ?_
  rw [show Int32.ofNat (m 3001 0).toNatClampNeg = nI L from by rw [e.2]; rfl]
  refine mz_go 3 (c' := (if ((nI L) - 6) < (nI i) then 1588 else 27, [some (.ref 3000), some (.ref 0), some (.ref 65), some (.int (nI i))], [], m)) rfl ?_
  refine mz_ifF (show ¬ (((nI L) - 6) < (nI i)) from (sm_law hL (by omega) (by omega))) ?_
  refine mz_go 2 (c' := (29, [some (.ref 3000), some (.ref 0), some (.ref 65), some (.int (nI i))], [.int (nI i), .ref 3000], m)) rfl ?_
  refine mz_arr (c' := (30, [some (.ref 3000), some (.ref 0), some (.ref 65), some (.int (nI i))], [.int (m 3000 ((nI i).toNatClampNeg))], m)) rfl (show mz_in (nI i) (m 3001 0).toNatClampNeg = true from by rw [e.2]; exact sm_inN rfl (show i < L by omega) (by omega)) ?_
  rw [show (nI i : Int32).toNatClampNeg = i from sm_clN rfl (show i < 2 ^ 31 by omega)]
  rw [show m 3000 i = xs i from e.1 _]
  refine mz_go 2 (c' := (33, [some (.ref 3000), some (.ref 0), some (.ref 65), some (.int (nI i))], [.int ((xs i) &&& 63)], m)) rfl ?_
  rw [h]
  refine mz_go 6 (c' := (1063, [some (.ref 3000), some (.ref 0), some (.ref 65), some (.int (nI i))], [.int ((nI i) + 1), .ref 3000, .ref 0], m)) rfl ?_
  refine mz_arr (c' := (1064, [some (.ref 3000), some (.ref 0), some (.ref 65), some (.int (nI i))], [.int (m 3000 (((nI i) + 1).toNatClampNeg)), .ref 0], m)) rfl (show mz_in ((nI i) + 1) (m 3001 0).toNatClampNeg = true from by rw [e.2]; exact sm_inN (sm_addN rfl rfl) (show (i + 1) < L by omega) (by omega)) ?_
  rw [show ((nI i) + 1 : Int32).toNatClampNeg = (i + 1) from sm_clN (sm_addN rfl rfl) (show (i + 1) < 2 ^ 31 by omega)]
  rw [show m 3000 (i + 1) = xs (i + 1) from e.1 _]
  refine mz_do (R := mz_r91) (as := [.ref 0, .int (xs (i + 1))]) (rest := []) (r1 := some (.int v1)) (m1 := m1) rfl h1 ?_
  refine mz_go 6 (c' := (1073, [some (.ref 3000), some (.ref 0), some (.ref 65), some (.int (nI i))], [.int ((nI i) + 1), .ref 3000, .ref 65], m1)) rfl ?_
  refine mz_arr (c' := (1074, [some (.ref 3000), some (.ref 0), some (.ref 65), some (.int (nI i))], [.int (m1 3000 (((nI i) + 1).toNatClampNeg)), .ref 65], m1)) rfl (show mz_in ((nI i) + 1) (m1 3001 0).toNatClampNeg = true from by rw [e1.2]; exact sm_inN (sm_addN rfl rfl) (show (i + 1) < L by omega) (by omega)) ?_
  rw [show ((nI i) + 1 : Int32).toNatClampNeg = (i + 1) from sm_clN (sm_addN rfl rfl) (show (i + 1) < 2 ^ 31 by omega)]
  rw [show m1 3000 (i + 1) = xs (i + 1) from e1.1 _]
  refine mz_do (R := mz_r201) (as := [.ref 65, .int (xs (i + 1))]) (rest := []) (r1 := some (.int v2)) (m1 := m2) rfl h2 ?_
  refine mz_go 4 (c' := (18, [some (.ref 3000), some (.ref 0), some (.ref 65), some (.int ((nI i) + 6))], [], m2)) rfl ?_
  exact hr
set_option maxHeartbeats 4000000 in
set_option maxRecDepth 100000 in
theorem lwc_fair {xs : Nat → Int32} {L i j : Nat} (hL : L ≤ 384) (hi : i + 6 ≤ L) {m : mz_M} (hj : j < 64) (hI : sm_I j m) (e : (∀ k, m 3000 k = xs k) ∧ (m 3001 0).toNatClampNeg = L) (h : xs i &&& 63 = 25) : ∃ m2, sm_I (j + 1) m2 ∧ ((∀ k, m2 3000 k = xs k) ∧ (m2 3001 0).toNatClampNeg = L) ∧ ∀ r, mz_Ex 101 mz_kL (18, [some (.ref 3000), some (.ref 0), some (.ref 65), some (.int ((nI i) + 6))], [], m2) r → mz_Ex 101 mz_kL (18, [some (.ref 3000), some (.ref 0), some (.ref 65), some (.int (nI i))], [], m) r := by
  obtain ⟨v1, v2, m1, m2, h1, h2, h3⟩ := sc_fair hj hI (xs (i + 1))
  have e1 := lw_eL h1 e
  have e2 := lw_eL h2 e1
  refine ⟨m2, h3, e2, fun r hr => ?_⟩
  refine mz_go 3 (c' := (21, [some (.ref 3000), some (.ref 0), some (.ref 65), some (.int (nI i))], [.int (Int32.ofNat (m 3001 0).toNatClampNeg), .int (nI i)], m)) rfl ?_
  rw [show Int32.ofNat (m 3001 0).toNatClampNeg = nI L from by rw [e.2]; rfl]
  refine mz_go 3 (c' := (if ((nI L) - 6) < (nI i) then 1588 else 27, [some (.ref 3000), some (.ref 0), some (.ref 65), some (.int (nI i))], [], m)) rfl ?_
  refine mz_ifF (show ¬ (((nI L) - 6) < (nI i)) from (sm_law hL (by omega) (by omega))) ?_
  refine mz_go 2 (c' := (29, [some (.ref 3000), some (.ref 0), some (.ref 65), some (.int (nI i))], [.int (nI i), .ref 3000], m)) rfl ?_
  refine mz_arr (c' := (30, [some (.ref 3000), some (.ref 0), some (.ref 65), some (.int (nI i))], [.int (m 3000 ((nI i).toNatClampNeg))], m)) rfl (show mz_in (nI i) (m 3001 0).toNatClampNeg = true from by rw [e.2]; exact sm_inN rfl (show i < L by omega) (by omega)) ?_
  rw [show (nI i : Int32).toNatClampNeg = i from sm_clN rfl (show i < 2 ^ 31 by omega)]
  rw [show m 3000 i = xs i from e.1 _]
  refine mz_go 2 (c' := (33, [some (.ref 3000), some (.ref 0), some (.ref 65), some (.int (nI i))], [.int ((xs i) &&& 63)], m)) rfl ?_
  rw [h]
  refine mz_go 6 (c' := (1086, [some (.ref 3000), some (.ref 0), some (.ref 65), some (.int (nI i))], [.int ((nI i) + 1), .ref 3000, .ref 0], m)) rfl ?_
  refine mz_arr (c' := (1087, [some (.ref 3000), some (.ref 0), some (.ref 65), some (.int (nI i))], [.int (m 3000 (((nI i) + 1).toNatClampNeg)), .ref 0], m)) rfl (show mz_in ((nI i) + 1) (m 3001 0).toNatClampNeg = true from by rw [e.2]; exact sm_inN (sm_addN rfl rfl) (show (i + 1) < L by omega) (by omega)) ?_
  rw [show ((nI i) + 1 : Int32).toNatClampNeg = (i + 1) from sm_clN (sm_addN rfl rfl) (show (i + 1) < 2 ^ 31 by omega)]
  rw [show m 3000 (i + 1) = xs (i + 1) from e.1 _]
  refine mz_do (R := mz_r92) (as := [.ref 0, .int (xs (i + 1))]) (rest := []) (r1 := some (.int v1)) (m1 := m1) rfl h1 ?_
  refine mz_go 6 (c' := (1096, [some (.ref 3000), some (.ref 0), some (.ref 65), some (.int (nI i))], [.int ((nI i) + 1), .ref 3000, .ref 65], m1)) rfl ?_
  refine mz_arr (c' := (1097, [some (.ref 3000), some (.ref 0), some (.ref 65), some (.int (nI i))], [.int (m1 3000 (((nI i) + 1).toNatClampNeg)), .ref 65], m1)) rfl (show mz_in ((nI i) + 1) (m1 3001 0).toNatClampNeg = true from by rw [e1.2]; exact sm_inN (sm_addN rfl rfl) (show (i + 1) < L by omega) (by omega)) ?_
  rw [show ((nI i) + 1 : Int32).toNatClampNeg = (i + 1) from sm_clN (sm_addN rfl rfl) (show (i + 1) < 2 ^ 31 by omega)]
  rw [show m1 3000 (i + 1) = xs (i + 1) from e1.1 _]
  refine mz_do (R := mz_r202) (as := [.ref 65, .int (xs (i + 1))]) (rest := []) (r1 := some (.int v2)) (m1 := m2) rfl h2 ?_
  refine mz_go 4 (c' := (18, [some (.ref 3000), some (.ref 0), some (.ref 65), some (.int ((nI i) + 6))], [], m2)) rfl ?_
  exact hr
set_option maxHeartbeats 4000000 in
set_option maxRecDepth 100000 in
theorem lwc_want {xs : Nat → Int32} {L i j : Nat} (hL : L ≤ 384) (hi : i + 6 ≤ L) {m : mz_M} (hj : j < 64) (hI : sm_I j m) (e : (∀ k, m 3000 k = xs k) ∧ (m 3001 0).toNatClampNeg = L) (h : xs i &&& 63 = 26) : ∃ m2, sm_I (j + 1) m2 ∧ ((∀ k, m2 3000 k = xs k) ∧ (m2 3001 0).toNatClampNeg = L) ∧ ∀ r, mz_Ex 101 mz_kL (18, [some (.ref 3000), some (.ref 0), some (.ref 65), some (.int ((nI i) + 6))], [], m2) r → mz_Ex 101 mz_kL (18, [some (.ref 3000), some (.ref 0), some (.ref 65), some (.int (nI i))], [], m) r := by
  obtain ⟨v1, v2, m1, m2, h1, h2, h3⟩ := sc_want hj hI (xs (i + 1))
  have e1 := lw_eL h1 e
  have e2 := lw_eL h2 e1
  refine ⟨m2, h3, e2, fun r hr => ?_⟩
  refine mz_go 3 (c' := (21, [some (.ref 3000), some (.ref 0), some (.ref 65), some (.int (nI i))], [.int (Int32.ofNat (m 3001 0).toNatClampNeg), .int (nI i)], m)) rfl ?_
  rw [show Int32.ofNat (m 3001 0).toNatClampNeg = nI L from by rw [e.2]; rfl]
  refine mz_go 3 (c' := (if ((nI L) - 6) < (nI i) then 1588 else 27, [some (.ref 3000), some (.ref 0), some (.ref 65), some (.int (nI i))], [], m)) rfl ?_
  refine mz_ifF (show ¬ (((nI L) - 6) < (nI i)) from (sm_law hL (by omega) (by omega))) ?_
  refine mz_go 2 (c' := (29, [some (.ref 3000), some (.ref 0), some (.ref 65), some (.int (nI i))], [.int (nI i), .ref 3000], m)) rfl ?_
  refine mz_arr (c' := (30, [some (.ref 3000), some (.ref 0), some (.ref 65), some (.int (nI i))], [.int (m 3000 ((nI i).toNatClampNeg))], m)) rfl (show mz_in (nI i) (m 3001 0).toNatClampNeg = true from by rw [e.2]; exact sm_inN rfl (show i < L by omega) (by omega)) ?_
  rw [show (nI i : Int32).toNatClampNeg = i from sm_clN rfl (show i < 2 ^ 31 by omega)]
  rw [show m 3000 i = xs i from e.1 _]
  refine mz_go 2 (c' := (33, [some (.ref 3000), some (.ref 0), some (.ref 65), some (.int (nI i))], [.int ((xs i) &&& 63)], m)) rfl ?_
  rw [h]
  refine mz_go 6 (c' := (1109, [some (.ref 3000), some (.ref 0), some (.ref 65), some (.int (nI i))], [.int ((nI i) + 1), .ref 3000, .ref 0], m)) rfl ?_
  refine mz_arr (c' := (1110, [some (.ref 3000), some (.ref 0), some (.ref 65), some (.int (nI i))], [.int (m 3000 (((nI i) + 1).toNatClampNeg)), .ref 0], m)) rfl (show mz_in ((nI i) + 1) (m 3001 0).toNatClampNeg = true from by rw [e.2]; exact sm_inN (sm_addN rfl rfl) (show (i + 1) < L by omega) (by omega)) ?_
  rw [show ((nI i) + 1 : Int32).toNatClampNeg = (i + 1) from sm_clN (sm_addN rfl rfl) (show (i + 1) < 2 ^ 31 by omega)]
  rw [show m 3000 (i + 1) = xs (i + 1) from e.1 _]
  refine mz_do (R := mz_r93) (as := [.ref 0, .int (xs (i + 1))]) (rest := []) (r1 := some (.int v1)) (m1 := m1) rfl h1 ?_
  refine mz_go 6 (c' := (1119, [some (.ref 3000), some (.ref 0), some (.ref 65), some (.int (nI i))], [.int ((nI i) + 1), .ref 3000, .ref 65], m1)) rfl ?_
  refine mz_arr (c' := (1120, [some (.ref 3000), some (.ref 0), some (.ref 65), some (.int (nI i))], [.int (m1 3000 (((nI i) + 1).toNatClampNeg)), .ref 65], m1)) rfl (show mz_in ((nI i) + 1) (m1 3001 0).toNatClampNeg = true from by rw [e1.2]; exact sm_inN (sm_addN rfl rfl) (show (i + 1) < L by omega) (by omega)) ?_
  rw [show ((nI i) + 1 : Int32).toNatClampNeg = (i + 1) from sm_clN (sm_addN rfl rfl) (show (i + 1) < 2 ^ 31 by omega)]
  rw [show m1 3000 (i + 1) = xs (i + 1) from e1.1 _]
  refine mz_do (R := mz_r204) (as := [.ref 65, .int (xs (i + 1))]) (rest := []) (r1 := some (.int v2)) (m1 := m2) rfl h2 ?_
  refine mz_go 4 (c' := (18, [some (.ref 3000), some (.ref 0), some (.ref 65), some (.int ((nI i) + 6))], [], m2)) rfl ?_
  exact hr
set_option maxHeartbeats 4000000 in
set_option maxRecDepth 100000 in
theorem lwc_throwsOf {xs : Nat → Int32} {L i j : Nat} (hL : L ≤ 384) (hi : i + 6 ≤ L) {m : mz_M} (hj : j < 64) (hI : sm_I j m) (e : (∀ k, m 3000 k = xs k) ∧ (m 3001 0).toNatClampNeg = L) (h : xs i &&& 63 = 27) : ∃ m2, sm_I (j + 1) m2 ∧ ((∀ k, m2 3000 k = xs k) ∧ (m2 3001 0).toNatClampNeg = L) ∧ ∀ r, mz_Ex 101 mz_kL (18, [some (.ref 3000), some (.ref 0), some (.ref 65), some (.int ((nI i) + 6))], [], m2) r → mz_Ex 101 mz_kL (18, [some (.ref 3000), some (.ref 0), some (.ref 65), some (.int (nI i))], [], m) r := by
  obtain ⟨v1, v2, m1, m2, h1, h2, h3⟩ := sc_throwsOf hj hI (xs (i + 1)) (xs (i + 2)) (xs (i + 3)) (xs (i + 4))
  have e1 := lw_eL h1 e
  have e2 := lw_eL h2 e1
  refine ⟨m2, h3, e2, fun r hr => ?_⟩
  refine mz_go 3 (c' := (21, [some (.ref 3000), some (.ref 0), some (.ref 65), some (.int (nI i))], [.int (Int32.ofNat (m 3001 0).toNatClampNeg), .int (nI i)], m)) rfl ?_
  rw [show Int32.ofNat (m 3001 0).toNatClampNeg = nI L from by rw [e.2]; rfl]
  refine mz_go 3 (c' := (if ((nI L) - 6) < (nI i) then 1588 else 27, [some (.ref 3000), some (.ref 0), some (.ref 65), some (.int (nI i))], [], m)) rfl ?_
  refine mz_ifF (show ¬ (((nI L) - 6) < (nI i)) from (sm_law hL (by omega) (by omega))) ?_
  refine mz_go 2 (c' := (29, [some (.ref 3000), some (.ref 0), some (.ref 65), some (.int (nI i))], [.int (nI i), .ref 3000], m)) rfl ?_
  refine mz_arr (c' := (30, [some (.ref 3000), some (.ref 0), some (.ref 65), some (.int (nI i))], [.int (m 3000 ((nI i).toNatClampNeg))], m)) rfl (show mz_in (nI i) (m 3001 0).toNatClampNeg = true from by rw [e.2]; exact sm_inN rfl (show i < L by omega) (by omega)) ?_
  rw [show (nI i : Int32).toNatClampNeg = i from sm_clN rfl (show i < 2 ^ 31 by omega)]
  rw [show m 3000 i = xs i from e.1 _]
  refine mz_go 2 (c' := (33, [some (.ref 3000), some (.ref 0), some (.ref 65), some (.int (nI i))], [.int ((xs i) &&& 63)], m)) rfl ?_
  rw [h]
  refine mz_go 6 (c' := (1132, [some (.ref 3000), some (.ref 0), some (.ref 65), some (.int (nI i))], [.int ((nI i) + 1), .ref 3000, .ref 0], m)) rfl ?_
  refine mz_arr (c' := (1133, [some (.ref 3000), some (.ref 0), some (.ref 65), some (.int (nI i))], [.int (m 3000 (((nI i) + 1).toNatClampNeg)), .ref 0], m)) rfl (show mz_in ((nI i) + 1) (m 3001 0).toNatClampNeg = true from by rw [e.2]; exact sm_inN (sm_addN rfl rfl) (show (i + 1) < L by omega) (by omega)) ?_
  rw [show ((nI i) + 1 : Int32).toNatClampNeg = (i + 1) from sm_clN (sm_addN rfl rfl) (show (i + 1) < 2 ^ 31 by omega)]
  rw [show m 3000 (i + 1) = xs (i + 1) from e.1 _]
  refine mz_go 4 (c' := (1137, [some (.ref 3000), some (.ref 0), some (.ref 65), some (.int (nI i))], [.int ((nI i) + 2), .ref 3000, .int (xs (i + 1)), .ref 0], m)) rfl ?_
  refine mz_arr (c' := (1138, [some (.ref 3000), some (.ref 0), some (.ref 65), some (.int (nI i))], [.int (m 3000 (((nI i) + 2).toNatClampNeg)), .int (xs (i + 1)), .ref 0], m)) rfl (show mz_in ((nI i) + 2) (m 3001 0).toNatClampNeg = true from by rw [e.2]; exact sm_inN (sm_addN rfl rfl) (show (i + 2) < L by omega) (by omega)) ?_
  rw [show ((nI i) + 2 : Int32).toNatClampNeg = (i + 2) from sm_clN (sm_addN rfl rfl) (show (i + 2) < 2 ^ 31 by omega)]
  rw [show m 3000 (i + 2) = xs (i + 2) from e.1 _]
  refine mz_go 4 (c' := (1142, [some (.ref 3000), some (.ref 0), some (.ref 65), some (.int (nI i))], [.int ((nI i) + 3), .ref 3000, .int (xs (i + 2)), .int (xs (i + 1)), .ref 0], m)) rfl ?_
  refine mz_arr (c' := (1143, [some (.ref 3000), some (.ref 0), some (.ref 65), some (.int (nI i))], [.int (m 3000 (((nI i) + 3).toNatClampNeg)), .int (xs (i + 2)), .int (xs (i + 1)), .ref 0], m)) rfl (show mz_in ((nI i) + 3) (m 3001 0).toNatClampNeg = true from by rw [e.2]; exact sm_inN (sm_addN rfl rfl) (show (i + 3) < L by omega) (by omega)) ?_
  rw [show ((nI i) + 3 : Int32).toNatClampNeg = (i + 3) from sm_clN (sm_addN rfl rfl) (show (i + 3) < 2 ^ 31 by omega)]
  rw [show m 3000 (i + 3) = xs (i + 3) from e.1 _]
  refine mz_go 4 (c' := (1147, [some (.ref 3000), some (.ref 0), some (.ref 65), some (.int (nI i))], [.int ((nI i) + 4), .ref 3000, .int (xs (i + 3)), .int (xs (i + 2)), .int (xs (i + 1)), .ref 0], m)) rfl ?_
  refine mz_arr (c' := (1148, [some (.ref 3000), some (.ref 0), some (.ref 65), some (.int (nI i))], [.int (m 3000 (((nI i) + 4).toNatClampNeg)), .int (xs (i + 3)), .int (xs (i + 2)), .int (xs (i + 1)), .ref 0], m)) rfl (show mz_in ((nI i) + 4) (m 3001 0).toNatClampNeg = true from by rw [e.2]; exact sm_inN (sm_addN rfl rfl) (show (i + 4) < L by omega) (by omega)) ?_
  rw [show ((nI i) + 4 : Int32).toNatClampNeg = (i + 4) from sm_clN (sm_addN rfl rfl) (show (i + 4) < 2 ^ 31 by omega)]
  rw [show m 3000 (i + 4) = xs (i + 4) from e.1 _]
  refine mz_do (R := mz_r94) (as := [.ref 0, .int (xs (i + 1)), .int (xs (i + 2)), .int (xs (i + 3)), .int (xs (i + 4))]) (rest := []) (r1 := some (.int v1)) (m1 := m1) rfl h1 ?_
  refine mz_go 6 (c' := (1157, [some (.ref 3000), some (.ref 0), some (.ref 65), some (.int (nI i))], [.int ((nI i) + 1), .ref 3000, .ref 65], m1)) rfl ?_
  refine mz_arr (c' := (1158, [some (.ref 3000), some (.ref 0), some (.ref 65), some (.int (nI i))], [.int (m1 3000 (((nI i) + 1).toNatClampNeg)), .ref 65], m1)) rfl (show mz_in ((nI i) + 1) (m1 3001 0).toNatClampNeg = true from by rw [e1.2]; exact sm_inN (sm_addN rfl rfl) (show (i + 1) < L by omega) (by omega)) ?_
  rw [show ((nI i) + 1 : Int32).toNatClampNeg = (i + 1) from sm_clN (sm_addN rfl rfl) (show (i + 1) < 2 ^ 31 by omega)]
  rw [show m1 3000 (i + 1) = xs (i + 1) from e1.1 _]
  refine mz_go 4 (c' := (1162, [some (.ref 3000), some (.ref 0), some (.ref 65), some (.int (nI i))], [.int ((nI i) + 2), .ref 3000, .int (xs (i + 1)), .ref 65], m1)) rfl ?_
  refine mz_arr (c' := (1163, [some (.ref 3000), some (.ref 0), some (.ref 65), some (.int (nI i))], [.int (m1 3000 (((nI i) + 2).toNatClampNeg)), .int (xs (i + 1)), .ref 65], m1)) rfl (show mz_in ((nI i) + 2) (m1 3001 0).toNatClampNeg = true from by rw [e1.2]; exact sm_inN (sm_addN rfl rfl) (show (i + 2) < L by omega) (by omega)) ?_
  rw [show ((nI i) + 2 : Int32).toNatClampNeg = (i + 2) from sm_clN (sm_addN rfl rfl) (show (i + 2) < 2 ^ 31 by omega)]
  rw [show m1 3000 (i + 2) = xs (i + 2) from e1.1 _]
  refine mz_go 4 (c' := (1167, [some (.ref 3000), some (.ref 0), some (.ref 65), some (.int (nI i))], [.int ((nI i) + 3), .ref 3000, .int (xs (i + 2)), .int (xs (i + 1)), .ref 65], m1)) rfl ?_
  refine mz_arr (c' := (1168, [some (.ref 3000), some (.ref 0), some (.ref 65), some (.int (nI i))], [.int (m1 3000 (((nI i) + 3).toNatClampNeg)), .int (xs (i + 2)), .int (xs (i + 1)), .ref 65], m1)) rfl (show mz_in ((nI i) + 3) (m1 3001 0).toNatClampNeg = true from by rw [e1.2]; exact sm_inN (sm_addN rfl rfl) (show (i + 3) < L by omega) (by omega)) ?_
  rw [show ((nI i) + 3 : Int32).toNatClampNeg = (i + 3) from sm_clN (sm_addN rfl rfl) (show (i + 3) < 2 ^ 31 by omega)]
  rw [show m1 3000 (i + 3) = xs (i + 3) from e1.1 _]
  refine mz_go 4 (c' := (1172, [some (.ref 3000), some (.ref 0), some (.ref 65), some (.int (nI i))], [.int ((nI i) + 4), .ref 3000, .int (xs (i + 3)), .int (xs (i + 2)), .int (xs (i + 1)), .ref 65], m1)) rfl ?_
  refine mz_arr (c' := (1173, [some (.ref 3000), some (.ref 0), some (.ref 65), some (.int (nI i))], [.int (m1 3000 (((nI i) + 4).toNatClampNeg)), .int (xs (i + 3)), .int (xs (i + 2)), .int (xs (i + 1)), .ref 65], m1)) rfl (show mz_in ((nI i) + 4) (m1 3001 0).toNatClampNeg = true from by rw [e1.2]; exact sm_inN (sm_addN rfl rfl) (show (i + 4) < L by omega) (by omega)) ?_
  rw [show ((nI i) + 4 : Int32).toNatClampNeg = (i + 4) from sm_clN (sm_addN rfl rfl) (show (i + 4) < 2 ^ 31 by omega)]
  rw [show m1 3000 (i + 4) = xs (i + 4) from e1.1 _]
  refine mz_do (R := mz_r206) (as := [.ref 65, .int (xs (i + 1)), .int (xs (i + 2)), .int (xs (i + 3)), .int (xs (i + 4))]) (rest := []) (r1 := some (.int v2)) (m1 := m2) rfl h2 ?_
  refine mz_go 4 (c' := (18, [some (.ref 3000), some (.ref 0), some (.ref 65), some (.int ((nI i) + 6))], [], m2)) rfl ?_
  exact hr
set_option maxHeartbeats 4000000 in
set_option maxRecDepth 100000 in
theorem lwc_thrownAt {xs : Nat → Int32} {L i j : Nat} (hL : L ≤ 384) (hi : i + 6 ≤ L) {m : mz_M} (hj : j < 64) (hI : sm_I j m) (e : (∀ k, m 3000 k = xs k) ∧ (m 3001 0).toNatClampNeg = L) (h : xs i &&& 63 = 28) : ∃ m2, sm_I (j + 1) m2 ∧ ((∀ k, m2 3000 k = xs k) ∧ (m2 3001 0).toNatClampNeg = L) ∧ ∀ r, mz_Ex 101 mz_kL (18, [some (.ref 3000), some (.ref 0), some (.ref 65), some (.int ((nI i) + 6))], [], m2) r → mz_Ex 101 mz_kL (18, [some (.ref 3000), some (.ref 0), some (.ref 65), some (.int (nI i))], [], m) r := by
  obtain ⟨v1, v2, m1, m2, h1, h2, h3, hv⟩ := sc_thrownAt hj hI (xs (i + 1))
  have e1 := lw_eL h1 e
  have e2 := lw_eL h2 e1
  refine ⟨m2, h3, e2, fun r hr => ?_⟩
  refine mz_go 3 (c' := (21, [some (.ref 3000), some (.ref 0), some (.ref 65), some (.int (nI i))], [.int (Int32.ofNat (m 3001 0).toNatClampNeg), .int (nI i)], m)) rfl ?_
  rw [show Int32.ofNat (m 3001 0).toNatClampNeg = nI L from by rw [e.2]; rfl]
  refine mz_go 3 (c' := (if ((nI L) - 6) < (nI i) then 1588 else 27, [some (.ref 3000), some (.ref 0), some (.ref 65), some (.int (nI i))], [], m)) rfl ?_
  refine mz_ifF (show ¬ (((nI L) - 6) < (nI i)) from (sm_law hL (by omega) (by omega))) ?_
  refine mz_go 2 (c' := (29, [some (.ref 3000), some (.ref 0), some (.ref 65), some (.int (nI i))], [.int (nI i), .ref 3000], m)) rfl ?_
  refine mz_arr (c' := (30, [some (.ref 3000), some (.ref 0), some (.ref 65), some (.int (nI i))], [.int (m 3000 ((nI i).toNatClampNeg))], m)) rfl (show mz_in (nI i) (m 3001 0).toNatClampNeg = true from by rw [e.2]; exact sm_inN rfl (show i < L by omega) (by omega)) ?_
  rw [show (nI i : Int32).toNatClampNeg = i from sm_clN rfl (show i < 2 ^ 31 by omega)]
  rw [show m 3000 i = xs i from e.1 _]
  refine mz_go 2 (c' := (33, [some (.ref 3000), some (.ref 0), some (.ref 65), some (.int (nI i))], [.int ((xs i) &&& 63)], m)) rfl ?_
  rw [h]
  refine mz_go 6 (c' := (1185, [some (.ref 3000), some (.ref 0), some (.ref 65), some (.int (nI i))], [.int ((nI i) + 1), .ref 3000, .ref 0], m)) rfl ?_
  refine mz_arr (c' := (1186, [some (.ref 3000), some (.ref 0), some (.ref 65), some (.int (nI i))], [.int (m 3000 (((nI i) + 1).toNatClampNeg)), .ref 0], m)) rfl (show mz_in ((nI i) + 1) (m 3001 0).toNatClampNeg = true from by rw [e.2]; exact sm_inN (sm_addN rfl rfl) (show (i + 1) < L by omega) (by omega)) ?_
  rw [show ((nI i) + 1 : Int32).toNatClampNeg = (i + 1) from sm_clN (sm_addN rfl rfl) (show (i + 1) < 2 ^ 31 by omega)]
  rw [show m 3000 (i + 1) = xs (i + 1) from e.1 _]
  refine mz_do (R := mz_r95) (as := [.ref 0, .int (xs (i + 1))]) (rest := []) (r1 := some (.int v1)) (m1 := m1) rfl h1 ?_
  refine mz_go 6 (c' := (1195, [some (.ref 3000), some (.ref 0), some (.ref 65), some (.int (nI i))], [.int ((nI i) + 1), .ref 3000, .ref 65], m1)) rfl ?_
  refine mz_arr (c' := (1196, [some (.ref 3000), some (.ref 0), some (.ref 65), some (.int (nI i))], [.int (m1 3000 (((nI i) + 1).toNatClampNeg)), .ref 65], m1)) rfl (show mz_in ((nI i) + 1) (m1 3001 0).toNatClampNeg = true from by rw [e1.2]; exact sm_inN (sm_addN rfl rfl) (show (i + 1) < L by omega) (by omega)) ?_
  rw [show ((nI i) + 1 : Int32).toNatClampNeg = (i + 1) from sm_clN (sm_addN rfl rfl) (show (i + 1) < 2 ^ 31 by omega)]
  rw [show m1 3000 (i + 1) = xs (i + 1) from e1.1 _]
  refine mz_do (R := mz_r207) (as := [.ref 65, .int (xs (i + 1))]) (rest := []) (r1 := some (.int v2)) (m1 := m2) rfl h2 ?_
  refine mz_go 4 (c' := (18, [some (.ref 3000), some (.ref 0), some (.ref 65), some (.int ((nI i) + 6))], [], m2)) rfl ?_
  exact hr
set_option maxHeartbeats 4000000 in
set_option maxRecDepth 100000 in
theorem lwc_seed {xs : Nat → Int32} {L i j : Nat} (hL : L ≤ 384) (hi : i + 6 ≤ L) {m : mz_M} (hj : j < 64) (hI : sm_I j m) (e : (∀ k, m 3000 k = xs k) ∧ (m 3001 0).toNatClampNeg = L) (h : xs i &&& 63 = 29) : ∃ m2, sm_I (j + 1) m2 ∧ ((∀ k, m2 3000 k = xs k) ∧ (m2 3001 0).toNatClampNeg = L) ∧ ∀ r, mz_Ex 101 mz_kL (18, [some (.ref 3000), some (.ref 0), some (.ref 65), some (.int ((nI i) + 6))], [], m2) r → mz_Ex 101 mz_kL (18, [some (.ref 3000), some (.ref 0), some (.ref 65), some (.int (nI i))], [], m) r := by
  obtain ⟨v1, v2, m1, m2, h1, h2, h3, hv⟩ := sc_seed hj hI (xs (i + 1))
  have e1 := lw_eL h1 e
  have e2 := lw_eL h2 e1
  refine ⟨m2, h3, e2, fun r hr => ?_⟩
  refine mz_go 3 (c' := (21, [some (.ref 3000), some (.ref 0), some (.ref 65), some (.int (nI i))], [.int (Int32.ofNat (m 3001 0).toNatClampNeg), .int (nI i)], m)) rfl ?_
  rw [show Int32.ofNat (m 3001 0).toNatClampNeg = nI L from by rw [e.2]; rfl]
  refine mz_go 3 (c' := (if ((nI L) - 6) < (nI i) then 1588 else 27, [some (.ref 3000), some (.ref 0), some (.ref 65), some (.int (nI i))], [], m)) rfl ?_
  refine mz_ifF (show ¬ (((nI L) - 6) < (nI i)) from (sm_law hL (by omega) (by omega))) ?_
  refine mz_go 2 (c' := (29, [some (.ref 3000), some (.ref 0), some (.ref 65), some (.int (nI i))], [.int (nI i), .ref 3000], m)) rfl ?_
  refine mz_arr (c' := (30, [some (.ref 3000), some (.ref 0), some (.ref 65), some (.int (nI i))], [.int (m 3000 ((nI i).toNatClampNeg))], m)) rfl (show mz_in (nI i) (m 3001 0).toNatClampNeg = true from by rw [e.2]; exact sm_inN rfl (show i < L by omega) (by omega)) ?_
  rw [show (nI i : Int32).toNatClampNeg = i from sm_clN rfl (show i < 2 ^ 31 by omega)]
  rw [show m 3000 i = xs i from e.1 _]
  refine mz_go 2 (c' := (33, [some (.ref 3000), some (.ref 0), some (.ref 65), some (.int (nI i))], [.int ((xs i) &&& 63)], m)) rfl ?_
  rw [h]
  refine mz_go 6 (c' := (1208, [some (.ref 3000), some (.ref 0), some (.ref 65), some (.int (nI i))], [.int ((nI i) + 1), .ref 3000, .ref 0], m)) rfl ?_
  refine mz_arr (c' := (1209, [some (.ref 3000), some (.ref 0), some (.ref 65), some (.int (nI i))], [.int (m 3000 (((nI i) + 1).toNatClampNeg)), .ref 0], m)) rfl (show mz_in ((nI i) + 1) (m 3001 0).toNatClampNeg = true from by rw [e.2]; exact sm_inN (sm_addN rfl rfl) (show (i + 1) < L by omega) (by omega)) ?_
  rw [show ((nI i) + 1 : Int32).toNatClampNeg = (i + 1) from sm_clN (sm_addN rfl rfl) (show (i + 1) < 2 ^ 31 by omega)]
  rw [show m 3000 (i + 1) = xs (i + 1) from e.1 _]
  refine mz_do (R := mz_r96) (as := [.ref 0, .int (xs (i + 1))]) (rest := []) (r1 := some (.int v1)) (m1 := m1) rfl h1 ?_
  refine mz_go 6 (c' := (1218, [some (.ref 3000), some (.ref 0), some (.ref 65), some (.int (nI i))], [.int ((nI i) + 1), .ref 3000, .ref 65], m1)) rfl ?_
  refine mz_arr (c' := (1219, [some (.ref 3000), some (.ref 0), some (.ref 65), some (.int (nI i))], [.int (m1 3000 (((nI i) + 1).toNatClampNeg)), .ref 65], m1)) rfl (show mz_in ((nI i) + 1) (m1 3001 0).toNatClampNeg = true from by rw [e1.2]; exact sm_inN (sm_addN rfl rfl) (show (i + 1) < L by omega) (by omega)) ?_
  rw [show ((nI i) + 1 : Int32).toNatClampNeg = (i + 1) from sm_clN (sm_addN rfl rfl) (show (i + 1) < 2 ^ 31 by omega)]
  rw [show m1 3000 (i + 1) = xs (i + 1) from e1.1 _]
  refine mz_do (R := mz_r208) (as := [.ref 65, .int (xs (i + 1))]) (rest := []) (r1 := some (.int v2)) (m1 := m2) rfl h2 ?_
  refine mz_go 4 (c' := (18, [some (.ref 3000), some (.ref 0), some (.ref 65), some (.int ((nI i) + 6))], [], m2)) rfl ?_
  exact hr
set_option maxHeartbeats 4000000 in
set_option maxRecDepth 100000 in
theorem lwc_voice {xs : Nat → Int32} {L i j : Nat} (hL : L ≤ 384) (hi : i + 6 ≤ L) {m : mz_M} (hj : j < 64) (hI : sm_I j m) (e : (∀ k, m 3000 k = xs k) ∧ (m 3001 0).toNatClampNeg = L) (h : xs i &&& 63 = 30) : ∃ m2, sm_I (j + 1) m2 ∧ ((∀ k, m2 3000 k = xs k) ∧ (m2 3001 0).toNatClampNeg = L) ∧ ∀ r, mz_Ex 101 mz_kL (18, [some (.ref 3000), some (.ref 0), some (.ref 65), some (.int ((nI i) + 6))], [], m2) r → mz_Ex 101 mz_kL (18, [some (.ref 3000), some (.ref 0), some (.ref 65), some (.int (nI i))], [], m) r := by
  obtain ⟨v1, v2, m1, m2, h1, h2, h3⟩ := sc_voice hj hI (xs (i + 1)) (xs (i + 2)) (xs (i + 3))
  have e1 := lw_eL h1 e
  have e2 := lw_eL h2 e1
  refine ⟨m2, h3, e2, fun r hr => ?_⟩
  refine mz_go 3 (c' := (21, [some (.ref 3000), some (.ref 0), some (.ref 65), some (.int (nI i))], [.int (Int32.ofNat (m 3001 0).toNatClampNeg), .int (nI i)], m)) rfl ?_
  rw [show Int32.ofNat (m 3001 0).toNatClampNeg = nI L from by rw [e.2]; rfl]
  refine mz_go 3 (c' := (if ((nI L) - 6) < (nI i) then 1588 else 27, [some (.ref 3000), some (.ref 0), some (.ref 65), some (.int (nI i))], [], m)) rfl ?_
  refine mz_ifF (show ¬ (((nI L) - 6) < (nI i)) from (sm_law hL (by omega) (by omega))) ?_
  refine mz_go 2 (c' := (29, [some (.ref 3000), some (.ref 0), some (.ref 65), some (.int (nI i))], [.int (nI i), .ref 3000], m)) rfl ?_
  refine mz_arr (c' := (30, [some (.ref 3000), some (.ref 0), some (.ref 65), some (.int (nI i))], [.int (m 3000 ((nI i).toNatClampNeg))], m)) rfl (show mz_in (nI i) (m 3001 0).toNatClampNeg = true from by rw [e.2]; exact sm_inN rfl (show i < L by omega) (by omega)) ?_
  rw [show (nI i : Int32).toNatClampNeg = i from sm_clN rfl (show i < 2 ^ 31 by omega)]
  rw [show m 3000 i = xs i from e.1 _]
  refine mz_go 2 (c' := (33, [some (.ref 3000), some (.ref 0), some (.ref 65), some (.int (nI i))], [.int ((xs i) &&& 63)], m)) rfl ?_
  rw [h]
  refine mz_go 6 (c' := (1231, [some (.ref 3000), some (.ref 0), some (.ref 65), some (.int (nI i))], [.int ((nI i) + 1), .ref 3000, .ref 0], m)) rfl ?_
  refine mz_arr (c' := (1232, [some (.ref 3000), some (.ref 0), some (.ref 65), some (.int (nI i))], [.int (m 3000 (((nI i) + 1).toNatClampNeg)), .ref 0], m)) rfl (show mz_in ((nI i) + 1) (m 3001 0).toNatClampNeg = true from by rw [e.2]; exact sm_inN (sm_addN rfl rfl) (show (i + 1) < L by omega) (by omega)) ?_
  rw [show ((nI i) + 1 : Int32).toNatClampNeg = (i + 1) from sm_clN (sm_addN rfl rfl) (show (i + 1) < 2 ^ 31 by omega)]
  rw [show m 3000 (i + 1) = xs (i + 1) from e.1 _]
  refine mz_go 4 (c' := (1236, [some (.ref 3000), some (.ref 0), some (.ref 65), some (.int (nI i))], [.int ((nI i) + 2), .ref 3000, .int (xs (i + 1)), .ref 0], m)) rfl ?_
  refine mz_arr (c' := (1237, [some (.ref 3000), some (.ref 0), some (.ref 65), some (.int (nI i))], [.int (m 3000 (((nI i) + 2).toNatClampNeg)), .int (xs (i + 1)), .ref 0], m)) rfl (show mz_in ((nI i) + 2) (m 3001 0).toNatClampNeg = true from by rw [e.2]; exact sm_inN (sm_addN rfl rfl) (show (i + 2) < L by omega) (by omega)) ?_
  rw [show ((nI i) + 2 : Int32).toNatClampNeg = (i + 2) from sm_clN (sm_addN rfl rfl) (show (i + 2) < 2 ^ 31 by omega)]
  rw [show m 3000 (i + 2) = xs (i + 2) from e.1 _]
  refine mz_go 4 (c' := (1241, [some (.ref 3000), some (.ref 0), some (.ref 65), some (.int (nI i))], [.int ((nI i) + 3), .ref 3000, .int (xs (i + 2)), .int (xs (i + 1)), .ref 0], m)) rfl ?_
  refine mz_arr (c' := (1242, [some (.ref 3000), some (.ref 0), some (.ref 65), some (.int (nI i))], [.int (m 3000 (((nI i) + 3).toNatClampNeg)), .int (xs (i + 2)), .int (xs (i + 1)), .ref 0], m)) rfl (show mz_in ((nI i) + 3) (m 3001 0).toNatClampNeg = true from by rw [e.2]; exact sm_inN (sm_addN rfl rfl) (show (i + 3) < L by omega) (by omega)) ?_
  rw [show ((nI i) + 3 : Int32).toNatClampNeg = (i + 3) from sm_clN (sm_addN rfl rfl) (show (i + 3) < 2 ^ 31 by omega)]
  rw [show m 3000 (i + 3) = xs (i + 3) from e.1 _]
  refine mz_do (R := mz_r97) (as := [.ref 0, .int (xs (i + 1)), .int (xs (i + 2)), .int (xs (i + 3))]) (rest := []) (r1 := some (.int v1)) (m1 := m1) rfl h1 ?_
  refine mz_go 6 (c' := (1251, [some (.ref 3000), some (.ref 0), some (.ref 65), some (.int (nI i))], [.int ((nI i) + 1), .ref 3000, .ref 65], m1)) rfl ?_
  refine mz_arr (c' := (1252, [some (.ref 3000), some (.ref 0), some (.ref 65), some (.int (nI i))], [.int (m1 3000 (((nI i) + 1).toNatClampNeg)), .ref 65], m1)) rfl (show mz_in ((nI i) + 1) (m1 3001 0).toNatClampNeg = true from by rw [e1.2]; exact sm_inN (sm_addN rfl rfl) (show (i + 1) < L by omega) (by omega)) ?_
  rw [show ((nI i) + 1 : Int32).toNatClampNeg = (i + 1) from sm_clN (sm_addN rfl rfl) (show (i + 1) < 2 ^ 31 by omega)]
  rw [show m1 3000 (i + 1) = xs (i + 1) from e1.1 _]
  refine mz_go 4 (c' := (1256, [some (.ref 3000), some (.ref 0), some (.ref 65), some (.int (nI i))], [.int ((nI i) + 2), .ref 3000, .int (xs (i + 1)), .ref 65], m1)) rfl ?_
  refine mz_arr (c' := (1257, [some (.ref 3000), some (.ref 0), some (.ref 65), some (.int (nI i))], [.int (m1 3000 (((nI i) + 2).toNatClampNeg)), .int (xs (i + 1)), .ref 65], m1)) rfl (show mz_in ((nI i) + 2) (m1 3001 0).toNatClampNeg = true from by rw [e1.2]; exact sm_inN (sm_addN rfl rfl) (show (i + 2) < L by omega) (by omega)) ?_
  rw [show ((nI i) + 2 : Int32).toNatClampNeg = (i + 2) from sm_clN (sm_addN rfl rfl) (show (i + 2) < 2 ^ 31 by omega)]
  rw [show m1 3000 (i + 2) = xs (i + 2) from e1.1 _]
  refine mz_go 4 (c' := (1261, [some (.ref 3000), some (.ref 0), some (.ref 65), some (.int (nI i))], [.int ((nI i) + 3), .ref 3000, .int (xs (i + 2)), .int (xs (i + 1)), .ref 65], m1)) rfl ?_
  refine mz_arr (c' := (1262, [some (.ref 3000), some (.ref 0), some (.ref 65), some (.int (nI i))], [.int (m1 3000 (((nI i) + 3).toNatClampNeg)), .int (xs (i + 2)), .int (xs (i + 1)), .ref 65], m1)) rfl (show mz_in ((nI i) + 3) (m1 3001 0).toNatClampNeg = true from by rw [e1.2]; exact sm_inN (sm_addN rfl rfl) (show (i + 3) < L by omega) (by omega)) ?_
  rw [show ((nI i) + 3 : Int32).toNatClampNeg = (i + 3) from sm_clN (sm_addN rfl rfl) (show (i + 3) < 2 ^ 31 by omega)]
  rw [show m1 3000 (i + 3) = xs (i + 3) from e1.1 _]
  refine mz_do (R := mz_r217) (as := [.ref 65, .int (xs (i + 1)), .int (xs (i + 2)), .int (xs (i + 3))]) (rest := []) (r1 := some (.int v2)) (m1 := m2) rfl h2 ?_
  refine mz_go 4 (c' := (18, [some (.ref 3000), some (.ref 0), some (.ref 65), some (.int ((nI i) + 6))], [], m2)) rfl ?_
  exact hr
set_option maxHeartbeats 4000000 in
set_option maxRecDepth 100000 in
theorem lwc_body {xs : Nat → Int32} {L i j : Nat} (hL : L ≤ 384) (hi : i + 6 ≤ L) {m : mz_M} (hj : j < 64) (hI : sm_I j m) (e : (∀ k, m 3000 k = xs k) ∧ (m 3001 0).toNatClampNeg = L) (h : xs i &&& 63 = 31) : ∃ m2, sm_I (j + 1) m2 ∧ ((∀ k, m2 3000 k = xs k) ∧ (m2 3001 0).toNatClampNeg = L) ∧ ∀ r, mz_Ex 101 mz_kL (18, [some (.ref 3000), some (.ref 0), some (.ref 65), some (.int ((nI i) + 6))], [], m2) r → mz_Ex 101 mz_kL (18, [some (.ref 3000), some (.ref 0), some (.ref 65), some (.int (nI i))], [], m) r := by
  obtain ⟨v1, v2, m1, m2, h1, h2, h3⟩ := sc_body hj hI (xs (i + 1))
  have e1 := lw_eL h1 e
  have e2 := lw_eL h2 e1
  refine ⟨m2, h3, e2, fun r hr => ?_⟩
  refine mz_go 3 (c' := (21, [some (.ref 3000), some (.ref 0), some (.ref 65), some (.int (nI i))], [.int (Int32.ofNat (m 3001 0).toNatClampNeg), .int (nI i)], m)) rfl ?_
  rw [show Int32.ofNat (m 3001 0).toNatClampNeg = nI L from by rw [e.2]; rfl]
  refine mz_go 3 (c' := (if ((nI L) - 6) < (nI i) then 1588 else 27, [some (.ref 3000), some (.ref 0), some (.ref 65), some (.int (nI i))], [], m)) rfl ?_
  refine mz_ifF (show ¬ (((nI L) - 6) < (nI i)) from (sm_law hL (by omega) (by omega))) ?_
  refine mz_go 2 (c' := (29, [some (.ref 3000), some (.ref 0), some (.ref 65), some (.int (nI i))], [.int (nI i), .ref 3000], m)) rfl ?_
  refine mz_arr (c' := (30, [some (.ref 3000), some (.ref 0), some (.ref 65), some (.int (nI i))], [.int (m 3000 ((nI i).toNatClampNeg))], m)) rfl (show mz_in (nI i) (m 3001 0).toNatClampNeg = true from by rw [e.2]; exact sm_inN rfl (show i < L by omega) (by omega)) ?_
  rw [show (nI i : Int32).toNatClampNeg = i from sm_clN rfl (show i < 2 ^ 31 by omega)]
  rw [show m 3000 i = xs i from e.1 _]
  refine mz_go 2 (c' := (33, [some (.ref 3000), some (.ref 0), some (.ref 65), some (.int (nI i))], [.int ((xs i) &&& 63)], m)) rfl ?_
  rw [h]
  refine mz_go 6 (c' := (1274, [some (.ref 3000), some (.ref 0), some (.ref 65), some (.int (nI i))], [.int ((nI i) + 1), .ref 3000, .ref 0], m)) rfl ?_
  refine mz_arr (c' := (1275, [some (.ref 3000), some (.ref 0), some (.ref 65), some (.int (nI i))], [.int (m 3000 (((nI i) + 1).toNatClampNeg)), .ref 0], m)) rfl (show mz_in ((nI i) + 1) (m 3001 0).toNatClampNeg = true from by rw [e.2]; exact sm_inN (sm_addN rfl rfl) (show (i + 1) < L by omega) (by omega)) ?_
  rw [show ((nI i) + 1 : Int32).toNatClampNeg = (i + 1) from sm_clN (sm_addN rfl rfl) (show (i + 1) < 2 ^ 31 by omega)]
  rw [show m 3000 (i + 1) = xs (i + 1) from e.1 _]
  refine mz_do (R := mz_r98) (as := [.ref 0, .int (xs (i + 1))]) (rest := []) (r1 := some (.int v1)) (m1 := m1) rfl h1 ?_
  refine mz_go 6 (c' := (1284, [some (.ref 3000), some (.ref 0), some (.ref 65), some (.int (nI i))], [.int ((nI i) + 1), .ref 3000, .ref 65], m1)) rfl ?_
  refine mz_arr (c' := (1285, [some (.ref 3000), some (.ref 0), some (.ref 65), some (.int (nI i))], [.int (m1 3000 (((nI i) + 1).toNatClampNeg)), .ref 65], m1)) rfl (show mz_in ((nI i) + 1) (m1 3001 0).toNatClampNeg = true from by rw [e1.2]; exact sm_inN (sm_addN rfl rfl) (show (i + 1) < L by omega) (by omega)) ?_
  rw [show ((nI i) + 1 : Int32).toNatClampNeg = (i + 1) from sm_clN (sm_addN rfl rfl) (show (i + 1) < 2 ^ 31 by omega)]
  rw [show m1 3000 (i + 1) = xs (i + 1) from e1.1 _]
  refine mz_do (R := mz_r218) (as := [.ref 65, .int (xs (i + 1))]) (rest := []) (r1 := some (.int v2)) (m1 := m2) rfl h2 ?_
  refine mz_go 4 (c' := (18, [some (.ref 3000), some (.ref 0), some (.ref 65), some (.int ((nI i) + 6))], [], m2)) rfl ?_
  exact hr
set_option maxHeartbeats 4000000 in
set_option maxRecDepth 100000 in
theorem lwc_sheet {xs : Nat → Int32} {L i j : Nat} (hL : L ≤ 384) (hi : i + 6 ≤ L) {m : mz_M} (hj : j < 64) (hI : sm_I j m) (e : (∀ k, m 3000 k = xs k) ∧ (m 3001 0).toNatClampNeg = L) (h : xs i &&& 63 = 32) : ∃ m2, sm_I (j + 1) m2 ∧ ((∀ k, m2 3000 k = xs k) ∧ (m2 3001 0).toNatClampNeg = L) ∧ ∀ r, mz_Ex 101 mz_kL (18, [some (.ref 3000), some (.ref 0), some (.ref 65), some (.int ((nI i) + 6))], [], m2) r → mz_Ex 101 mz_kL (18, [some (.ref 3000), some (.ref 0), some (.ref 65), some (.int (nI i))], [], m) r := by
  obtain ⟨v1, v2, m1, m2, h1, h2, h3, hv⟩ := sc_sheet hj hI (xs (i + 1)) (xs (i + 2)) (xs (i + 3))
  have e1 := lw_eL h1 e
  have e2 := lw_eL h2 e1
  refine ⟨m2, h3, e2, fun r hr => ?_⟩
  refine mz_go 3 (c' := (21, [some (.ref 3000), some (.ref 0), some (.ref 65), some (.int (nI i))], [.int (Int32.ofNat (m 3001 0).toNatClampNeg), .int (nI i)], m)) rfl ?_
  rw [show Int32.ofNat (m 3001 0).toNatClampNeg = nI L from by rw [e.2]; rfl]
  refine mz_go 3 (c' := (if ((nI L) - 6) < (nI i) then 1588 else 27, [some (.ref 3000), some (.ref 0), some (.ref 65), some (.int (nI i))], [], m)) rfl ?_
  refine mz_ifF (show ¬ (((nI L) - 6) < (nI i)) from (sm_law hL (by omega) (by omega))) ?_
  refine mz_go 2 (c' := (29, [some (.ref 3000), some (.ref 0), some (.ref 65), some (.int (nI i))], [.int (nI i), .ref 3000], m)) rfl ?_
  refine mz_arr (c' := (30, [some (.ref 3000), some (.ref 0), some (.ref 65), some (.int (nI i))], [.int (m 3000 ((nI i).toNatClampNeg))], m)) rfl (show mz_in (nI i) (m 3001 0).toNatClampNeg = true from by rw [e.2]; exact sm_inN rfl (show i < L by omega) (by omega)) ?_
  rw [show (nI i : Int32).toNatClampNeg = i from sm_clN rfl (show i < 2 ^ 31 by omega)]
  rw [show m 3000 i = xs i from e.1 _]
  refine mz_go 2 (c' := (33, [some (.ref 3000), some (.ref 0), some (.ref 65), some (.int (nI i))], [.int ((xs i) &&& 63)], m)) rfl ?_
  rw [h]
  refine mz_go 6 (c' := (1297, [some (.ref 3000), some (.ref 0), some (.ref 65), some (.int (nI i))], [.int ((nI i) + 1), .ref 3000, .ref 0], m)) rfl ?_
  refine mz_arr (c' := (1298, [some (.ref 3000), some (.ref 0), some (.ref 65), some (.int (nI i))], [.int (m 3000 (((nI i) + 1).toNatClampNeg)), .ref 0], m)) rfl (show mz_in ((nI i) + 1) (m 3001 0).toNatClampNeg = true from by rw [e.2]; exact sm_inN (sm_addN rfl rfl) (show (i + 1) < L by omega) (by omega)) ?_
  rw [show ((nI i) + 1 : Int32).toNatClampNeg = (i + 1) from sm_clN (sm_addN rfl rfl) (show (i + 1) < 2 ^ 31 by omega)]
  rw [show m 3000 (i + 1) = xs (i + 1) from e.1 _]
  refine mz_go 4 (c' := (1302, [some (.ref 3000), some (.ref 0), some (.ref 65), some (.int (nI i))], [.int ((nI i) + 2), .ref 3000, .int (xs (i + 1)), .ref 0], m)) rfl ?_
  refine mz_arr (c' := (1303, [some (.ref 3000), some (.ref 0), some (.ref 65), some (.int (nI i))], [.int (m 3000 (((nI i) + 2).toNatClampNeg)), .int (xs (i + 1)), .ref 0], m)) rfl (show mz_in ((nI i) + 2) (m 3001 0).toNatClampNeg = true from by rw [e.2]; exact sm_inN (sm_addN rfl rfl) (show (i + 2) < L by omega) (by omega)) ?_
  rw [show ((nI i) + 2 : Int32).toNatClampNeg = (i + 2) from sm_clN (sm_addN rfl rfl) (show (i + 2) < 2 ^ 31 by omega)]
  rw [show m 3000 (i + 2) = xs (i + 2) from e.1 _]
  refine mz_go 4 (c' := (1307, [some (.ref 3000), some (.ref 0), some (.ref 65), some (.int (nI i))], [.int ((nI i) + 3), .ref 3000, .int (xs (i + 2)), .int (xs (i + 1)), .ref 0], m)) rfl ?_
  refine mz_arr (c' := (1308, [some (.ref 3000), some (.ref 0), some (.ref 65), some (.int (nI i))], [.int (m 3000 (((nI i) + 3).toNatClampNeg)), .int (xs (i + 2)), .int (xs (i + 1)), .ref 0], m)) rfl (show mz_in ((nI i) + 3) (m 3001 0).toNatClampNeg = true from by rw [e.2]; exact sm_inN (sm_addN rfl rfl) (show (i + 3) < L by omega) (by omega)) ?_
  rw [show ((nI i) + 3 : Int32).toNatClampNeg = (i + 3) from sm_clN (sm_addN rfl rfl) (show (i + 3) < 2 ^ 31 by omega)]
  rw [show m 3000 (i + 3) = xs (i + 3) from e.1 _]
  refine mz_do (R := mz_r99) (as := [.ref 0, .int (xs (i + 1)), .int (xs (i + 2)), .int (xs (i + 3))]) (rest := []) (r1 := some (.int v1)) (m1 := m1) rfl h1 ?_
  refine mz_go 6 (c' := (1317, [some (.ref 3000), some (.ref 0), some (.ref 65), some (.int (nI i))], [.int ((nI i) + 1), .ref 3000, .ref 65], m1)) rfl ?_
  refine mz_arr (c' := (1318, [some (.ref 3000), some (.ref 0), some (.ref 65), some (.int (nI i))], [.int (m1 3000 (((nI i) + 1).toNatClampNeg)), .ref 65], m1)) rfl (show mz_in ((nI i) + 1) (m1 3001 0).toNatClampNeg = true from by rw [e1.2]; exact sm_inN (sm_addN rfl rfl) (show (i + 1) < L by omega) (by omega)) ?_
  rw [show ((nI i) + 1 : Int32).toNatClampNeg = (i + 1) from sm_clN (sm_addN rfl rfl) (show (i + 1) < 2 ^ 31 by omega)]
  rw [show m1 3000 (i + 1) = xs (i + 1) from e1.1 _]
  refine mz_go 4 (c' := (1322, [some (.ref 3000), some (.ref 0), some (.ref 65), some (.int (nI i))], [.int ((nI i) + 2), .ref 3000, .int (xs (i + 1)), .ref 65], m1)) rfl ?_
  refine mz_arr (c' := (1323, [some (.ref 3000), some (.ref 0), some (.ref 65), some (.int (nI i))], [.int (m1 3000 (((nI i) + 2).toNatClampNeg)), .int (xs (i + 1)), .ref 65], m1)) rfl (show mz_in ((nI i) + 2) (m1 3001 0).toNatClampNeg = true from by rw [e1.2]; exact sm_inN (sm_addN rfl rfl) (show (i + 2) < L by omega) (by omega)) ?_
  rw [show ((nI i) + 2 : Int32).toNatClampNeg = (i + 2) from sm_clN (sm_addN rfl rfl) (show (i + 2) < 2 ^ 31 by omega)]
  rw [show m1 3000 (i + 2) = xs (i + 2) from e1.1 _]
  refine mz_go 4 (c' := (1327, [some (.ref 3000), some (.ref 0), some (.ref 65), some (.int (nI i))], [.int ((nI i) + 3), .ref 3000, .int (xs (i + 2)), .int (xs (i + 1)), .ref 65], m1)) rfl ?_
  refine mz_arr (c' := (1328, [some (.ref 3000), some (.ref 0), some (.ref 65), some (.int (nI i))], [.int (m1 3000 (((nI i) + 3).toNatClampNeg)), .int (xs (i + 2)), .int (xs (i + 1)), .ref 65], m1)) rfl (show mz_in ((nI i) + 3) (m1 3001 0).toNatClampNeg = true from by rw [e1.2]; exact sm_inN (sm_addN rfl rfl) (show (i + 3) < L by omega) (by omega)) ?_
  rw [show ((nI i) + 3 : Int32).toNatClampNeg = (i + 3) from sm_clN (sm_addN rfl rfl) (show (i + 3) < 2 ^ 31 by omega)]
  rw [show m1 3000 (i + 3) = xs (i + 3) from e1.1 _]
  refine mz_do (R := mz_r220) (as := [.ref 65, .int (xs (i + 1)), .int (xs (i + 2)), .int (xs (i + 3))]) (rest := []) (r1 := some (.int v2)) (m1 := m2) rfl h2 ?_
  refine mz_go 4 (c' := (18, [some (.ref 3000), some (.ref 0), some (.ref 65), some (.int ((nI i) + 6))], [], m2)) rfl ?_
  exact hr
set_option maxHeartbeats 4000000 in
set_option maxRecDepth 100000 in
theorem lwc_put {xs : Nat → Int32} {L i j : Nat} (hL : L ≤ 384) (hi : i + 6 ≤ L) {m : mz_M} (hj : j < 64) (hI : sm_I j m) (e : (∀ k, m 3000 k = xs k) ∧ (m 3001 0).toNatClampNeg = L) (h : xs i &&& 63 = 33) : ∃ m2, sm_I (j + 1) m2 ∧ ((∀ k, m2 3000 k = xs k) ∧ (m2 3001 0).toNatClampNeg = L) ∧ ∀ r, mz_Ex 101 mz_kL (18, [some (.ref 3000), some (.ref 0), some (.ref 65), some (.int ((nI i) + 6))], [], m2) r → mz_Ex 101 mz_kL (18, [some (.ref 3000), some (.ref 0), some (.ref 65), some (.int (nI i))], [], m) r := by
  obtain ⟨v1, v2, m1, m2, h1, h2, h3, hv⟩ := sc_put hj hI (xs (i + 1)) (xs (i + 2)) (xs (i + 3))
  have e1 := lw_eL h1 e
  have e2 := lw_eL h2 e1
  refine ⟨m2, h3, e2, fun r hr => ?_⟩
  refine mz_go 3 (c' := (21, [some (.ref 3000), some (.ref 0), some (.ref 65), some (.int (nI i))], [.int (Int32.ofNat (m 3001 0).toNatClampNeg), .int (nI i)], m)) rfl ?_
  rw [show Int32.ofNat (m 3001 0).toNatClampNeg = nI L from by rw [e.2]; rfl]
  refine mz_go 3 (c' := (if ((nI L) - 6) < (nI i) then 1588 else 27, [some (.ref 3000), some (.ref 0), some (.ref 65), some (.int (nI i))], [], m)) rfl ?_
  refine mz_ifF (show ¬ (((nI L) - 6) < (nI i)) from (sm_law hL (by omega) (by omega))) ?_
  refine mz_go 2 (c' := (29, [some (.ref 3000), some (.ref 0), some (.ref 65), some (.int (nI i))], [.int (nI i), .ref 3000], m)) rfl ?_
  refine mz_arr (c' := (30, [some (.ref 3000), some (.ref 0), some (.ref 65), some (.int (nI i))], [.int (m 3000 ((nI i).toNatClampNeg))], m)) rfl (show mz_in (nI i) (m 3001 0).toNatClampNeg = true from by rw [e.2]; exact sm_inN rfl (show i < L by omega) (by omega)) ?_
  rw [show (nI i : Int32).toNatClampNeg = i from sm_clN rfl (show i < 2 ^ 31 by omega)]
  rw [show m 3000 i = xs i from e.1 _]
  refine mz_go 2 (c' := (33, [some (.ref 3000), some (.ref 0), some (.ref 65), some (.int (nI i))], [.int ((xs i) &&& 63)], m)) rfl ?_
  rw [h]
  refine mz_go 6 (c' := (1340, [some (.ref 3000), some (.ref 0), some (.ref 65), some (.int (nI i))], [.int ((nI i) + 1), .ref 3000, .ref 0], m)) rfl ?_
  refine mz_arr (c' := (1341, [some (.ref 3000), some (.ref 0), some (.ref 65), some (.int (nI i))], [.int (m 3000 (((nI i) + 1).toNatClampNeg)), .ref 0], m)) rfl (show mz_in ((nI i) + 1) (m 3001 0).toNatClampNeg = true from by rw [e.2]; exact sm_inN (sm_addN rfl rfl) (show (i + 1) < L by omega) (by omega)) ?_
  rw [show ((nI i) + 1 : Int32).toNatClampNeg = (i + 1) from sm_clN (sm_addN rfl rfl) (show (i + 1) < 2 ^ 31 by omega)]
  rw [show m 3000 (i + 1) = xs (i + 1) from e.1 _]
  refine mz_go 4 (c' := (1345, [some (.ref 3000), some (.ref 0), some (.ref 65), some (.int (nI i))], [.int ((nI i) + 2), .ref 3000, .int (xs (i + 1)), .ref 0], m)) rfl ?_
  refine mz_arr (c' := (1346, [some (.ref 3000), some (.ref 0), some (.ref 65), some (.int (nI i))], [.int (m 3000 (((nI i) + 2).toNatClampNeg)), .int (xs (i + 1)), .ref 0], m)) rfl (show mz_in ((nI i) + 2) (m 3001 0).toNatClampNeg = true from by rw [e.2]; exact sm_inN (sm_addN rfl rfl) (show (i + 2) < L by omega) (by omega)) ?_
  rw [show ((nI i) + 2 : Int32).toNatClampNeg = (i + 2) from sm_clN (sm_addN rfl rfl) (show (i + 2) < 2 ^ 31 by omega)]
  rw [show m 3000 (i + 2) = xs (i + 2) from e.1 _]
  refine mz_go 4 (c' := (1350, [some (.ref 3000), some (.ref 0), some (.ref 65), some (.int (nI i))], [.int ((nI i) + 3), .ref 3000, .int (xs (i + 2)), .int (xs (i + 1)), .ref 0], m)) rfl ?_
  refine mz_arr (c' := (1351, [some (.ref 3000), some (.ref 0), some (.ref 65), some (.int (nI i))], [.int (m 3000 (((nI i) + 3).toNatClampNeg)), .int (xs (i + 2)), .int (xs (i + 1)), .ref 0], m)) rfl (show mz_in ((nI i) + 3) (m 3001 0).toNatClampNeg = true from by rw [e.2]; exact sm_inN (sm_addN rfl rfl) (show (i + 3) < L by omega) (by omega)) ?_
  rw [show ((nI i) + 3 : Int32).toNatClampNeg = (i + 3) from sm_clN (sm_addN rfl rfl) (show (i + 3) < 2 ^ 31 by omega)]
  rw [show m 3000 (i + 3) = xs (i + 3) from e.1 _]
  refine mz_do (R := mz_r100) (as := [.ref 0, .int (xs (i + 1)), .int (xs (i + 2)), .int (xs (i + 3))]) (rest := []) (r1 := some (.int v1)) (m1 := m1) rfl h1 ?_
  refine mz_go 6 (c' := (1360, [some (.ref 3000), some (.ref 0), some (.ref 65), some (.int (nI i))], [.int ((nI i) + 1), .ref 3000, .ref 65], m1)) rfl ?_
  refine mz_arr (c' := (1361, [some (.ref 3000), some (.ref 0), some (.ref 65), some (.int (nI i))], [.int (m1 3000 (((nI i) + 1).toNatClampNeg)), .ref 65], m1)) rfl (show mz_in ((nI i) + 1) (m1 3001 0).toNatClampNeg = true from by rw [e1.2]; exact sm_inN (sm_addN rfl rfl) (show (i + 1) < L by omega) (by omega)) ?_
  rw [show ((nI i) + 1 : Int32).toNatClampNeg = (i + 1) from sm_clN (sm_addN rfl rfl) (show (i + 1) < 2 ^ 31 by omega)]
  rw [show m1 3000 (i + 1) = xs (i + 1) from e1.1 _]
  refine mz_go 4 (c' := (1365, [some (.ref 3000), some (.ref 0), some (.ref 65), some (.int (nI i))], [.int ((nI i) + 2), .ref 3000, .int (xs (i + 1)), .ref 65], m1)) rfl ?_
  refine mz_arr (c' := (1366, [some (.ref 3000), some (.ref 0), some (.ref 65), some (.int (nI i))], [.int (m1 3000 (((nI i) + 2).toNatClampNeg)), .int (xs (i + 1)), .ref 65], m1)) rfl (show mz_in ((nI i) + 2) (m1 3001 0).toNatClampNeg = true from by rw [e1.2]; exact sm_inN (sm_addN rfl rfl) (show (i + 2) < L by omega) (by omega)) ?_
  rw [show ((nI i) + 2 : Int32).toNatClampNeg = (i + 2) from sm_clN (sm_addN rfl rfl) (show (i + 2) < 2 ^ 31 by omega)]
  rw [show m1 3000 (i + 2) = xs (i + 2) from e1.1 _]
  refine mz_go 4 (c' := (1370, [some (.ref 3000), some (.ref 0), some (.ref 65), some (.int (nI i))], [.int ((nI i) + 3), .ref 3000, .int (xs (i + 2)), .int (xs (i + 1)), .ref 65], m1)) rfl ?_
  refine mz_arr (c' := (1371, [some (.ref 3000), some (.ref 0), some (.ref 65), some (.int (nI i))], [.int (m1 3000 (((nI i) + 3).toNatClampNeg)), .int (xs (i + 2)), .int (xs (i + 1)), .ref 65], m1)) rfl (show mz_in ((nI i) + 3) (m1 3001 0).toNatClampNeg = true from by rw [e1.2]; exact sm_inN (sm_addN rfl rfl) (show (i + 3) < L by omega) (by omega)) ?_
  rw [show ((nI i) + 3 : Int32).toNatClampNeg = (i + 3) from sm_clN (sm_addN rfl rfl) (show (i + 3) < 2 ^ 31 by omega)]
  rw [show m1 3000 (i + 3) = xs (i + 3) from e1.1 _]
  refine mz_do (R := mz_r221) (as := [.ref 65, .int (xs (i + 1)), .int (xs (i + 2)), .int (xs (i + 3))]) (rest := []) (r1 := some (.int v2)) (m1 := m2) rfl h2 ?_
  refine mz_go 4 (c' := (18, [some (.ref 3000), some (.ref 0), some (.ref 65), some (.int ((nI i) + 6))], [], m2)) rfl ?_
  exact hr
set_option maxHeartbeats 4000000 in
set_option maxRecDepth 100000 in
theorem lwc_move {xs : Nat → Int32} {L i j : Nat} (hL : L ≤ 384) (hi : i + 6 ≤ L) {m : mz_M} (hj : j < 64) (hI : sm_I j m) (e : (∀ k, m 3000 k = xs k) ∧ (m 3001 0).toNatClampNeg = L) (h : xs i &&& 63 = 34) : ∃ m2, sm_I (j + 1) m2 ∧ ((∀ k, m2 3000 k = xs k) ∧ (m2 3001 0).toNatClampNeg = L) ∧ ∀ r, mz_Ex 101 mz_kL (18, [some (.ref 3000), some (.ref 0), some (.ref 65), some (.int ((nI i) + 6))], [], m2) r → mz_Ex 101 mz_kL (18, [some (.ref 3000), some (.ref 0), some (.ref 65), some (.int (nI i))], [], m) r := by
  obtain ⟨v1, v2, m1, m2, h1, h2, h3, hv⟩ := sc_move hj hI (xs (i + 1)) (xs (i + 2)) (xs (i + 3)) (xs (i + 4)) (xs (i + 5))
  have e1 := lw_eL h1 e
  have e2 := lw_eL h2 e1
  refine ⟨m2, h3, e2, fun r hr => ?_⟩
  refine mz_go 3 (c' := (21, [some (.ref 3000), some (.ref 0), some (.ref 65), some (.int (nI i))], [.int (Int32.ofNat (m 3001 0).toNatClampNeg), .int (nI i)], m)) rfl ?_
  rw [show Int32.ofNat (m 3001 0).toNatClampNeg = nI L from by rw [e.2]; rfl]
  refine mz_go 3 (c' := (if ((nI L) - 6) < (nI i) then 1588 else 27, [some (.ref 3000), some (.ref 0), some (.ref 65), some (.int (nI i))], [], m)) rfl ?_
  refine mz_ifF (show ¬ (((nI L) - 6) < (nI i)) from (sm_law hL (by omega) (by omega))) ?_
  refine mz_go 2 (c' := (29, [some (.ref 3000), some (.ref 0), some (.ref 65), some (.int (nI i))], [.int (nI i), .ref 3000], m)) rfl ?_
  refine mz_arr (c' := (30, [some (.ref 3000), some (.ref 0), some (.ref 65), some (.int (nI i))], [.int (m 3000 ((nI i).toNatClampNeg))], m)) rfl (show mz_in (nI i) (m 3001 0).toNatClampNeg = true from by rw [e.2]; exact sm_inN rfl (show i < L by omega) (by omega)) ?_
  rw [show (nI i : Int32).toNatClampNeg = i from sm_clN rfl (show i < 2 ^ 31 by omega)]
  rw [show m 3000 i = xs i from e.1 _]
  refine mz_go 2 (c' := (33, [some (.ref 3000), some (.ref 0), some (.ref 65), some (.int (nI i))], [.int ((xs i) &&& 63)], m)) rfl ?_
  rw [h]
  refine mz_go 6 (c' := (1383, [some (.ref 3000), some (.ref 0), some (.ref 65), some (.int (nI i))], [.int ((nI i) + 1), .ref 3000, .ref 0], m)) rfl ?_
  refine mz_arr (c' := (1384, [some (.ref 3000), some (.ref 0), some (.ref 65), some (.int (nI i))], [.int (m 3000 (((nI i) + 1).toNatClampNeg)), .ref 0], m)) rfl (show mz_in ((nI i) + 1) (m 3001 0).toNatClampNeg = true from by rw [e.2]; exact sm_inN (sm_addN rfl rfl) (show (i + 1) < L by omega) (by omega)) ?_
  rw [show ((nI i) + 1 : Int32).toNatClampNeg = (i + 1) from sm_clN (sm_addN rfl rfl) (show (i + 1) < 2 ^ 31 by omega)]
  rw [show m 3000 (i + 1) = xs (i + 1) from e.1 _]
  refine mz_go 4 (c' := (1388, [some (.ref 3000), some (.ref 0), some (.ref 65), some (.int (nI i))], [.int ((nI i) + 2), .ref 3000, .int (xs (i + 1)), .ref 0], m)) rfl ?_
  refine mz_arr (c' := (1389, [some (.ref 3000), some (.ref 0), some (.ref 65), some (.int (nI i))], [.int (m 3000 (((nI i) + 2).toNatClampNeg)), .int (xs (i + 1)), .ref 0], m)) rfl (show mz_in ((nI i) + 2) (m 3001 0).toNatClampNeg = true from by rw [e.2]; exact sm_inN (sm_addN rfl rfl) (show (i + 2) < L by omega) (by omega)) ?_
  rw [show ((nI i) + 2 : Int32).toNatClampNeg = (i + 2) from sm_clN (sm_addN rfl rfl) (show (i + 2) < 2 ^ 31 by omega)]
  rw [show m 3000 (i + 2) = xs (i + 2) from e.1 _]
  refine mz_go 4 (c' := (1393, [some (.ref 3000), some (.ref 0), some (.ref 65), some (.int (nI i))], [.int ((nI i) + 3), .ref 3000, .int (xs (i + 2)), .int (xs (i + 1)), .ref 0], m)) rfl ?_
  refine mz_arr (c' := (1394, [some (.ref 3000), some (.ref 0), some (.ref 65), some (.int (nI i))], [.int (m 3000 (((nI i) + 3).toNatClampNeg)), .int (xs (i + 2)), .int (xs (i + 1)), .ref 0], m)) rfl (show mz_in ((nI i) + 3) (m 3001 0).toNatClampNeg = true from by rw [e.2]; exact sm_inN (sm_addN rfl rfl) (show (i + 3) < L by omega) (by omega)) ?_
  rw [show ((nI i) + 3 : Int32).toNatClampNeg = (i + 3) from sm_clN (sm_addN rfl rfl) (show (i + 3) < 2 ^ 31 by omega)]
  rw [show m 3000 (i + 3) = xs (i + 3) from e.1 _]
  refine mz_go 4 (c' := (1398, [some (.ref 3000), some (.ref 0), some (.ref 65), some (.int (nI i))], [.int ((nI i) + 4), .ref 3000, .int (xs (i + 3)), .int (xs (i + 2)), .int (xs (i + 1)), .ref 0], m)) rfl ?_
  refine mz_arr (c' := (1399, [some (.ref 3000), some (.ref 0), some (.ref 65), some (.int (nI i))], [.int (m 3000 (((nI i) + 4).toNatClampNeg)), .int (xs (i + 3)), .int (xs (i + 2)), .int (xs (i + 1)), .ref 0], m)) rfl (show mz_in ((nI i) + 4) (m 3001 0).toNatClampNeg = true from by rw [e.2]; exact sm_inN (sm_addN rfl rfl) (show (i + 4) < L by omega) (by omega)) ?_
  rw [show ((nI i) + 4 : Int32).toNatClampNeg = (i + 4) from sm_clN (sm_addN rfl rfl) (show (i + 4) < 2 ^ 31 by omega)]
  rw [show m 3000 (i + 4) = xs (i + 4) from e.1 _]
  refine mz_go 4 (c' := (1403, [some (.ref 3000), some (.ref 0), some (.ref 65), some (.int (nI i))], [.int ((nI i) + 5), .ref 3000, .int (xs (i + 4)), .int (xs (i + 3)), .int (xs (i + 2)), .int (xs (i + 1)), .ref 0], m)) rfl ?_
  refine mz_arr (c' := (1404, [some (.ref 3000), some (.ref 0), some (.ref 65), some (.int (nI i))], [.int (m 3000 (((nI i) + 5).toNatClampNeg)), .int (xs (i + 4)), .int (xs (i + 3)), .int (xs (i + 2)), .int (xs (i + 1)), .ref 0], m)) rfl (show mz_in ((nI i) + 5) (m 3001 0).toNatClampNeg = true from by rw [e.2]; exact sm_inN (sm_addN rfl rfl) (show (i + 5) < L by omega) (by omega)) ?_
  rw [show ((nI i) + 5 : Int32).toNatClampNeg = (i + 5) from sm_clN (sm_addN rfl rfl) (show (i + 5) < 2 ^ 31 by omega)]
  rw [show m 3000 (i + 5) = xs (i + 5) from e.1 _]
  refine mz_do (R := mz_r101) (as := [.ref 0, .int (xs (i + 1)), .int (xs (i + 2)), .int (xs (i + 3)), .int (xs (i + 4)), .int (xs (i + 5))]) (rest := []) (r1 := some (.int v1)) (m1 := m1) rfl h1 ?_
  refine mz_go 6 (c' := (1413, [some (.ref 3000), some (.ref 0), some (.ref 65), some (.int (nI i))], [.int ((nI i) + 1), .ref 3000, .ref 65], m1)) rfl ?_
  refine mz_arr (c' := (1414, [some (.ref 3000), some (.ref 0), some (.ref 65), some (.int (nI i))], [.int (m1 3000 (((nI i) + 1).toNatClampNeg)), .ref 65], m1)) rfl (show mz_in ((nI i) + 1) (m1 3001 0).toNatClampNeg = true from by rw [e1.2]; exact sm_inN (sm_addN rfl rfl) (show (i + 1) < L by omega) (by omega)) ?_
  rw [show ((nI i) + 1 : Int32).toNatClampNeg = (i + 1) from sm_clN (sm_addN rfl rfl) (show (i + 1) < 2 ^ 31 by omega)]
  rw [show m1 3000 (i + 1) = xs (i + 1) from e1.1 _]
  refine mz_go 4 (c' := (1418, [some (.ref 3000), some (.ref 0), some (.ref 65), some (.int (nI i))], [.int ((nI i) + 2), .ref 3000, .int (xs (i + 1)), .ref 65], m1)) rfl ?_
  refine mz_arr (c' := (1419, [some (.ref 3000), some (.ref 0), some (.ref 65), some (.int (nI i))], [.int (m1 3000 (((nI i) + 2).toNatClampNeg)), .int (xs (i + 1)), .ref 65], m1)) rfl (show mz_in ((nI i) + 2) (m1 3001 0).toNatClampNeg = true from by rw [e1.2]; exact sm_inN (sm_addN rfl rfl) (show (i + 2) < L by omega) (by omega)) ?_
  rw [show ((nI i) + 2 : Int32).toNatClampNeg = (i + 2) from sm_clN (sm_addN rfl rfl) (show (i + 2) < 2 ^ 31 by omega)]
  rw [show m1 3000 (i + 2) = xs (i + 2) from e1.1 _]
  refine mz_go 4 (c' := (1423, [some (.ref 3000), some (.ref 0), some (.ref 65), some (.int (nI i))], [.int ((nI i) + 3), .ref 3000, .int (xs (i + 2)), .int (xs (i + 1)), .ref 65], m1)) rfl ?_
  refine mz_arr (c' := (1424, [some (.ref 3000), some (.ref 0), some (.ref 65), some (.int (nI i))], [.int (m1 3000 (((nI i) + 3).toNatClampNeg)), .int (xs (i + 2)), .int (xs (i + 1)), .ref 65], m1)) rfl (show mz_in ((nI i) + 3) (m1 3001 0).toNatClampNeg = true from by rw [e1.2]; exact sm_inN (sm_addN rfl rfl) (show (i + 3) < L by omega) (by omega)) ?_
  rw [show ((nI i) + 3 : Int32).toNatClampNeg = (i + 3) from sm_clN (sm_addN rfl rfl) (show (i + 3) < 2 ^ 31 by omega)]
  rw [show m1 3000 (i + 3) = xs (i + 3) from e1.1 _]
  refine mz_go 4 (c' := (1428, [some (.ref 3000), some (.ref 0), some (.ref 65), some (.int (nI i))], [.int ((nI i) + 4), .ref 3000, .int (xs (i + 3)), .int (xs (i + 2)), .int (xs (i + 1)), .ref 65], m1)) rfl ?_
  refine mz_arr (c' := (1429, [some (.ref 3000), some (.ref 0), some (.ref 65), some (.int (nI i))], [.int (m1 3000 (((nI i) + 4).toNatClampNeg)), .int (xs (i + 3)), .int (xs (i + 2)), .int (xs (i + 1)), .ref 65], m1)) rfl (show mz_in ((nI i) + 4) (m1 3001 0).toNatClampNeg = true from by rw [e1.2]; exact sm_inN (sm_addN rfl rfl) (show (i + 4) < L by omega) (by omega)) ?_
  rw [show ((nI i) + 4 : Int32).toNatClampNeg = (i + 4) from sm_clN (sm_addN rfl rfl) (show (i + 4) < 2 ^ 31 by omega)]
  rw [show m1 3000 (i + 4) = xs (i + 4) from e1.1 _]
  refine mz_go 4 (c' := (1433, [some (.ref 3000), some (.ref 0), some (.ref 65), some (.int (nI i))], [.int ((nI i) + 5), .ref 3000, .int (xs (i + 4)), .int (xs (i + 3)), .int (xs (i + 2)), .int (xs (i + 1)), .ref 65], m1)) rfl ?_
  refine mz_arr (c' := (1434, [some (.ref 3000), some (.ref 0), some (.ref 65), some (.int (nI i))], [.int (m1 3000 (((nI i) + 5).toNatClampNeg)), .int (xs (i + 4)), .int (xs (i + 3)), .int (xs (i + 2)), .int (xs (i + 1)), .ref 65], m1)) rfl (show mz_in ((nI i) + 5) (m1 3001 0).toNatClampNeg = true from by rw [e1.2]; exact sm_inN (sm_addN rfl rfl) (show (i + 5) < L by omega) (by omega)) ?_
  rw [show ((nI i) + 5 : Int32).toNatClampNeg = (i + 5) from sm_clN (sm_addN rfl rfl) (show (i + 5) < 2 ^ 31 by omega)]
  rw [show m1 3000 (i + 5) = xs (i + 5) from e1.1 _]
  refine mz_do (R := mz_r222) (as := [.ref 65, .int (xs (i + 1)), .int (xs (i + 2)), .int (xs (i + 3)), .int (xs (i + 4)), .int (xs (i + 5))]) (rest := []) (r1 := some (.int v2)) (m1 := m2) rfl h2 ?_
  refine mz_go 4 (c' := (18, [some (.ref 3000), some (.ref 0), some (.ref 65), some (.int ((nI i) + 6))], [], m2)) rfl ?_
  exact hr
set_option maxHeartbeats 4000000 in
set_option maxRecDepth 100000 in
theorem lwc_magnets {xs : Nat → Int32} {L i j : Nat} (hL : L ≤ 384) (hi : i + 6 ≤ L) {m : mz_M} (hj : j < 64) (hI : sm_I j m) (e : (∀ k, m 3000 k = xs k) ∧ (m 3001 0).toNatClampNeg = L) (h : xs i &&& 63 = 35) : ∃ m2, sm_I (j + 1) m2 ∧ ((∀ k, m2 3000 k = xs k) ∧ (m2 3001 0).toNatClampNeg = L) ∧ ∀ r, mz_Ex 101 mz_kL (18, [some (.ref 3000), some (.ref 0), some (.ref 65), some (.int ((nI i) + 6))], [], m2) r → mz_Ex 101 mz_kL (18, [some (.ref 3000), some (.ref 0), some (.ref 65), some (.int (nI i))], [], m) r := by
  obtain ⟨v1, v2, m1, m2, h1, h2, h3, hv⟩ := sc_magnets hj hI (xs (i + 1))
  have e1 := lw_eL h1 e
  have e2 := lw_eL h2 e1
  refine ⟨m2, h3, e2, fun r hr => ?_⟩
  refine mz_go 3 (c' := (21, [some (.ref 3000), some (.ref 0), some (.ref 65), some (.int (nI i))], [.int (Int32.ofNat (m 3001 0).toNatClampNeg), .int (nI i)], m)) rfl ?_
  rw [show Int32.ofNat (m 3001 0).toNatClampNeg = nI L from by rw [e.2]; rfl]
  refine mz_go 3 (c' := (if ((nI L) - 6) < (nI i) then 1588 else 27, [some (.ref 3000), some (.ref 0), some (.ref 65), some (.int (nI i))], [], m)) rfl ?_
  refine mz_ifF (show ¬ (((nI L) - 6) < (nI i)) from (sm_law hL (by omega) (by omega))) ?_
  refine mz_go 2 (c' := (29, [some (.ref 3000), some (.ref 0), some (.ref 65), some (.int (nI i))], [.int (nI i), .ref 3000], m)) rfl ?_
  refine mz_arr (c' := (30, [some (.ref 3000), some (.ref 0), some (.ref 65), some (.int (nI i))], [.int (m 3000 ((nI i).toNatClampNeg))], m)) rfl (show mz_in (nI i) (m 3001 0).toNatClampNeg = true from by rw [e.2]; exact sm_inN rfl (show i < L by omega) (by omega)) ?_
  rw [show (nI i : Int32).toNatClampNeg = i from sm_clN rfl (show i < 2 ^ 31 by omega)]
  rw [show m 3000 i = xs i from e.1 _]
  refine mz_go 2 (c' := (33, [some (.ref 3000), some (.ref 0), some (.ref 65), some (.int (nI i))], [.int ((xs i) &&& 63)], m)) rfl ?_
  rw [h]
  refine mz_go 6 (c' := (1446, [some (.ref 3000), some (.ref 0), some (.ref 65), some (.int (nI i))], [.int ((nI i) + 1), .ref 3000, .ref 0], m)) rfl ?_
  refine mz_arr (c' := (1447, [some (.ref 3000), some (.ref 0), some (.ref 65), some (.int (nI i))], [.int (m 3000 (((nI i) + 1).toNatClampNeg)), .ref 0], m)) rfl (show mz_in ((nI i) + 1) (m 3001 0).toNatClampNeg = true from by rw [e.2]; exact sm_inN (sm_addN rfl rfl) (show (i + 1) < L by omega) (by omega)) ?_
  rw [show ((nI i) + 1 : Int32).toNatClampNeg = (i + 1) from sm_clN (sm_addN rfl rfl) (show (i + 1) < 2 ^ 31 by omega)]
  rw [show m 3000 (i + 1) = xs (i + 1) from e.1 _]
  refine mz_do (R := mz_r102) (as := [.ref 0, .int (xs (i + 1))]) (rest := []) (r1 := some (.int v1)) (m1 := m1) rfl h1 ?_
  refine mz_go 6 (c' := (1456, [some (.ref 3000), some (.ref 0), some (.ref 65), some (.int (nI i))], [.int ((nI i) + 1), .ref 3000, .ref 65], m1)) rfl ?_
  refine mz_arr (c' := (1457, [some (.ref 3000), some (.ref 0), some (.ref 65), some (.int (nI i))], [.int (m1 3000 (((nI i) + 1).toNatClampNeg)), .ref 65], m1)) rfl (show mz_in ((nI i) + 1) (m1 3001 0).toNatClampNeg = true from by rw [e1.2]; exact sm_inN (sm_addN rfl rfl) (show (i + 1) < L by omega) (by omega)) ?_
  rw [show ((nI i) + 1 : Int32).toNatClampNeg = (i + 1) from sm_clN (sm_addN rfl rfl) (show (i + 1) < 2 ^ 31 by omega)]
  rw [show m1 3000 (i + 1) = xs (i + 1) from e1.1 _]
  refine mz_do (R := mz_r223) (as := [.ref 65, .int (xs (i + 1))]) (rest := []) (r1 := some (.int v2)) (m1 := m2) rfl h2 ?_
  refine mz_go 4 (c' := (18, [some (.ref 3000), some (.ref 0), some (.ref 65), some (.int ((nI i) + 6))], [], m2)) rfl ?_
  exact hr
set_option maxHeartbeats 4000000 in
set_option maxRecDepth 100000 in
theorem lwc_image {xs : Nat → Int32} {L i j : Nat} (hL : L ≤ 384) (hi : i + 6 ≤ L) {m : mz_M} (hj : j < 64) (hI : sm_I j m) (e : (∀ k, m 3000 k = xs k) ∧ (m 3001 0).toNatClampNeg = L) (h : xs i &&& 63 = 36) : ∃ m2, sm_I (j + 1) m2 ∧ ((∀ k, m2 3000 k = xs k) ∧ (m2 3001 0).toNatClampNeg = L) ∧ ∀ r, mz_Ex 101 mz_kL (18, [some (.ref 3000), some (.ref 0), some (.ref 65), some (.int ((nI i) + 6))], [], m2) r → mz_Ex 101 mz_kL (18, [some (.ref 3000), some (.ref 0), some (.ref 65), some (.int (nI i))], [], m) r := by
  obtain ⟨v1, v2, m1, m2, h1, h2, h3, hv⟩ := sc_image hj hI 
  have e1 := lw_eL h1 e
  have e2 := lw_eL h2 e1
  refine ⟨m2, h3, e2, fun r hr => ?_⟩
  refine mz_go 3 (c' := (21, [some (.ref 3000), some (.ref 0), some (.ref 65), some (.int (nI i))], [.int (Int32.ofNat (m 3001 0).toNatClampNeg), .int (nI i)], m)) rfl ?_
  rw [show Int32.ofNat (m 3001 0).toNatClampNeg = nI L from by rw [e.2]; rfl]
  refine mz_go 3 (c' := (if ((nI L) - 6) < (nI i) then 1588 else 27, [some (.ref 3000), some (.ref 0), some (.ref 65), some (.int (nI i))], [], m)) rfl ?_
  refine mz_ifF (show ¬ (((nI L) - 6) < (nI i)) from (sm_law hL (by omega) (by omega))) ?_
  refine mz_go 2 (c' := (29, [some (.ref 3000), some (.ref 0), some (.ref 65), some (.int (nI i))], [.int (nI i), .ref 3000], m)) rfl ?_
  refine mz_arr (c' := (30, [some (.ref 3000), some (.ref 0), some (.ref 65), some (.int (nI i))], [.int (m 3000 ((nI i).toNatClampNeg))], m)) rfl (show mz_in (nI i) (m 3001 0).toNatClampNeg = true from by rw [e.2]; exact sm_inN rfl (show i < L by omega) (by omega)) ?_
  rw [show (nI i : Int32).toNatClampNeg = i from sm_clN rfl (show i < 2 ^ 31 by omega)]
  rw [show m 3000 i = xs i from e.1 _]
  refine mz_go 2 (c' := (33, [some (.ref 3000), some (.ref 0), some (.ref 65), some (.int (nI i))], [.int ((xs i) &&& 63)], m)) rfl ?_
  rw [h]
  refine mz_go 2 (c' := (1465, [some (.ref 3000), some (.ref 0), some (.ref 65), some (.int (nI i))], [.ref 0], m)) rfl ?_
  refine mz_do (R := mz_r103) (as := [.ref 0]) (rest := []) (r1 := some (.int v1)) (m1 := m1) rfl h1 ?_
  refine mz_go 2 (c' := (1470, [some (.ref 3000), some (.ref 0), some (.ref 65), some (.int (nI i))], [.ref 65], m1)) rfl ?_
  refine mz_do (R := mz_r224) (as := [.ref 65]) (rest := []) (r1 := some (.int v2)) (m1 := m2) rfl h2 ?_
  refine mz_go 4 (c' := (18, [some (.ref 3000), some (.ref 0), some (.ref 65), some (.int ((nI i) + 6))], [], m2)) rfl ?_
  exact hr
set_option maxHeartbeats 4000000 in
set_option maxRecDepth 100000 in
theorem lwc_restore {xs : Nat → Int32} {L i j : Nat} (hL : L ≤ 384) (hi : i + 6 ≤ L) {m : mz_M} (hj : j < 64) (hI : sm_I j m) (e : (∀ k, m 3000 k = xs k) ∧ (m 3001 0).toNatClampNeg = L) (h : xs i &&& 63 = 37) : ∃ m2, sm_I (j + 1) m2 ∧ ((∀ k, m2 3000 k = xs k) ∧ (m2 3001 0).toNatClampNeg = L) ∧ ∀ r, mz_Ex 101 mz_kL (18, [some (.ref 3000), some (.ref 0), some (.ref 65), some (.int ((nI i) + 6))], [], m2) r → mz_Ex 101 mz_kL (18, [some (.ref 3000), some (.ref 0), some (.ref 65), some (.int (nI i))], [], m) r := by
  obtain ⟨v1, v2, m1, m2, h1, h2, h3, hv⟩ := sc_restore hj hI 
  have e1 := lw_eL h1 e
  have e2 := lw_eL h2 e1
  refine ⟨m2, h3, e2, fun r hr => ?_⟩
  refine mz_go 3 (c' := (21, [some (.ref 3000), some (.ref 0), some (.ref 65), some (.int (nI i))], [.int (Int32.ofNat (m 3001 0).toNatClampNeg), .int (nI i)], m)) rfl ?_
  rw [show Int32.ofNat (m 3001 0).toNatClampNeg = nI L from by rw [e.2]; rfl]
  refine mz_go 3 (c' := (if ((nI L) - 6) < (nI i) then 1588 else 27, [some (.ref 3000), some (.ref 0), some (.ref 65), some (.int (nI i))], [], m)) rfl ?_
  refine mz_ifF (show ¬ (((nI L) - 6) < (nI i)) from (sm_law hL (by omega) (by omega))) ?_
  refine mz_go 2 (c' := (29, [some (.ref 3000), some (.ref 0), some (.ref 65), some (.int (nI i))], [.int (nI i), .ref 3000], m)) rfl ?_
  refine mz_arr (c' := (30, [some (.ref 3000), some (.ref 0), some (.ref 65), some (.int (nI i))], [.int (m 3000 ((nI i).toNatClampNeg))], m)) rfl (show mz_in (nI i) (m 3001 0).toNatClampNeg = true from by rw [e.2]; exact sm_inN rfl (show i < L by omega) (by omega)) ?_
  rw [show (nI i : Int32).toNatClampNeg = i from sm_clN rfl (show i < 2 ^ 31 by omega)]
  rw [show m 3000 i = xs i from e.1 _]
  refine mz_go 2 (c' := (33, [some (.ref 3000), some (.ref 0), some (.ref 65), some (.int (nI i))], [.int ((xs i) &&& 63)], m)) rfl ?_
  rw [h]
  refine mz_go 2 (c' := (1478, [some (.ref 3000), some (.ref 0), some (.ref 65), some (.int (nI i))], [.ref 0], m)) rfl ?_
  refine mz_do (R := mz_r104) (as := [.ref 0]) (rest := []) (r1 := some (.int v1)) (m1 := m1) rfl h1 ?_
  refine mz_go 2 (c' := (1483, [some (.ref 3000), some (.ref 0), some (.ref 65), some (.int (nI i))], [.ref 65], m1)) rfl ?_
  refine mz_do (R := mz_r225) (as := [.ref 65]) (rest := []) (r1 := some (.int v2)) (m1 := m2) rfl h2 ?_
  refine mz_go 4 (c' := (18, [some (.ref 3000), some (.ref 0), some (.ref 65), some (.int ((nI i) + 6))], [], m2)) rfl ?_
  exact hr
set_option maxHeartbeats 4000000 in
set_option maxRecDepth 100000 in
theorem lwc_tell {xs : Nat → Int32} {L i j : Nat} (hL : L ≤ 384) (hi : i + 6 ≤ L) {m : mz_M} (hj : j < 64) (hI : sm_I j m) (e : (∀ k, m 3000 k = xs k) ∧ (m 3001 0).toNatClampNeg = L) (h : xs i &&& 63 = 38) : ∃ m2, sm_I (j + 1) m2 ∧ ((∀ k, m2 3000 k = xs k) ∧ (m2 3001 0).toNatClampNeg = L) ∧ ∀ r, mz_Ex 101 mz_kL (18, [some (.ref 3000), some (.ref 0), some (.ref 65), some (.int ((nI i) + 6))], [], m2) r → mz_Ex 101 mz_kL (18, [some (.ref 3000), some (.ref 0), some (.ref 65), some (.int (nI i))], [], m) r := by
  obtain ⟨v1, v2, m1, m2, h1, h2, h3, hv⟩ := sc_tell hj hI (xs (i + 1))
  have e1 := lw_eL h1 e
  have e2 := lw_eL h2 e1
  refine ⟨m2, h3, e2, fun r hr => ?_⟩
  refine mz_go 3 (c' := (21, [some (.ref 3000), some (.ref 0), some (.ref 65), some (.int (nI i))], [.int (Int32.ofNat (m 3001 0).toNatClampNeg), .int (nI i)], m)) rfl ?_
  rw [show Int32.ofNat (m 3001 0).toNatClampNeg = nI L from by rw [e.2]; rfl]
  refine mz_go 3 (c' := (if ((nI L) - 6) < (nI i) then 1588 else 27, [some (.ref 3000), some (.ref 0), some (.ref 65), some (.int (nI i))], [], m)) rfl ?_
  refine mz_ifF (show ¬ (((nI L) - 6) < (nI i)) from (sm_law hL (by omega) (by omega))) ?_
  refine mz_go 2 (c' := (29, [some (.ref 3000), some (.ref 0), some (.ref 65), some (.int (nI i))], [.int (nI i), .ref 3000], m)) rfl ?_
  refine mz_arr (c' := (30, [some (.ref 3000), some (.ref 0), some (.ref 65), some (.int (nI i))], [.int (m 3000 ((nI i).toNatClampNeg))], m)) rfl (show mz_in (nI i) (m 3001 0).toNatClampNeg = true from by rw [e.2]; exact sm_inN rfl (show i < L by omega) (by omega)) ?_
  rw [show (nI i : Int32).toNatClampNeg = i from sm_clN rfl (show i < 2 ^ 31 by omega)]
  rw [show m 3000 i = xs i from e.1 _]
  refine mz_go 2 (c' := (33, [some (.ref 3000), some (.ref 0), some (.ref 65), some (.int (nI i))], [.int ((xs i) &&& 63)], m)) rfl ?_
  rw [h]
  refine mz_go 6 (c' := (1495, [some (.ref 3000), some (.ref 0), some (.ref 65), some (.int (nI i))], [.int ((nI i) + 1), .ref 3000, .ref 0], m)) rfl ?_
  refine mz_arr (c' := (1496, [some (.ref 3000), some (.ref 0), some (.ref 65), some (.int (nI i))], [.int (m 3000 (((nI i) + 1).toNatClampNeg)), .ref 0], m)) rfl (show mz_in ((nI i) + 1) (m 3001 0).toNatClampNeg = true from by rw [e.2]; exact sm_inN (sm_addN rfl rfl) (show (i + 1) < L by omega) (by omega)) ?_
  rw [show ((nI i) + 1 : Int32).toNatClampNeg = (i + 1) from sm_clN (sm_addN rfl rfl) (show (i + 1) < 2 ^ 31 by omega)]
  rw [show m 3000 (i + 1) = xs (i + 1) from e.1 _]
  refine mz_do (R := mz_r105) (as := [.ref 0, .int (xs (i + 1))]) (rest := []) (r1 := some (.int v1)) (m1 := m1) rfl h1 ?_
  refine mz_go 6 (c' := (1505, [some (.ref 3000), some (.ref 0), some (.ref 65), some (.int (nI i))], [.int ((nI i) + 1), .ref 3000, .ref 65], m1)) rfl ?_
  refine mz_arr (c' := (1506, [some (.ref 3000), some (.ref 0), some (.ref 65), some (.int (nI i))], [.int (m1 3000 (((nI i) + 1).toNatClampNeg)), .ref 65], m1)) rfl (show mz_in ((nI i) + 1) (m1 3001 0).toNatClampNeg = true from by rw [e1.2]; exact sm_inN (sm_addN rfl rfl) (show (i + 1) < L by omega) (by omega)) ?_
  rw [show ((nI i) + 1 : Int32).toNatClampNeg = (i + 1) from sm_clN (sm_addN rfl rfl) (show (i + 1) < 2 ^ 31 by omega)]
  rw [show m1 3000 (i + 1) = xs (i + 1) from e1.1 _]
  refine mz_do (R := mz_r226) (as := [.ref 65, .int (xs (i + 1))]) (rest := []) (r1 := some (.int v2)) (m1 := m2) rfl h2 ?_
  refine mz_go 4 (c' := (18, [some (.ref 3000), some (.ref 0), some (.ref 65), some (.int ((nI i) + 6))], [], m2)) rfl ?_
  exact hr
set_option maxHeartbeats 4000000 in
set_option maxRecDepth 100000 in
theorem lwc_check {xs : Nat → Int32} {L i j : Nat} (hL : L ≤ 384) (hi : i + 6 ≤ L) {m : mz_M} (hj : j < 64) (hI : sm_I j m) (e : (∀ k, m 3000 k = xs k) ∧ (m 3001 0).toNatClampNeg = L) (h : xs i &&& 63 = 39) : ∃ m2, sm_I (j + 1) m2 ∧ ((∀ k, m2 3000 k = xs k) ∧ (m2 3001 0).toNatClampNeg = L) ∧ ∀ r, mz_Ex 101 mz_kL (18, [some (.ref 3000), some (.ref 0), some (.ref 65), some (.int ((nI i) + 6))], [], m2) r → mz_Ex 101 mz_kL (18, [some (.ref 3000), some (.ref 0), some (.ref 65), some (.int (nI i))], [], m) r := by
  obtain ⟨v1, v2, m1, m2, h1, h2, h3⟩ := sc_check hj hI (xs (i + 1))
  have e1 := lw_eL h1 e
  have e2 := lw_eL h2 e1
  refine ⟨m2, h3, e2, fun r hr => ?_⟩
  refine mz_go 3 (c' := (21, [some (.ref 3000), some (.ref 0), some (.ref 65), some (.int (nI i))], [.int (Int32.ofNat (m 3001 0).toNatClampNeg), .int (nI i)], m)) rfl ?_
  rw [show Int32.ofNat (m 3001 0).toNatClampNeg = nI L from by rw [e.2]; rfl]
  refine mz_go 3 (c' := (if ((nI L) - 6) < (nI i) then 1588 else 27, [some (.ref 3000), some (.ref 0), some (.ref 65), some (.int (nI i))], [], m)) rfl ?_
  refine mz_ifF (show ¬ (((nI L) - 6) < (nI i)) from (sm_law hL (by omega) (by omega))) ?_
  refine mz_go 2 (c' := (29, [some (.ref 3000), some (.ref 0), some (.ref 65), some (.int (nI i))], [.int (nI i), .ref 3000], m)) rfl ?_
  refine mz_arr (c' := (30, [some (.ref 3000), some (.ref 0), some (.ref 65), some (.int (nI i))], [.int (m 3000 ((nI i).toNatClampNeg))], m)) rfl (show mz_in (nI i) (m 3001 0).toNatClampNeg = true from by rw [e.2]; exact sm_inN rfl (show i < L by omega) (by omega)) ?_
  rw [show (nI i : Int32).toNatClampNeg = i from sm_clN rfl (show i < 2 ^ 31 by omega)]
  rw [show m 3000 i = xs i from e.1 _]
  refine mz_go 2 (c' := (33, [some (.ref 3000), some (.ref 0), some (.ref 65), some (.int (nI i))], [.int ((xs i) &&& 63)], m)) rfl ?_
  rw [h]
  refine mz_go 6 (c' := (1518, [some (.ref 3000), some (.ref 0), some (.ref 65), some (.int (nI i))], [.int ((nI i) + 1), .ref 3000, .ref 0], m)) rfl ?_
  refine mz_arr (c' := (1519, [some (.ref 3000), some (.ref 0), some (.ref 65), some (.int (nI i))], [.int (m 3000 (((nI i) + 1).toNatClampNeg)), .ref 0], m)) rfl (show mz_in ((nI i) + 1) (m 3001 0).toNatClampNeg = true from by rw [e.2]; exact sm_inN (sm_addN rfl rfl) (show (i + 1) < L by omega) (by omega)) ?_
  rw [show ((nI i) + 1 : Int32).toNatClampNeg = (i + 1) from sm_clN (sm_addN rfl rfl) (show (i + 1) < 2 ^ 31 by omega)]
  rw [show m 3000 (i + 1) = xs (i + 1) from e.1 _]
  refine mz_do (R := mz_r106) (as := [.ref 0, .int (xs (i + 1))]) (rest := []) (r1 := some (.int v1)) (m1 := m1) rfl h1 ?_
  refine mz_go 6 (c' := (1528, [some (.ref 3000), some (.ref 0), some (.ref 65), some (.int (nI i))], [.int ((nI i) + 1), .ref 3000, .ref 65], m1)) rfl ?_
  refine mz_arr (c' := (1529, [some (.ref 3000), some (.ref 0), some (.ref 65), some (.int (nI i))], [.int (m1 3000 (((nI i) + 1).toNatClampNeg)), .ref 65], m1)) rfl (show mz_in ((nI i) + 1) (m1 3001 0).toNatClampNeg = true from by rw [e1.2]; exact sm_inN (sm_addN rfl rfl) (show (i + 1) < L by omega) (by omega)) ?_
  rw [show ((nI i) + 1 : Int32).toNatClampNeg = (i + 1) from sm_clN (sm_addN rfl rfl) (show (i + 1) < 2 ^ 31 by omega)]
  rw [show m1 3000 (i + 1) = xs (i + 1) from e1.1 _]
  refine mz_do (R := mz_r227) (as := [.ref 65, .int (xs (i + 1))]) (rest := []) (r1 := some (.int v2)) (m1 := m2) rfl h2 ?_
  refine mz_go 4 (c' := (18, [some (.ref 3000), some (.ref 0), some (.ref 65), some (.int ((nI i) + 6))], [], m2)) rfl ?_
  exact hr
set_option maxHeartbeats 4000000 in
set_option maxRecDepth 100000 in
theorem lwc_count {xs : Nat → Int32} {L i j : Nat} (hL : L ≤ 384) (hi : i + 6 ≤ L) {m : mz_M} (hj : j < 64) (hI : sm_I j m) (e : (∀ k, m 3000 k = xs k) ∧ (m 3001 0).toNatClampNeg = L) (h : xs i &&& 63 = 40) : ∃ m2, sm_I (j + 1) m2 ∧ ((∀ k, m2 3000 k = xs k) ∧ (m2 3001 0).toNatClampNeg = L) ∧ ∀ r, mz_Ex 101 mz_kL (18, [some (.ref 3000), some (.ref 0), some (.ref 65), some (.int ((nI i) + 6))], [], m2) r → mz_Ex 101 mz_kL (18, [some (.ref 3000), some (.ref 0), some (.ref 65), some (.int (nI i))], [], m) r := by
  obtain ⟨v1, v2, m1, m2, h1, h2, h3⟩ := sc_count hj hI (xs (i + 1))
  have e1 := lw_eL h1 e
  have e2 := lw_eL h2 e1
  refine ⟨m2, h3, e2, fun r hr => ?_⟩
  refine mz_go 3 (c' := (21, [some (.ref 3000), some (.ref 0), some (.ref 65), some (.int (nI i))], [.int (Int32.ofNat (m 3001 0).toNatClampNeg), .int (nI i)], m)) rfl ?_
  rw [show Int32.ofNat (m 3001 0).toNatClampNeg = nI L from by rw [e.2]; rfl]
  refine mz_go 3 (c' := (if ((nI L) - 6) < (nI i) then 1588 else 27, [some (.ref 3000), some (.ref 0), some (.ref 65), some (.int (nI i))], [], m)) rfl ?_
  refine mz_ifF (show ¬ (((nI L) - 6) < (nI i)) from (sm_law hL (by omega) (by omega))) ?_
  refine mz_go 2 (c' := (29, [some (.ref 3000), some (.ref 0), some (.ref 65), some (.int (nI i))], [.int (nI i), .ref 3000], m)) rfl ?_
  refine mz_arr (c' := (30, [some (.ref 3000), some (.ref 0), some (.ref 65), some (.int (nI i))], [.int (m 3000 ((nI i).toNatClampNeg))], m)) rfl (show mz_in (nI i) (m 3001 0).toNatClampNeg = true from by rw [e.2]; exact sm_inN rfl (show i < L by omega) (by omega)) ?_
  rw [show (nI i : Int32).toNatClampNeg = i from sm_clN rfl (show i < 2 ^ 31 by omega)]
  rw [show m 3000 i = xs i from e.1 _]
  refine mz_go 2 (c' := (33, [some (.ref 3000), some (.ref 0), some (.ref 65), some (.int (nI i))], [.int ((xs i) &&& 63)], m)) rfl ?_
  rw [h]
  refine mz_go 6 (c' := (1541, [some (.ref 3000), some (.ref 0), some (.ref 65), some (.int (nI i))], [.int ((nI i) + 1), .ref 3000, .ref 0], m)) rfl ?_
  refine mz_arr (c' := (1542, [some (.ref 3000), some (.ref 0), some (.ref 65), some (.int (nI i))], [.int (m 3000 (((nI i) + 1).toNatClampNeg)), .ref 0], m)) rfl (show mz_in ((nI i) + 1) (m 3001 0).toNatClampNeg = true from by rw [e.2]; exact sm_inN (sm_addN rfl rfl) (show (i + 1) < L by omega) (by omega)) ?_
  rw [show ((nI i) + 1 : Int32).toNatClampNeg = (i + 1) from sm_clN (sm_addN rfl rfl) (show (i + 1) < 2 ^ 31 by omega)]
  rw [show m 3000 (i + 1) = xs (i + 1) from e.1 _]
  refine mz_do (R := mz_r107) (as := [.ref 0, .int (xs (i + 1))]) (rest := []) (r1 := some (.int v1)) (m1 := m1) rfl h1 ?_
  refine mz_go 6 (c' := (1551, [some (.ref 3000), some (.ref 0), some (.ref 65), some (.int (nI i))], [.int ((nI i) + 1), .ref 3000, .ref 65], m1)) rfl ?_
  refine mz_arr (c' := (1552, [some (.ref 3000), some (.ref 0), some (.ref 65), some (.int (nI i))], [.int (m1 3000 (((nI i) + 1).toNatClampNeg)), .ref 65], m1)) rfl (show mz_in ((nI i) + 1) (m1 3001 0).toNatClampNeg = true from by rw [e1.2]; exact sm_inN (sm_addN rfl rfl) (show (i + 1) < L by omega) (by omega)) ?_
  rw [show ((nI i) + 1 : Int32).toNatClampNeg = (i + 1) from sm_clN (sm_addN rfl rfl) (show (i + 1) < 2 ^ 31 by omega)]
  rw [show m1 3000 (i + 1) = xs (i + 1) from e1.1 _]
  refine mz_do (R := mz_r228) (as := [.ref 65, .int (xs (i + 1))]) (rest := []) (r1 := some (.int v2)) (m1 := m2) rfl h2 ?_
  refine mz_go 4 (c' := (18, [some (.ref 3000), some (.ref 0), some (.ref 65), some (.int ((nI i) + 6))], [], m2)) rfl ?_
  exact hr
set_option maxHeartbeats 4000000 in
set_option maxRecDepth 100000 in
theorem lwc_told {xs : Nat → Int32} {L i j : Nat} (hL : L ≤ 384) (hi : i + 6 ≤ L) {m : mz_M} (hj : j < 64) (hI : sm_I j m) (e : (∀ k, m 3000 k = xs k) ∧ (m 3001 0).toNatClampNeg = L) (h : xs i &&& 63 = 41) : ∃ m2, sm_I (j + 1) m2 ∧ ((∀ k, m2 3000 k = xs k) ∧ (m2 3001 0).toNatClampNeg = L) ∧ ∀ r, mz_Ex 101 mz_kL (18, [some (.ref 3000), some (.ref 0), some (.ref 65), some (.int ((nI i) + 6))], [], m2) r → mz_Ex 101 mz_kL (18, [some (.ref 3000), some (.ref 0), some (.ref 65), some (.int (nI i))], [], m) r := by
  obtain ⟨v1, v2, m1, m2, h1, h2, h3⟩ := sc_told hj hI (xs (i + 1))
  have e1 := lw_eL h1 e
  have e2 := lw_eL h2 e1
  refine ⟨m2, h3, e2, fun r hr => ?_⟩
  refine mz_go 3 (c' := (21, [some (.ref 3000), some (.ref 0), some (.ref 65), some (.int (nI i))], [.int (Int32.ofNat (m 3001 0).toNatClampNeg), .int (nI i)], m)) rfl ?_
  rw [show Int32.ofNat (m 3001 0).toNatClampNeg = nI L from by rw [e.2]; rfl]
  refine mz_go 3 (c' := (if ((nI L) - 6) < (nI i) then 1588 else 27, [some (.ref 3000), some (.ref 0), some (.ref 65), some (.int (nI i))], [], m)) rfl ?_
  refine mz_ifF (show ¬ (((nI L) - 6) < (nI i)) from (sm_law hL (by omega) (by omega))) ?_
  refine mz_go 2 (c' := (29, [some (.ref 3000), some (.ref 0), some (.ref 65), some (.int (nI i))], [.int (nI i), .ref 3000], m)) rfl ?_
  refine mz_arr (c' := (30, [some (.ref 3000), some (.ref 0), some (.ref 65), some (.int (nI i))], [.int (m 3000 ((nI i).toNatClampNeg))], m)) rfl (show mz_in (nI i) (m 3001 0).toNatClampNeg = true from by rw [e.2]; exact sm_inN rfl (show i < L by omega) (by omega)) ?_
  rw [show (nI i : Int32).toNatClampNeg = i from sm_clN rfl (show i < 2 ^ 31 by omega)]
  rw [show m 3000 i = xs i from e.1 _]
  refine mz_go 2 (c' := (33, [some (.ref 3000), some (.ref 0), some (.ref 65), some (.int (nI i))], [.int ((xs i) &&& 63)], m)) rfl ?_
  rw [h]
  refine mz_go 6 (c' := (1564, [some (.ref 3000), some (.ref 0), some (.ref 65), some (.int (nI i))], [.int ((nI i) + 1), .ref 3000, .ref 0], m)) rfl ?_
  refine mz_arr (c' := (1565, [some (.ref 3000), some (.ref 0), some (.ref 65), some (.int (nI i))], [.int (m 3000 (((nI i) + 1).toNatClampNeg)), .ref 0], m)) rfl (show mz_in ((nI i) + 1) (m 3001 0).toNatClampNeg = true from by rw [e.2]; exact sm_inN (sm_addN rfl rfl) (show (i + 1) < L by omega) (by omega)) ?_
  rw [show ((nI i) + 1 : Int32).toNatClampNeg = (i + 1) from sm_clN (sm_addN rfl rfl) (show (i + 1) < 2 ^ 31 by omega)]
  rw [show m 3000 (i + 1) = xs (i + 1) from e.1 _]
  refine mz_do (R := mz_r108) (as := [.ref 0, .int (xs (i + 1))]) (rest := []) (r1 := some (.int v1)) (m1 := m1) rfl h1 ?_
  refine mz_go 6 (c' := (1574, [some (.ref 3000), some (.ref 0), some (.ref 65), some (.int (nI i))], [.int ((nI i) + 1), .ref 3000, .ref 65], m1)) rfl ?_
  refine mz_arr (c' := (1575, [some (.ref 3000), some (.ref 0), some (.ref 65), some (.int (nI i))], [.int (m1 3000 (((nI i) + 1).toNatClampNeg)), .ref 65], m1)) rfl (show mz_in ((nI i) + 1) (m1 3001 0).toNatClampNeg = true from by rw [e1.2]; exact sm_inN (sm_addN rfl rfl) (show (i + 1) < L by omega) (by omega)) ?_
  rw [show ((nI i) + 1 : Int32).toNatClampNeg = (i + 1) from sm_clN (sm_addN rfl rfl) (show (i + 1) < 2 ^ 31 by omega)]
  rw [show m1 3000 (i + 1) = xs (i + 1) from e1.1 _]
  refine mz_do (R := mz_r229) (as := [.ref 65, .int (xs (i + 1))]) (rest := []) (r1 := some (.int v2)) (m1 := m2) rfl h2 ?_
  refine mz_go 4 (c' := (18, [some (.ref 3000), some (.ref 0), some (.ref 65), some (.int ((nI i) + 6))], [], m2)) rfl ?_
  exact hr
