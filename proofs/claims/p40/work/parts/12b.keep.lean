/-! what lies beyond the shapes stays -/
theorem kp1 {S0 : mz_Sh} {m : mz_M} {i0 k i : Nat} {x : Int32} {q : Nat ⊕ (Nat × List Nat)} (h : S0[i0]? = some q) (hi : S0.length ≤ i) : mz_up m i0 k x i = m i := mz_up_ne (by have := mz_lt h; omega)
theorem kp2 {S0 : mz_Sh} {m : mz_M} {i0 j0 sp dp n i : Nat} {q : Nat ⊕ (Nat × List Nat)} (h : S0[i0]? = some q) (hi : S0.length ≤ i) : mz_cp m i0 j0 sp dp n i = m i := by
  have h1 : (i == i0) = false := by
    have := mz_lt h
    simp
    omega
  funext b
  simp only [mz_cp, h1, Bool.false_and, cond_false]
theorem kp3 {S0 : mz_Sh} {m m' : mz_M} {ci k i0 i : Nat} {v : Value} (h : mz_put S0 m ci k i0 v = some m') (hi : S0.length ≤ i) : m' i = m i := by
  unfold mz_put at h
  split at h
  · rename_i c fs hq
    obtain ⟨-, h⟩ := mz_cond h
    split at h
    · cases h
      exact kp1 hq hi
    · obtain ⟨-, h⟩ := mz_cond h
      cases h
      exact kp1 hq hi
    · obtain ⟨-, h⟩ := mz_cond h
      cases h
      exact kp1 hq hi
    · cases h
  · cases h
set_option maxHeartbeats 4000000 in
theorem mz_step_keep {S0 : mz_Sh} {T0 : List (List Int32)} {ins : Instr} {f : mz_I} {pc : Nat} {L : List (Option Value)} {S : List Value} {m : mz_M} {c1 : mz_C} (h : mz_step S0 T0 ins f pc L S m = some (.inl c1)) {i : Nat} (hi : S0.length ≤ i) : c1.2.2.2 i = m i := by
  unfold mz_step at h
  split at h
  all_goals (try simp only [mz_next, mz_jump, cond_eq_ite] at h)
  all_goals (repeat' (first | (cases h; done) | (cases h; rfl) | split at h))
  all_goals
    cases h
    first
      | rfl
      | exact kp1 (by assumption) hi
      | exact kp2 (by assumption) hi
      | exact kp3 (by assumption) hi
theorem mz_x_keep {S0 : mz_Sh} {T0 : List (List Int32)} {T : List mz_R} : ∀ {n d : Nat} {K : mz_K} {c : mz_C} {r : Option Value × mz_M}, mz_x S0 T0 T n d K c = some r → ∀ {i : Nat}, S0.length ≤ i → r.2 i = c.2.2.2 i := by
  intro n
  induction n with
  | zero =>
    intro d K c r h
    cases h
  | succ n ih =>
    intro d K c r h i hi
    obtain ⟨pc, L, S, m⟩ := c
    obtain ⟨e, he, ⟨c1, hs, h1⟩ | ⟨hs, hm⟩ | ⟨a, R, d1, r1, m1, hs, hR, rfl, hc, h1, hf, h2⟩⟩ := mz_x_inv h
    · exact (ih h1 hi).trans (mz_step_keep hs hi)
    · exact congrFun hm i
    · exact (ih h2 hi).trans (ih h1 hi)
theorem mz_Me_keep {d : Nat} {R : mz_R} {as : List Value} {m m' : mz_M} {r : Option Value} (h : mz_Me d R as m r m') {i : Nat} (hi : 79 ≤ i) : m' i = m i := by
  obtain ⟨⟨n, h1⟩, -⟩ := h
  exact mz_x_keep h1 (show mz_S.length ≤ i from hi)
/-- the script, behind calls -/
theorem lw_e {xs : Nat → Int32} {m m1 : mz_M} {d : Nat} {R : mz_R} {as : List Value} {r : Option Value} (h : mz_Me d R as m r m1) (e : (∀ j, m 3000 j = xs j) ∧ (m 3001 0).toNatClampNeg = 6) : (∀ j, m1 3000 j = xs j) ∧ (m1 3001 0).toNatClampNeg = 6 := by
  have h1 : m1 3000 = m 3000 := mz_Me_keep h (by decide)
  have h2 : m1 3001 = m 3001 := mz_Me_keep h (by decide)
  rw [h1, h2]
  exact e
theorem lw_e0 (xs : Nat → Int32) : (∀ j, mz_i xs 6 3000 j = xs j) ∧ (mz_i xs 6 3001 0).toNatClampNeg = 6 := ⟨fun _ => rfl, rfl⟩
theorem lw_and (x : Int32) : ∃ k : Nat, k < 64 ∧ x &&& 63 = nI k := by
  refine ⟨(x &&& 63).toBitVec.toNat, ?_, ?_⟩
  · have h : (x &&& 63).toBitVec.toNat = x.toBitVec.toNat &&& 63 := by
      rw [Int32.toBitVec_and, BitVec.toNat_and]
      rfl
    rw [h]
    exact Nat.lt_of_le_of_lt Nat.and_le_right (by decide)
  · apply Int32.toBitVec_inj.mp
    show (x &&& 63).toBitVec = BitVec.ofNat 32 ((x &&& 63).toBitVec.toNat)
    rw [BitVec.ofNat_toNat, BitVec.setWidth_eq]
