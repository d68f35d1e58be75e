/-! rows anew; bounded numbers -/
theorem mz_set_ne {m : mz_M} {i j : Nat} {f : Nat → Int32} (h : j ≠ i) : mz_set m i f j = m j := by
  funext b
  unfold mz_set
  rw [beq_eq_false_iff_ne.mpr h]
  rfl
theorem mz_set_eq {m : mz_M} {i : Nat} {f : Nat → Int32} : mz_set m i f i = f := by
  funext b
  unfold mz_set
  rw [beq_self_eq_true]
  rfl
theorem sm_of1 {m m' : mz_M} {a : Nat} (h : ∀ i, i ≠ a → m' i = m i) : m' = mz_set m a (m' a) := by
  funext i
  by_cases h1 : i = a
  · subst h1
    exact mz_set_eq.symm
  · rw [mz_set_ne h1, h i h1]
theorem sm_of2 {m m' : mz_M} {a b : Nat} (h : ∀ i, i ≠ a → i ≠ b → m' i = m i) : m' = mz_set (mz_set m a (m' a)) b (m' b) := by
  funext i
  by_cases h1 : i = b
  · subst h1
    exact mz_set_eq.symm
  · rw [mz_set_ne h1]
    by_cases h2 : i = a
    · subst h2
      exact mz_set_eq.symm
    · rw [mz_set_ne h2, h i h2 h1]
theorem sm_of3 {m m' : mz_M} {a b c : Nat} (h : ∀ i, i ≠ a → i ≠ b → i ≠ c → m' i = m i) : m' = mz_set (mz_set (mz_set m a (m' a)) b (m' b)) c (m' c) := by
  funext i
  by_cases h1 : i = c
  · subst h1
    exact mz_set_eq.symm
  · rw [mz_set_ne h1]
    by_cases h2 : i = b
    · subst h2
      exact mz_set_eq.symm
    · rw [mz_set_ne h2]
      by_cases h3 : i = a
      · subst h3
        exact mz_set_eq.symm
      · rw [mz_set_ne h3, h i h3 h2 h1]
theorem sm_sub {a b : Int32} (h1 : -2147483648 ≤ a.toInt - b.toInt) (h2 : a.toInt - b.toInt < 2147483648) : (a - b).toInt = a.toInt - b.toInt := by
  rw [Int32.toInt_sub]
  exact Int.bmod_eq_of_le_mul_two (by omega) (by omega)
theorem sm_add {a b : Int32} (h1 : -2147483648 ≤ a.toInt + b.toInt) (h2 : a.toInt + b.toInt < 2147483648) : (a + b).toInt = a.toInt + b.toInt := by
  rw [Int32.toInt_add]
  exact Int.bmod_eq_of_le_mul_two (by omega) (by omega)
theorem sm_mul {a b : Int32} (h1 : -2147483648 ≤ a.toInt * b.toInt) (h2 : a.toInt * b.toInt < 2147483648) : (a * b).toInt = a.toInt * b.toInt := by
  rw [Int32.toInt_mul]
  exact Int.bmod_eq_of_le_mul_two (by omega) (by omega)
theorem sm_div {a b : Int32} (ha : 0 ≤ a.toInt) (hb : 0 ≤ b.toInt) : (a / b).toInt = a.toInt / b.toInt := by
  rw [Int32.toInt_div, Int.tdiv_eq_ediv_of_nonneg ha]
  have h1 : 0 ≤ a.toInt / b.toInt := Int.ediv_nonneg ha hb
  have h2 : a.toInt / b.toInt ≤ a.toInt := Int.ediv_le_self _ ha
  have h3 := a.toInt_lt
  exact Int.bmod_eq_of_le_mul_two (by omega) (by omega)
theorem sm_neg {a : Int32} (h1 : -2147483648 < a.toInt) : (-a).toInt = -a.toInt := by
  have h3 := a.toInt_lt
  rw [Int32.toInt_neg]
  exact Int.bmod_eq_of_le_mul_two (by omega) (by omega)
theorem sm_lit (n : Nat) (h : n < 2 ^ 31) : (nI n).toInt = n := nI_toInt h
/-- within -n .. n -/
noncomputable def sm_B (n : Nat) (x : Int32) : Prop := -(n : Int) ≤ x.toInt ∧ x.toInt ≤ n
/-- within 0 .. n -/
noncomputable def sm_N (n : Nat) (x : Int32) : Prop := 0 ≤ x.toInt ∧ x.toInt ≤ n
theorem sm_Nof {n : Nat} {x : Int32} (hn : n < 2 ^ 31) (h : sm_N n x) : ∃ k, k ≤ n ∧ x = nI k := by
  obtain ⟨h1, h2⟩ := h
  refine ⟨x.toInt.toNat, by omega, ?_⟩
  apply Int32.toInt_inj.mp
  rw [nI_toInt (by omega)]
  omega
theorem sm_Nto {n k : Nat} (hn : n < 2 ^ 31) (h : k ≤ n) : sm_N n (nI k) := by
  unfold sm_N
  rw [nI_toInt (by omega)]
  omega
/-! naturals behind ints -/
theorem sm_addN {x y : Int32} {a b : Nat} (h1 : x = nI a) (h2 : y = nI b) : x + y = nI (a + b) := by rw [h1, h2, nI_add]
theorem sm_mulN {x y : Int32} {a b : Nat} (h1 : x = nI a) (h2 : y = nI b) : x * y = nI (a * b) := by
  rw [h1, h2]
  exact (Int32.ofNat_mul a b).symm
theorem sm_subN {x y : Int32} {a b : Nat} (h1 : x = nI a) (h2 : y = nI b) (h : b ≤ a) : x - y = nI (a - b) := by
  obtain ⟨c, rfl⟩ : ∃ c, a = c + b := ⟨a - b, by omega⟩
  rw [h1, h2, ← nI_add, Nat.add_sub_cancel]
  exact Int32.add_sub_cancel _ _
theorem sm_clN {x : Int32} {e : Nat} (h : x = nI e) (h1 : e < 2 ^ 31) : x.toNatClampNeg = e := by rw [h, nI_clamp h1]
theorem sm_inN {x : Int32} {e n : Nat} (h : x = nI e) (h1 : e < n) (hn : n < 2 ^ 31) : mz_in x n = true := by
  subst h
  exact mz_inH (nI_pos (by omega)) (nI_lt h1 hn) hn
theorem sm_ltN {x y : Int32} {a b : Nat} (h1 : x = nI a) (h2 : y = nI b) (h : a < b) (hb : b < 2 ^ 31) : x < y := by
  rw [h1, h2]
  exact nI_lt h hb
theorem sm_nltN {x y : Int32} {a b : Nat} (h1 : x = nI a) (h2 : y = nI b) (h : b ≤ a) (ha : a < 2 ^ 31) : ¬ x < y := by
  rw [h1, h2]
  exact nI_nlt h ha
theorem sm_leN {x y : Int32} {a b : Nat} (h1 : x = nI a) (h2 : y = nI b) (h : a ≤ b) (hb : b < 2 ^ 31) : x ≤ y := by
  rw [h1, h2]
  exact nI_le h hb
theorem sm_nleN {x y : Int32} {a b : Nat} (h1 : x = nI a) (h2 : y = nI b) (h : b < a) (ha : a < 2 ^ 31) : ¬ x ≤ y := by
  rw [h1, h2]
  exact nI_ge h ha
theorem sm_eqN {x y : Int32} {a b : Nat} (h1 : x = nI a) (h2 : y = nI b) (h : a = b) : x = y := by rw [h1, h2, h]
theorem sm_neN {x y : Int32} {a b : Nat} (h1 : x = nI a) (h2 : y = nI b) (h : a ≠ b) (ha : a < 2 ^ 31) (hb : b < 2 ^ 31) : ¬ x = y := by
  rw [h1, h2]
  exact fun e => h ((nI_eq ha hb).mp e)
noncomputable def sm_max (x y : Int32) : Int32 := if x < y then y else x
noncomputable def sm_min (x y : Int32) : Int32 := if y < x then y else x
/-! the bob's world: plain functions -/
noncomputable def sm_abs (x : Int32) : Int32 := if 0 ≤ x then x else 0 - x
noncomputable def sm_held (v a b : Int32) : Int32 := if v < a then a else if b < v then b else v
noncomputable def sm_far (px py x y : Int32) : Int32 := (sm_abs (16 * px - x) + sm_abs (16 * py - y)) / 16
theorem sm_abs_neg (x : Int32) : (if x < 0 then -x else x) = sm_abs x := by
  unfold sm_abs
  by_cases h : x < 0
  · rw [if_pos h, if_neg (Int32.not_le.mpr h), Int32.zero_sub]
  · rw [if_neg h, if_pos (Int32.not_lt.mp h)]
theorem sm_abs_toInt {x : Int32} {n : Nat} (hn : n < 2 ^ 31) (h : sm_B n x) : (sm_abs x).toInt = x.toInt.natAbs := by
  obtain ⟨h1, h2⟩ := h
  unfold sm_abs
  by_cases h0 : 0 ≤ x
  · rw [if_pos h0]
    have := Int32.le_iff_toInt_le.mp h0
    rw [Int32.toInt_zero] at this
    omega
  · rw [if_neg h0, Int32.zero_sub, sm_neg (by omega)]
    have h3 := Int32.lt_iff_toInt_lt.mp (Int32.not_le.mp h0)
    rw [Int32.toInt_zero] at h3
    omega
/-- off a magnet, in sixteenths -/
theorem sm_off {px x : Int32} (hp : sm_B 100 px) (hx : sm_B 1600 x) : sm_B 3200 (16 * px - x) := by
  obtain ⟨a1, a2⟩ := hp
  obtain ⟨b1, b2⟩ := hx
  have e : (16 : Int32).toInt = 16 := rfl
  have h1 : (16 * px).toInt = 16 * px.toInt := by
    rw [sm_mul (by rw [e]; omega) (by rw [e]; omega), e]
  unfold sm_B
  rw [sm_sub (by omega) (by omega), h1]
  omega
theorem sm_far_N {px py x y : Int32} (hp : sm_B 100 px) (hq : sm_B 100 py) (hx : sm_B 1600 x) (hy : sm_B 1600 y) : sm_N 400 (sm_far px py x y) := by
  have h1 := sm_off hp hx
  have h2 := sm_off hq hy
  have h3 := sm_abs_toInt (by decide) h1
  have h4 := sm_abs_toInt (by decide) h2
  obtain ⟨a1, a2⟩ := h1
  obtain ⟨b1, b2⟩ := h2
  have e : (16 : Int32).toInt = 16 := rfl
  have h5 : (sm_abs (16 * px - x) + sm_abs (16 * py - y)).toInt = (16 * px - x).toInt.natAbs + (16 * py - y).toInt.natAbs := by
    rw [sm_add (by omega) (by omega), h3, h4]
  unfold sm_N sm_far
  rw [sm_div (by omega) (by rw [e]; omega), h5, e]
  omega
theorem sm_by {r : Int32} (h : sm_N 400 r) : ¬ 16 * (r + 1) = 0 ∧ ¬ r + 3 = 0 := by
  obtain ⟨k, hk, rfl⟩ := sm_Nof (by decide) h
  have h1 : 16 * (nI k + 1) = nI (16 * (k + 1)) := by
    rw [← nI_succ]
    exact (Int32.ofNat_mul 16 (k + 1)).symm
  have h2 : nI k + 3 = nI (k + 3) := nI_add k 3
  rw [h1, h2]
  exact ⟨nI_ne0 (by omega) (by omega), nI_ne0 (by omega) (by omega)⟩
theorem sm_held_max {v a b : Int32} (h : a ≤ b) : sm_max a (sm_min b v) = sm_held v a b := by
  unfold sm_max sm_min sm_held
  by_cases h1 : v < a
  · rw [if_pos h1]
    have h2 : v < b := by
      rw [Int32.lt_iff_toInt_lt] at h1 ⊢
      rw [Int32.le_iff_toInt_le] at h
      omega
    rw [if_pos h2, if_neg]
    rw [Int32.lt_iff_toInt_lt] at h1 ⊢
    omega
  · rw [if_neg h1]
    by_cases h3 : b < v
    · have h5 : ¬ v < b := by
        rw [Int32.lt_iff_toInt_lt] at h3 ⊢
        omega
      rw [if_pos h3, if_neg h5]
      by_cases h4 : a < b
      · rw [if_pos h4]
      · rw [if_neg h4]
        apply Int32.toInt_inj.mp
        rw [Int32.le_iff_toInt_le] at h
        rw [Int32.lt_iff_toInt_lt] at h4
        omega
    · rw [if_neg h3]
      by_cases h4 : v < b
      · rw [if_pos h4]
        by_cases h5 : a < v
        · rw [if_pos h5]
        · rw [if_neg h5]
          apply Int32.toInt_inj.mp
          rw [Int32.lt_iff_toInt_lt] at h1 h5
          omega
      · rw [if_neg h4]
        have e : v = b := by
          apply Int32.toInt_inj.mp
          rw [Int32.lt_iff_toInt_lt] at h3 h4
          omega
        subst e
        by_cases h5 : a < v
        · rw [if_pos h5]
        · rw [if_neg h5]
          apply Int32.toInt_inj.mp
          rw [Int32.lt_iff_toInt_lt] at h1 h5
          omega
theorem sm_held_B {v a b : Int32} (h : a ≤ b) : a ≤ sm_held v a b ∧ sm_held v a b ≤ b := by
  unfold sm_held
  simp only [Int32.le_iff_toInt_le, Int32.lt_iff_toInt_lt] at h ⊢
  by_cases h1 : v.toInt < a.toInt
  · rw [if_pos h1]
    omega
  · rw [if_neg h1]
    by_cases h2 : b.toInt < v.toInt
    · rw [if_pos h2]
      omega
    · rw [if_neg h2]
      omega
