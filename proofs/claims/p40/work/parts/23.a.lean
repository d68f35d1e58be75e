/-! the reference's row beside the world -/
noncomputable def sm_lk (ch : Nat → Int32) (s v a b : Int32) : Prop := (s = 0 → a = 0 ∧ b = v) ∧ (s = 1 → a = 1 ∧ b = ch v.toNatClampNeg) ∧ (s = 33 → a = 2) ∧ (sm_sgn s = true → a = 3 ∧ b = s)
noncomputable def sm_TR (w : mz_M) (s : Nat → Int32) (u base : Nat) (ch : Nat → Int32) : Prop := s base = w u 2 ∧ ∀ k, k < (w u 2).toNatClampNeg → sm_lk ch (w (u + 1) k) (w (u + 2) k) (s (base + 1 + 2 * k)) (s (base + 2 + 2 * k))
noncomputable def sm_ch0 : Nat → Int32 := sm_nm 114 115 110 0 0
noncomputable def sm_ch1 : Nat → Int32 := sm_nm 118 114 110 0 0
noncomputable def sm_ch2 : Nat → Int32 := sm_nm 99 108 120 121 101
noncomputable def sm_HR (w : mz_M) (s : Nat → Int32) : Prop := s 0 = w 2 4 ∧ (∀ k, k < 6 → s (30 + 4 * k) = w 3 k ∧ s (30 + 4 * k + 1) = w 4 k ∧ s (30 + 4 * k + 2) = w 5 k ∧ s (30 + 4 * k + 3) = w 6 k) ∧ (∀ k, k < 6 → s (10 + k) = w 7 k) ∧ sm_TR w s 10 170 sm_ch0 ∧ sm_TR w s 13 295 sm_ch1 ∧ sm_TR w s 16 420 sm_ch2
theorem sm_div1 (a : Int32) : a / (-1) = -a := by
  apply Int32.toInt_inj.mp
  rw [Int32.toInt_div, show (-1 : Int32).toInt = -1 from by decide, Int.tdiv_neg, Int.tdiv_one, ← Int32.toInt_neg]
theorem sm_rem1 (a : Int32) : a - a / (-1) * (-1) = 0 := by
  rw [sm_div1, Int32.neg_mul, Int32.mul_neg, Int32.mul_one, Int32.neg_neg, Int32.sub_self]
