/-! rules of runs: known branches, places in arrays, divisions, switches -/
theorem mz_ifT {d : Nat} {K : mz_K} {r : Option Value × mz_M} {c : Prop} [Decidable c] {t f : Nat} {L : List (Option Value)} {S : List Value} {m : mz_M} (h : c) (E : mz_Ex d K (t, L, S, m) r) : mz_Ex d K (if c then t else f, L, S, m) r := by rw [if_pos h]; exact E
theorem mz_ifF {d : Nat} {K : mz_K} {r : Option Value × mz_M} {c : Prop} [Decidable c] {t f : Nat} {L : List (Option Value)} {S : List Value} {m : mz_M} (h : ¬ c) (E : mz_Ex d K (f, L, S, m) r) : mz_Ex d K (if c then t else f, L, S, m) r := by rw [if_neg h]; exact E
/-- an array's place that isn't known to be within -/
noncomputable def mz_stA (K : mz_K) (c : mz_C) : Option (Nat × Int32 × mz_C) := match mz_fetch K c.1 with
  | some e => match e.2.1, c.2.2.1 with
    | .iaload, .int j :: .ref i :: S => cond (mz_isR i) none (match mz_len mz_S mz_T0 c.2.2.2 i with
      | some n => some (n, j, (c.1 + 1, c.2.1, .int (mz_val mz_T0 c.2.2.2 i j.toNatClampNeg) :: S, c.2.2.2))
      | none => none)
    | .iastore, .int x :: .int j :: .ref i :: S => match mz_S[i]? with
      | some (.inl n) => some (n, j, (c.1 + 1, c.2.1, S, mz_up c.2.2.2 i j.toNatClampNeg x))
      | _ => none
    | _, _ => none
  | none => none
theorem mz_arr {d : Nat} {K : mz_K} {r : Option Value × mz_M} {c c' : mz_C} {n : Nat} {j : Int32} (h : mz_stA K c = some (n, j, c')) (hin : mz_in j n = true) (E : mz_Ex d K c' r) : mz_Ex d K c r := by
  obtain ⟨k, hk⟩ := E
  obtain ⟨pc, L, S, m⟩ := c
  unfold mz_stA at h
  split at h
  · rename_i e he
    split at h
    · rename_i j1 i S1 hi hS
      obtain ⟨hr, h⟩ := mz_condn h
      split at h
      · rename_i n1 hn
        cases h
        simp only at hS hr hn he
        subst hS
        refine ⟨k + 1, (mz_x_next he ?_).trans hk⟩
        rw [hi]
        simp only [mz_step, hr, hn, cond_false, hin, cond_true, mz_next]
      · cases h
    · rename_i x j1 i S1 hi hS
      split at h
      · rename_i n1 hn
        cases h
        simp only at hS hn he
        subst hS
        refine ⟨k + 1, (mz_x_next he ?_).trans hk⟩
        rw [hi]
        simp only [mz_step, hn, hin, cond_true, mz_next]
      · cases h
    · cases h
  · cases h
noncomputable def mz_stD (K : mz_K) (c : mz_C) : Option (Int32 × mz_C) := match mz_fetch K c.1 with
  | some e => match e.2.1, c.2.2.1 with
    | .idiv, .int y :: .int x :: S => some (y, (c.1 + 1, c.2.1, .int (x / y) :: S, c.2.2.2))
    | .irem, .int y :: .int x :: S => some (y, (c.1 + 1, c.2.1, .int (x - x / y * y) :: S, c.2.2.2))
    | _, _ => none
  | none => none
theorem mz_div {d : Nat} {K : mz_K} {r : Option Value × mz_M} {c c' : mz_C} {y : Int32} (h : mz_stD K c = some (y, c')) (hy : ¬ y = 0) (E : mz_Ex d K c' r) : mz_Ex d K c r := by
  obtain ⟨k, hk⟩ := E
  obtain ⟨pc, L, S, m⟩ := c
  have hb : (y == 0) = false := by simpa using hy
  unfold mz_stD at h
  split at h
  · rename_i e he
    split at h
    · rename_i y1 x S1 hi hS
      cases h
      simp only at hS he
      subst hS
      refine ⟨k + 1, (mz_x_next he ?_).trans hk⟩
      rw [hi]
      simp only [mz_step, hb, cond_false, mz_next]
    · rename_i y1 x S1 hi hS
      cases h
      simp only at hS he
      subst hS
      refine ⟨k + 1, (mz_x_next he ?_).trans hk⟩
      rw [hi]
      simp only [mz_step, hb, cond_false, mz_next]
    · cases h
  · cases h
noncomputable def mz_stW (K : mz_K) (c : mz_C) : Option (Int × Int × Int32 × mz_C) := match mz_fetch K c.1 with
  | some e => match e.2.1, c.2.2.1 with
    | .tableswitch dd lo hi _, .int x :: S => cond (mz_ok c.1 dd) (some (lo, hi, x, (mz_tg c.1 dd, c.2.1, S, c.2.2.2))) none
    | _, _ => none
  | none => none
theorem mz_swd {d : Nat} {K : mz_K} {r : Option Value × mz_M} {c c' : mz_C} {lo hi : Int} {x : Int32} (h : mz_stW K c = some (lo, hi, x, c')) (hx : x.toInt < lo ∨ hi < x.toInt) (E : mz_Ex d K c' r) : mz_Ex d K c r := by
  obtain ⟨k, hk⟩ := E
  obtain ⟨pc, L, S, m⟩ := c
  unfold mz_stW at h
  split at h
  · rename_i e he
    split at h
    · rename_i dd lo1 hi1 os x1 S1 hi2 hS
      obtain ⟨hok, h⟩ := mz_cond h
      cases h
      simp only at hS he hok
      subst hS
      refine ⟨k + 1, (mz_x_next he ?_).trans hk⟩
      rw [hi2]
      have hb : (decide (x.toInt < lo) || decide (hi < x.toInt)) = true := by simpa using hx
      simp only [mz_step, hb, hok, cond_true, mz_next]
    · cases h
  · cases h
theorem mz_inH {j : Int32} {n : Nat} (h0 : ¬ j < 0) (h1 : j < Int32.ofNat n) (hn : n < 2 ^ 31) : mz_in j n = true := by
  unfold mz_in
  have h2 : ¬ n ≤ j.toNatClampNeg := by
    obtain ⟨k, hk, rfl⟩ := nI_of h0
    rw [nI_clamp hk]
    have h3 : k < n := (nI_ltI hk hn).mp h1
    omega
  simp [h0, h2]
/-- a row anew -/
noncomputable def mz_set (m : mz_M) (i : Nat) (f : Nat → Int32) : mz_M := fun a b => cond (a == i) (f b) (m a b)
/-- the memory of a new object and a new reference; the script's ints -/
noncomputable def mz_i (xs : Nat → Int32) (Ln : Nat) : mz_M := fun i k =>
  cond (i == 3000) (xs k) (cond (i == 3001) (cond (k == 0) (nI Ln) 0) (cond (i == 7 || i == 31) ([5, 10, 60, 8, 4, 1].getD k 0) (cond (i == 1 || i == 25) (cond (k == 12) 1 0) (cond (i == 53) (cond (k == 4) 1 (cond (k == 2) 2000 0)) (cond (i == 66) (cond (k == 3) 1 (cond (k == 10) 5 (cond (k == 11) 10 (cond (k == 12) 60 (cond (k == 13) 8 (cond (k == 14) 4 (cond (k == 15) 1 0))))))) 0)))))
