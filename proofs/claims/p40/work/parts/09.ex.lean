/-! runs of the machine, as a relation -/
section mzx
variable {S0 : mz_Sh} {T0 : List (List Int32)} {T : List mz_R}
theorem mz_x_next {n d pc : Nat} {K : mz_K} {L : List (Option Value)} {S : List Value} {m : mz_M} {e : mz_E} {c1 : mz_C} (he : mz_fetch K pc = some e) (hs : mz_step S0 T0 e.2.1 e.2.2.2 pc L S m = some (.inl c1)) : mz_x S0 T0 T (n + 1) d K (pc, L, S, m) = mz_x S0 T0 T n d K c1 := by
  rw [mz_x, he]
  simp only [hs]
theorem mz_x_end {n d pc : Nat} {K : mz_K} {L : List (Option Value)} {S : List Value} {m : mz_M} {e : mz_E} {r1 : Option Value} (he : mz_fetch K pc = some e) (hs : mz_step S0 T0 e.2.1 e.2.2.2 pc L S m = some (.inr (.inl r1))) : mz_x S0 T0 T (n + 1) d K (pc, L, S, m) = some (r1, m) := by
  rw [mz_x, he]
  simp only [hs]
theorem mz_x_call {n d pc : Nat} {K : mz_K} {L : List (Option Value)} {S : List Value} {m : mz_M} {e : mz_E} {a : Nat} {R : mz_R} {r1 : Option Value} {m1 : mz_M} (he : mz_fetch K pc = some e) (hs : mz_step S0 T0 e.2.1 e.2.2.2 pc L S m = some (.inr (.inr a))) (hR : T[a]? = some R) (hc : mz_cal S0 R S = true) (h1 : mz_x S0 T0 T n d R.2.2.2.2.2.2.2 (0, mz_ent (S.take R.2.2.2.2.2.2.1).reverse R.2.2.2.1, [], m) = some (r1, m1)) (hf : mz_fit R.2.2.2.2.1 r1 = true) : mz_x S0 T0 T (n + 1) (d + 1) K (pc, L, S, m) = mz_x S0 T0 T n (d + 1) K (pc + 3, L, r1.toList ++ S.drop R.2.2.2.2.2.2.1, m1) := by
  rw [mz_x, he]
  simp only [hs, hR, hc, h1, hf, cond_true]
theorem mz_x_inv {n d pc : Nat} {K : mz_K} {L : List (Option Value)} {S : List Value} {m : mz_M} {r : Option Value × mz_M} (h : mz_x S0 T0 T (n + 1) d K (pc, L, S, m) = some r) : ∃ e, mz_fetch K pc = some e ∧ ((∃ c1, mz_step S0 T0 e.2.1 e.2.2.2 pc L S m = some (.inl c1) ∧ mz_x S0 T0 T n d K c1 = some r) ∨ (mz_step S0 T0 e.2.1 e.2.2.2 pc L S m = some (.inr (.inl r.1)) ∧ r.2 = m) ∨ (∃ a R d1 r1 m1, mz_step S0 T0 e.2.1 e.2.2.2 pc L S m = some (.inr (.inr a)) ∧ T[a]? = some R ∧ d = d1 + 1 ∧ mz_cal S0 R S = true ∧ mz_x S0 T0 T n d1 R.2.2.2.2.2.2.2 (0, mz_ent (S.take R.2.2.2.2.2.2.1).reverse R.2.2.2.1, [], m) = some (r1, m1) ∧ mz_fit R.2.2.2.2.1 r1 = true ∧ mz_x S0 T0 T n d K (pc + 3, L, r1.toList ++ S.drop R.2.2.2.2.2.2.1, m1) = some r)) := by
  rw [mz_x] at h
  split at h
  · cases h
  · rename_i e he
    refine ⟨e, he, ?_⟩
    split at h
    · cases h
    · rename_i c1 hs
      exact Or.inl ⟨c1, hs, h⟩
    · rename_i r1 hs
      cases h
      exact Or.inr (Or.inl ⟨hs, rfl⟩)
    · rename_i a hs
      split at h
      · rename_i R d1 hR
        obtain ⟨hc, h2⟩ := mz_cond h
        split at h2
        · rename_i r1 m1 h1
          obtain ⟨hf, h3⟩ := mz_cond h2
          exact Or.inr (Or.inr ⟨a, R, d1, r1, m1, hs, hR, rfl, hc, h1, hf, h3⟩)
        · cases h2
      · cases h
theorem mz_x_mono : ∀ {n d : Nat} {K : mz_K} {c : mz_C} {r : Option Value × mz_M} {n' d' : Nat}, mz_x S0 T0 T n d K c = some r → n ≤ n' → d ≤ d' → mz_x S0 T0 T n' d' K c = some r := by
  intro n
  induction n with
  | zero =>
    intro d K c r n' d' h
    cases h
  | succ n ih =>
    intro d K c r n' d' h hn hd
    obtain ⟨k, rfl⟩ : ∃ k, n' = k + 1 := ⟨n' - 1, by omega⟩
    obtain ⟨pc, L, S, m⟩ := c
    obtain ⟨e, he, ⟨c1, hs, h1⟩ | ⟨hs, hm⟩ | ⟨a, R, d1, r1, m1, hs, hR, rfl, hc, h1, hf, h2⟩⟩ := mz_x_inv h
    · rw [mz_x_next he hs]
      exact ih h1 (by omega) hd
    · rw [mz_x_end he hs, ← hm]
    · obtain ⟨d2, rfl⟩ : ∃ d2, d' = d2 + 1 := ⟨d' - 1, by omega⟩
      rw [mz_x_call he hs hR hc (ih h1 (by omega) (by omega)) hf]
      exact ih h2 (by omega) hd
end mzx
noncomputable def mz_Ex (d : Nat) (K : mz_K) (c : mz_C) (r : Option Value × mz_M) : Prop := ∃ n, mz_x mz_S mz_T0 mz_T n d K c = some r
noncomputable def mz_Me (d : Nat) (R : mz_R) (as : List Value) (m : mz_M) (r : Option Value) (m' : mz_M) : Prop := mz_Ex d R.2.2.2.2.2.2.2 (0, mz_ent as R.2.2.2.1, [], m) (r, m') ∧ mz_fit R.2.2.2.2.1 r = true
theorem mz_Ex.deep {d d' : Nat} {K : mz_K} {c : mz_C} {r : Option Value × mz_M} (h : mz_Ex d K c r) (hd : d ≤ d') : mz_Ex d' K c r := by
  obtain ⟨n, h⟩ := h
  exact ⟨n, mz_x_mono h (Nat.le_refl n) hd⟩
theorem mz_Me.deep {d d' : Nat} {R : mz_R} {as : List Value} {m m' : mz_M} {r : Option Value} (h : mz_Me d R as m r m') (hd : d ≤ d') : mz_Me d' R as m r m' := ⟨h.1.deep hd, h.2⟩
/-- k steps without a call -/
noncomputable def mz_sts (K : mz_K) : Nat → mz_C → Option mz_C
  | 0, c => some c
  | k + 1, (pc, L, S, m) => match mz_fetch K pc with
    | some e => match mz_step mz_S mz_T0 e.2.1 e.2.2.2 pc L S m with
      | some (.inl c) => mz_sts K k c
      | _ => none
    | none => none
theorem mz_go {d : Nat} {K : mz_K} {r : Option Value × mz_M} : ∀ (k : Nat) {c c' : mz_C}, mz_sts K k c = some c' → mz_Ex d K c' r → mz_Ex d K c r := by
  intro k
  induction k with
  | zero =>
    intro c c' h E
    cases h
    exact E
  | succ k ih =>
    intro c c' h E
    obtain ⟨pc, L, S, m⟩ := c
    unfold mz_sts at h
    split at h
    · rename_i e he
      split at h
      · rename_i c1 hs
        obtain ⟨n, hn⟩ := ih h E
        exact ⟨n + 1, (mz_x_next he hs).trans hn⟩
      · cases h
    · cases h
/-- the end -/
noncomputable def mz_fin (K : mz_K) (c : mz_C) : Option (Option Value × mz_M) := match mz_fetch K c.1 with
  | some e => match mz_step mz_S mz_T0 e.2.1 e.2.2.2 c.1 c.2.1 c.2.2.1 c.2.2.2 with
    | some (.inr (.inl r)) => some (r, c.2.2.2)
    | _ => none
  | none => none
theorem mz_ret {d : Nat} {K : mz_K} {r : Option Value × mz_M} {c : mz_C} (h : mz_fin K c = some r) : mz_Ex d K c r := by
  obtain ⟨pc, L, S, m⟩ := c
  unfold mz_fin at h
  refine ⟨1, ?_⟩
  split at h
  · rename_i e he
    split at h
    · rename_i r1 hs
      exact (mz_x_end he hs).trans h
    · cases h
  · cases h
/-- a call: which method, with what, what is left -/
noncomputable def mz_cl (K : mz_K) (c : mz_C) : Option (mz_R × List Value × List Value) := match mz_fetch K c.1 with
  | some e => match mz_step mz_S mz_T0 e.2.1 e.2.2.2 c.1 c.2.1 c.2.2.1 c.2.2.2 with
    | some (.inr (.inr a)) => match mz_T[a]? with
      | some R => cond (mz_cal mz_S R c.2.2.1) (some (R, (c.2.2.1.take R.2.2.2.2.2.2.1).reverse, c.2.2.1.drop R.2.2.2.2.2.2.1)) none
      | none => none
    | _ => none
  | none => none
theorem mz_do {d : Nat} {K : mz_K} {r : Option Value × mz_M} {pc : Nat} {L : List (Option Value)} {S : List Value} {m : mz_M} {R : mz_R} {as rest : List Value} {r1 : Option Value} {m1 : mz_M} (h : mz_cl K (pc, L, S, m) = some (R, as, rest)) (hM : mz_Me d R as m r1 m1) (E : mz_Ex (d + 1) K (pc + 3, L, r1.toList ++ rest, m1) r) : mz_Ex (d + 1) K (pc, L, S, m) r := by
  unfold mz_cl at h
  split at h
  · rename_i e he
    split at h
    · rename_i a hs
      split at h
      · rename_i R' hR
        obtain ⟨hc, h⟩ := mz_cond h
        cases h
        obtain ⟨⟨n1, h1⟩, hf⟩ := hM
        obtain ⟨n2, h2⟩ := E
        refine ⟨max n1 n2 + 1, ?_⟩
        exact (mz_x_call he hs hR hc (mz_x_mono h1 (Nat.le_max_left n1 n2) (Nat.le_refl d)) hf).trans (mz_x_mono h2 (Nat.le_max_right n1 n2) (Nat.le_refl _))
      · cases h
    · cases h
  · cases h
theorem mz_if {d : Nat} {K : mz_K} {r : Option Value × mz_M} {c : Prop} [Decidable c] {t f : Nat} {L : List (Option Value)} {S : List Value} {m : mz_M} (ht : c → mz_Ex d K (t, L, S, m) r) (hf : ¬ c → mz_Ex d K (f, L, S, m) r) : mz_Ex d K (if c then t else f, L, S, m) r := by
  by_cases h : c
  · rw [if_pos h]; exact ht h
  · rw [if_neg h]; exact hf h
