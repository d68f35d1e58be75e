/-! magnets out of a sheet -/
noncomputable def sm_gd (k x y t : Int32) : Prop := (¬ k < 0 ∧ ¬ 6 < k) ∧ (¬ x < (-100) ∧ ¬ 100 < x) ∧ (¬ y < (-100) ∧ ¬ 100 < y) ∧ ¬ t < 0 ∧ ¬ 99 < t
noncomputable def sm_mg (num : Nat → Int32) (B z N i : Nat) : Prop := 4 * i + 3 < z ∧ N + i < 6 ∧ sm_gd (num (B + 4 * i)) (num (B + 4 * i + 1)) (num (B + 4 * i + 2)) (num (B + 4 * i + 3))
theorem sm_mg_of {num num' : Nat → Int32} {B z N i : Nat} (hB : B + 24 ≤ 96) (hz : z ≤ 24) (h : ∀ i, i < 96 → num' i = num i) : sm_mg num' B z N i ↔ sm_mg num B z N i := by
  unfold sm_mg
  constructor
  · rintro ⟨a, b, c⟩
    rw [h _ (by omega), h _ (by omega), h _ (by omega), h _ (by omega)] at c
    exact ⟨a, b, c⟩
  · rintro ⟨a, b, c⟩
    refine ⟨a, b, ?_⟩
    rw [h (B + 4 * i) (by omega), h (B + 4 * i + 1) (by omega), h (B + 4 * i + 2) (by omega), h (B + 4 * i + 3) (by omega)]
    exact c
theorem sm_mg_uniq {P : Nat → Prop} {K K' : Nat} (h1 : ∀ i, i < K → P i) (h2 : ¬ P K) (h3 : ∀ i, i < K' → P i) (h4 : ¬ P K') : K' = K := by
  rcases Nat.lt_trichotomy K K' with h | h | h
  · exact absurd (h3 K h) h2
  · exact h.symm
  · exact absurd (h1 K' h) h4
/-- what is laid on the plate -/
noncomputable def sm_ml (num : Nat → Int32) (B N K c : Nat) (f g : Nat → Int32) : Prop := ∀ i, g i = if N ≤ i ∧ i < N + K then num (B + 4 * (i - N) + c) else f i
theorem sm_ml_step {num : Nat → Int32} {B N K c : Nat} {f g : Nat → Int32} {v : Int32} (h : sm_ml num B N K c f g) (hv : v = num (B + 4 * K + c)) : sm_ml num B N (K + 1) c f (sm_upd g (N + K) v) := by
  intro i
  unfold sm_upd
  by_cases e : i = N + K
  · rw [if_pos e, if_pos (by omega), hv, show i - N = K by omega]
  · rw [if_neg e, h i]
    by_cases e2 : N ≤ i ∧ i < N + K
    · rw [if_pos e2, if_pos (by omega)]
    · rw [if_neg e2, if_neg (by omega)]
theorem sm_ml_0 {num : Nat → Int32} {B N c : Nat} {f : Nat → Int32} : sm_ml num B N 0 c f f := fun i => by rw [if_neg (by omega)]
noncomputable def sm_ms (num : Nat → Int32) (B N K : Nat) (f g : Nat → Int32) : Prop := g 0 = nI (N + K) ∧ (∀ i, i < 6 → ∀ c, c < 4 → g (30 + 4 * i + c) = if N ≤ i ∧ i < N + K then num (B + 4 * (i - N) + c) else f (30 + 4 * i + c)) ∧ ∀ i, i ≠ 0 → (i < 30 ∨ 54 ≤ i) → g i = f i
theorem sm_ms_step {num : Nat → Int32} {B N K : Nat} {f g g' : Nat → Int32} {a b c d : Int32} (hN : N + K < 6) (h : sm_ms num B N K f g) (ha : a = num (B + 4 * K)) (hb : b = num (B + 4 * K + 1)) (hc : c = num (B + 4 * K + 2)) (hd : d = num (B + 4 * K + 3)) (hg : ∀ i, g' i = if i = 0 then nI (N + K) + 1 else if i = 30 + 4 * (N + K) + 3 then d else if i = 30 + 4 * (N + K) + 2 then c else if i = 30 + 4 * (N + K) + 1 then b else if i = 30 + 4 * (N + K) + 0 then a else g i) : sm_ms num B N (K + 1) f g' := by
  obtain ⟨h1, h2, h3⟩ := h
  refine ⟨?_, fun i hi q hq => ?_, fun i h0 hi => ?_⟩
  · rw [hg, if_pos rfl]
    exact (nI_succ (N + K)).symm
  · by_cases e : i = N + K
    · rw [if_pos (show N ≤ i ∧ i < N + (K + 1) by omega), show i - N = K by omega]
      rcases (show q = 0 ∨ q = 1 ∨ q = 2 ∨ q = 3 by omega) with rfl | rfl | rfl | rfl
      · rw [hg, if_neg (by omega), if_neg (by omega), if_neg (by omega), if_neg (by omega), if_pos (by omega)]
        exact ha
      · rw [hg, if_neg (by omega), if_neg (by omega), if_neg (by omega), if_pos (by omega)]
        exact hb
      · rw [hg, if_neg (by omega), if_neg (by omega), if_pos (by omega)]
        exact hc
      · rw [hg, if_neg (by omega), if_pos (by omega)]
        exact hd
    · rw [hg, if_neg (by omega), if_neg (by omega), if_neg (by omega), if_neg (by omega), if_neg (by omega), h2 i hi q hq]
      by_cases e2 : N ≤ i ∧ i < N + K
      · rw [if_pos e2, if_pos (by omega)]
      · rw [if_neg e2, if_neg (by omega)]
  · rw [hg, if_neg h0, if_neg (by omega), if_neg (by omega), if_neg (by omega), if_neg (by omega)]
    exact h3 i h0 hi
theorem sm_ms_0 {num : Nat → Int32} {B N : Nat} {f : Nat → Int32} (h : f 0 = nI N) : sm_ms num B N 0 f f := ⟨h, fun i hi c hc => by rw [if_neg (by omega)], fun i _ _ => rfl⟩
theorem sm_gdN {k x y t : Int32} (h : sm_gd k x y t) : sm_N 6 k ∧ sm_B 100 x ∧ sm_B 100 y ∧ sm_N 99 t :=
  ⟨sm_N_of (n := 6) (by decide) h.1.1 h.1.2, sm_B_of h.2.1.1 h.2.1.2, sm_B_of h.2.2.1.1 h.2.2.1.2, sm_N_of (n := 99) (by decide) h.2.2.2.1 h.2.2.2.2⟩
theorem sm_mag1 {N K S z : Nat} (hN : N ≤ 6) (hS : S < 4) (hz : z ≤ 24) {nc nr : Nat → Int32} (hn : ∀ i, i < 96 → nr i = nc i) (hG : ∀ i, i < K → sm_mg nc (24 * S) z N i) {p k x y t a b c d s s' : Nat → Int32} (hd : sm_kB k x y t s) (hp : p 4 = nI (N + K)) (ha : sm_ml nc (24 * S) N K 0 k a) (hb : sm_ml nc (24 * S) N K 1 x b) (hc : sm_ml nc (24 * S) N K 2 y c) (hdd : sm_ml nc (24 * S) N K 3 t d) (hs : sm_ms nr (24 * S) N K s s') : sm_c1 p a b c d s' := by
  have hK : N + K ≤ 6 := by
    rcases Nat.eq_zero_or_pos K with h | h
    · omega
    · have := (hG (K - 1) (by omega)).2.1
      omega
  refine ⟨⟨N + K, hK, hp, hs.1⟩, fun i hi => ?_⟩
  have h0 := hs.2.1 i hi 0 (by decide)
  have h1 := hs.2.1 i hi 1 (by decide)
  have h2 := hs.2.1 i hi 2 (by decide)
  have h3 := hs.2.1 i hi 3 (by decide)
  rw [ha i, hb i, hc i, hdd i]
  by_cases e : N ≤ i ∧ i < N + K
  · simp only [if_pos e] at h0 h1 h2 h3 ⊢
    obtain ⟨g1, g2, g3⟩ := hG (i - N) (by omega)
    rw [hn _ (by omega)] at h0 h1 h2 h3
    exact ⟨sm_gdN g3, h0, h1, h2, h3⟩
  · simp only [if_neg e] at h0 h1 h2 h3 ⊢
    obtain ⟨q, e0, e1, e2, e3⟩ := hd i hi
    exact ⟨q, h0.trans e0, h1.trans e1, h2.trans e2, h3.trans e3⟩
set_option maxHeartbeats 4000000 in
set_option maxRecDepth 100000 in
theorem cs_addT {m : mz_M} {S k z C : Nat} (hS : S < 4) (hk6 : k ≤ 6) (hz : z ≤ 24) (hC : C ≤ 6) (h4 : m 2 4 = nI C) (e1 : m 62 S = nI z) {i : Int32} (ei : i = nI (k * 4)) (h1 : 4 * k + 3 < z) (h2 : C < 6) (hg : (sm_gd (m 63 (24 * S + 4 * k)) (m 63 (24 * S + 4 * k + 1)) (m 63 (24 * S + 4 * k + 2)) (m 63 (24 * S + 4 * k + 3)))) : mz_Me 20 mz_r112 [.ref 0, .int (nI S), .int i] m (some (.int 1)) (mz_up (mz_up (mz_up (mz_up (mz_up m 3 C (m 63 (24 * S + 4 * k))) 4 C (m 63 (24 * S + 4 * k + 1))) 5 C (m 63 (24 * S + 4 * k + 2))) 6 C (m 63 (24 * S + 4 * k + 3))) 2 4 ((nI C) + 1)) := by
  subst ei
  obtain ⟨⟨g1, g2⟩, ⟨g3, g4⟩, ⟨g5, g6⟩, g7, g8⟩ := hg
  refine ⟨?_, rfl⟩
  refine mz_go 3 (c' := (7, [some (.ref 0), some (.int (nI S)), some (.int (nI (k * 4))), none, none, none, none], [.ref 2], m)) rfl ?_
  refine mz_doQ (R := mz_r22) (as := [.ref 2]) (rest := []) (r1 := some (.int 0)) (m1 := m) mz_t22 mz_v22_2 rfl rfl rfl rfl rfl ⟨?_, rfl⟩ ?_
  · refine mz_go 2 (c' := (4, [some (.ref 2)], [.int (m 2 4)], m)) rfl ?_
    rw [h4]
    refine mz_go 2 (c' := (if (nI C) < 6 then 13 else 9, [some (.ref 2)], [], m)) rfl ?_
    refine mz_ifT (show ((nI C) < 6) from (sm_ltN rfl rfl (show C < 6 by omega) (show 6 < 2 ^ 31 by omega))) ?_
    refine mz_go 1 (c' := (14, [some (.ref 2)], [.int 0], m)) rfl ?_
    exact mz_ret rfl
  refine mz_go 6 (c' := (20, [some (.ref 0), some (.int (nI S)), some (.int (nI (k * 4))), none, none, none, none], [.int 4, .int (nI (k * 4)), .int (nI S), .ref 60], m)) rfl ?_
  refine mz_doQ (R := mz_r48) (as := [.ref 60, .int (nI S), .int (nI (k * 4)), .int 4]) (rest := []) (r1 := some (.int 1)) (m1 := m) mz_t48 mz_v48_60 rfl rfl rfl rfl rfl ⟨?_, rfl⟩ ?_
  · refine mz_go 2 (c' := (2, [some (.ref 60), some (.int (nI S)), some (.int (nI (k * 4))), some (.int 4)], [.int (nI S), .ref 60], m)) rfl ?_
    refine mz_doQ (R := mz_r45) (as := [.ref 60, .int (nI S)]) (rest := []) (r1 := some (.int 1)) (m1 := m) mz_t45 mz_v45_60 rfl rfl rfl rfl rfl ⟨?_, rfl⟩ ?_
    · refine mz_go 2 (c' := (if (nI S) < 0 then 13 else 4, [some (.ref 60), some (.int (nI S))], [], m)) rfl ?_
      refine mz_ifF (show ¬ ((nI S) < 0) from (sm_nltN rfl rfl (show 0 ≤ S by omega) (show S < 2 ^ 31 by omega))) ?_
      refine mz_go 3 (c' := (if 4 ≤ (nI S) then 13 else 9, [some (.ref 60), some (.int (nI S))], [], m)) rfl ?_
      refine mz_ifF (show ¬ (4 ≤ (nI S)) from (sm_nleN rfl rfl (show S < 4 by omega) (show 4 < 2 ^ 31 by omega))) ?_
      refine mz_go 2 (c' := (14, [some (.ref 60), some (.int (nI S))], [.int 1], m)) rfl ?_
      exact mz_ret rfl
    refine mz_go 5 (c' := (if (nI (k * 4)) < 0 then 42 else 16, [some (.ref 60), some (.int (nI S)), some (.int (nI (k * 4))), some (.int 4)], [], m)) rfl ?_
    refine mz_ifF (show ¬ ((nI (k * 4)) < 0) from (sm_nltN rfl rfl (show 0 ≤ (k * 4) by omega) (show (k * 4) < 2 ^ 31 by omega))) ?_
    refine mz_go 4 (c' := (22, [some (.ref 60), some (.int (nI S)), some (.int (nI (k * 4))), some (.int 4)], [.int (nI S), .ref 62, .int 4], m)) rfl ?_
    refine mz_arr (c' := (23, [some (.ref 60), some (.int (nI S)), some (.int (nI (k * 4))), some (.int 4)], [.int (m 62 ((nI S).toNatClampNeg)), .int 4], m)) rfl (show mz_in (nI S) 4 = true from sm_inN rfl (show S < 4 by omega) (by decide)) ?_
    rw [show (nI S : Int32).toNatClampNeg = S from sm_clN rfl (show S < 2 ^ 31 by omega)]
    rw [e1]
    refine mz_go 1 (c' := (if (nI z) < 4 then 42 else 26, [some (.ref 60), some (.int (nI S)), some (.int (nI (k * 4))), some (.int 4)], [], m)) rfl ?_
    refine mz_ifF (show ¬ ((nI z) < 4) from (sm_nltN rfl rfl (show 4 ≤ z by omega) (show z < 2 ^ 31 by omega))) ?_
    refine mz_go 4 (c' := (32, [some (.ref 60), some (.int (nI S)), some (.int (nI (k * 4))), some (.int 4)], [.int (nI S), .ref 62, .int (nI (k * 4))], m)) rfl ?_
    refine mz_arr (c' := (33, [some (.ref 60), some (.int (nI S)), some (.int (nI (k * 4))), some (.int 4)], [.int (m 62 ((nI S).toNatClampNeg)), .int (nI (k * 4))], m)) rfl (show mz_in (nI S) 4 = true from sm_inN rfl (show S < 4 by omega) (by decide)) ?_
    rw [show (nI S : Int32).toNatClampNeg = S from sm_clN rfl (show S < 2 ^ 31 by omega)]
    rw [e1]
    refine mz_go 3 (c' := (if ((nI z) - 4) < (nI (k * 4)) then 42 else 38, [some (.ref 60), some (.int (nI S)), some (.int (nI (k * 4))), some (.int 4)], [], m)) rfl ?_
    refine mz_ifF (show ¬ (((nI z) - 4) < (nI (k * 4))) from (sm_nltN (sm_subN (a := z) (b := 4) rfl rfl (by omega)) rfl (show (k * 4) ≤ (z - 4) by omega) (show (z - 4) < 2 ^ 31 by omega))) ?_
    refine mz_go 2 (c' := (43, [some (.ref 60), some (.int (nI S)), some (.int (nI (k * 4))), some (.int 4)], [.int 1], m)) rfl ?_
    exact mz_ret rfl
  refine mz_go 5 (c' := (34, [some (.ref 0), some (.int (nI S)), some (.int (nI (k * 4))), none, none, none, none], [.int (nI (k * 4)), .int (nI S), .ref 60], m)) rfl ?_
  refine mz_doQ (R := mz_r49) (as := [.ref 60, .int (nI S), .int (nI (k * 4))]) (rest := []) (r1 := some (.int (m 63 (24 * S + 4 * k)))) (m1 := m) mz_t49 mz_v49_60 rfl rfl rfl rfl rfl ⟨?_, rfl⟩ ?_
  · refine mz_go 4 (c' := (4, [some (.ref 60), some (.int (nI S)), some (.int (nI (k * 4)))], [.int 1, .int (nI (k * 4)), .int (nI S), .ref 60], m)) rfl ?_
    refine mz_doQ (R := mz_r48) (as := [.ref 60, .int (nI S), .int (nI (k * 4)), .int 1]) (rest := []) (r1 := some (.int 1)) (m1 := m) mz_t48 mz_v48_60 rfl rfl rfl rfl rfl ⟨?_, rfl⟩ ?_
    · refine mz_go 2 (c' := (2, [some (.ref 60), some (.int (nI S)), some (.int (nI (k * 4))), some (.int 1)], [.int (nI S), .ref 60], m)) rfl ?_
      refine mz_doQ (R := mz_r45) (as := [.ref 60, .int (nI S)]) (rest := []) (r1 := some (.int 1)) (m1 := m) mz_t45 mz_v45_60 rfl rfl rfl rfl rfl ⟨?_, rfl⟩ ?_
      · refine mz_go 2 (c' := (if (nI S) < 0 then 13 else 4, [some (.ref 60), some (.int (nI S))], [], m)) rfl ?_
        refine mz_ifF (show ¬ ((nI S) < 0) from (sm_nltN rfl rfl (show 0 ≤ S by omega) (show S < 2 ^ 31 by omega))) ?_
        refine mz_go 3 (c' := (if 4 ≤ (nI S) then 13 else 9, [some (.ref 60), some (.int (nI S))], [], m)) rfl ?_
        refine mz_ifF (show ¬ (4 ≤ (nI S)) from (sm_nleN rfl rfl (show S < 4 by omega) (show 4 < 2 ^ 31 by omega))) ?_
        refine mz_go 2 (c' := (14, [some (.ref 60), some (.int (nI S))], [.int 1], m)) rfl ?_
        exact mz_ret rfl
      refine mz_go 5 (c' := (if (nI (k * 4)) < 0 then 42 else 16, [some (.ref 60), some (.int (nI S)), some (.int (nI (k * 4))), some (.int 1)], [], m)) rfl ?_
      refine mz_ifF (show ¬ ((nI (k * 4)) < 0) from (sm_nltN rfl rfl (show 0 ≤ (k * 4) by omega) (show (k * 4) < 2 ^ 31 by omega))) ?_
      refine mz_go 4 (c' := (22, [some (.ref 60), some (.int (nI S)), some (.int (nI (k * 4))), some (.int 1)], [.int (nI S), .ref 62, .int 1], m)) rfl ?_
      refine mz_arr (c' := (23, [some (.ref 60), some (.int (nI S)), some (.int (nI (k * 4))), some (.int 1)], [.int (m 62 ((nI S).toNatClampNeg)), .int 1], m)) rfl (show mz_in (nI S) 4 = true from sm_inN rfl (show S < 4 by omega) (by decide)) ?_
      rw [show (nI S : Int32).toNatClampNeg = S from sm_clN rfl (show S < 2 ^ 31 by omega)]
      rw [e1]
      refine mz_go 1 (c' := (if (nI z) < 1 then 42 else 26, [some (.ref 60), some (.int (nI S)), some (.int (nI (k * 4))), some (.int 1)], [], m)) rfl ?_
      refine mz_ifF (show ¬ ((nI z) < 1) from (sm_nltN rfl rfl (show 1 ≤ z by omega) (show z < 2 ^ 31 by omega))) ?_
      refine mz_go 4 (c' := (32, [some (.ref 60), some (.int (nI S)), some (.int (nI (k * 4))), some (.int 1)], [.int (nI S), .ref 62, .int (nI (k * 4))], m)) rfl ?_
      refine mz_arr (c' := (33, [some (.ref 60), some (.int (nI S)), some (.int (nI (k * 4))), some (.int 1)], [.int (m 62 ((nI S).toNatClampNeg)), .int (nI (k * 4))], m)) rfl (show mz_in (nI S) 4 = true from sm_inN rfl (show S < 4 by omega) (by decide)) ?_
      rw [show (nI S : Int32).toNatClampNeg = S from sm_clN rfl (show S < 2 ^ 31 by omega)]
      rw [e1]
      refine mz_go 3 (c' := (if ((nI z) - 1) < (nI (k * 4)) then 42 else 38, [some (.ref 60), some (.int (nI S)), some (.int (nI (k * 4))), some (.int 1)], [], m)) rfl ?_
      refine mz_ifF (show ¬ (((nI z) - 1) < (nI (k * 4))) from (sm_nltN (sm_subN (a := z) (b := 1) rfl rfl (by omega)) rfl (show (k * 4) ≤ (z - 1) by omega) (show (z - 1) < 2 ^ 31 by omega))) ?_
      refine mz_go 2 (c' := (43, [some (.ref 60), some (.int (nI S)), some (.int (nI (k * 4))), some (.int 1)], [.int 1], m)) rfl ?_
      exact mz_ret rfl
    refine mz_go 8 (c' := (20, [some (.ref 60), some (.int (nI S)), some (.int (nI (k * 4)))], [.int (((nI S) * 24) + (nI (k * 4))), .ref 63], m)) rfl ?_
    refine mz_arr (c' := (21, [some (.ref 60), some (.int (nI S)), some (.int (nI (k * 4)))], [.int (m 63 ((((nI S) * 24) + (nI (k * 4))).toNatClampNeg))], m)) rfl (show mz_in (((nI S) * 24) + (nI (k * 4))) 96 = true from sm_inN (sm_addN (sm_mulN rfl rfl) rfl) (show ((S * 24) + (k * 4)) < 96 by omega) (by decide)) ?_
    rw [show (((nI S) * 24) + (nI (k * 4)) : Int32).toNatClampNeg = ((S * 24) + (k * 4)) from sm_clN (sm_addN (sm_mulN rfl rfl) rfl) (show ((S * 24) + (k * 4)) < 2 ^ 31 by omega)]
    rw [show m 63 ((S * 24) + (k * 4)) = m 63 (24 * S + 4 * k) from by rw [show ((S * 24) + (k * 4)) = 24 * S + 4 * k by omega]]
    refine mz_go 1 (c' := (25, [some (.ref 60), some (.int (nI S)), some (.int (nI (k * 4)))], [.int (m 63 (24 * S + 4 * k))], m)) rfl ?_
    exact mz_ret rfl
  refine mz_go 7 (c' := (46, [some (.ref 0), some (.int (nI S)), some (.int (nI (k * 4))), some (.int (m 63 (24 * S + 4 * k))), none, none, none], [.int ((nI (k * 4)) + 1), .int (nI S), .ref 60], m)) rfl ?_
  refine mz_doQ (R := mz_r49) (as := [.ref 60, .int (nI S), .int ((nI (k * 4)) + 1)]) (rest := []) (r1 := some (.int (m 63 (24 * S + 4 * k + 1)))) (m1 := m) mz_t49 mz_v49_60 rfl rfl rfl rfl rfl ⟨?_, rfl⟩ ?_
  · refine mz_go 4 (c' := (4, [some (.ref 60), some (.int (nI S)), some (.int ((nI (k * 4)) + 1))], [.int 1, .int ((nI (k * 4)) + 1), .int (nI S), .ref 60], m)) rfl ?_
    refine mz_doQ (R := mz_r48) (as := [.ref 60, .int (nI S), .int ((nI (k * 4)) + 1), .int 1]) (rest := []) (r1 := some (.int 1)) (m1 := m) mz_t48 mz_v48_60 rfl rfl rfl rfl rfl ⟨?_, rfl⟩ ?_
    · refine mz_go 2 (c' := (2, [some (.ref 60), some (.int (nI S)), some (.int ((nI (k * 4)) + 1)), some (.int 1)], [.int (nI S), .ref 60], m)) rfl ?_
      refine mz_doQ (R := mz_r45) (as := [.ref 60, .int (nI S)]) (rest := []) (r1 := some (.int 1)) (m1 := m) mz_t45 mz_v45_60 rfl rfl rfl rfl rfl ⟨?_, rfl⟩ ?_
      · refine mz_go 2 (c' := (if (nI S) < 0 then 13 else 4, [some (.ref 60), some (.int (nI S))], [], m)) rfl ?_
        refine mz_ifF (show ¬ ((nI S) < 0) from (sm_nltN rfl rfl (show 0 ≤ S by omega) (show S < 2 ^ 31 by omega))) ?_
        refine mz_go 3 (c' := (if 4 ≤ (nI S) then 13 else 9, [some (.ref 60), some (.int (nI S))], [], m)) rfl ?_
        refine mz_ifF (show ¬ (4 ≤ (nI S)) from (sm_nleN rfl rfl (show S < 4 by omega) (show 4 < 2 ^ 31 by omega))) ?_
        refine mz_go 2 (c' := (14, [some (.ref 60), some (.int (nI S))], [.int 1], m)) rfl ?_
        exact mz_ret rfl
      refine mz_go 5 (c' := (if ((nI (k * 4)) + 1) < 0 then 42 else 16, [some (.ref 60), some (.int (nI S)), some (.int ((nI (k * 4)) + 1)), some (.int 1)], [], m)) rfl ?_
      refine mz_ifF (show ¬ (((nI (k * 4)) + 1) < 0) from (sm_nltN (sm_addN rfl rfl) rfl (show 0 ≤ ((k * 4) + 1) by omega) (show ((k * 4) + 1) < 2 ^ 31 by omega))) ?_
      refine mz_go 4 (c' := (22, [some (.ref 60), some (.int (nI S)), some (.int ((nI (k * 4)) + 1)), some (.int 1)], [.int (nI S), .ref 62, .int 1], m)) rfl ?_
      refine mz_arr (c' := (23, [some (.ref 60), some (.int (nI S)), some (.int ((nI (k * 4)) + 1)), some (.int 1)], [.int (m 62 ((nI S).toNatClampNeg)), .int 1], m)) rfl (show mz_in (nI S) 4 = true from sm_inN rfl (show S < 4 by omega) (by decide)) ?_
      rw [show (nI S : Int32).toNatClampNeg = S from sm_clN rfl (show S < 2 ^ 31 by omega)]
      rw [e1]
      refine mz_go 1 (c' := (if (nI z) < 1 then 42 else 26, [some (.ref 60), some (.int (nI S)), some (.int ((nI (k * 4)) + 1)), some (.int 1)], [], m)) rfl ?_
      refine mz_ifF (show ¬ ((nI z) < 1) from (sm_nltN rfl rfl (show 1 ≤ z by omega) (show z < 2 ^ 31 by omega))) ?_
      refine mz_go 4 (c' := (32, [some (.ref 60), some (.int (nI S)), some (.int ((nI (k * 4)) + 1)), some (.int 1)], [.int (nI S), .ref 62, .int ((nI (k * 4)) + 1)], m)) rfl ?_
      refine mz_arr (c' := (33, [some (.ref 60), some (.int (nI S)), some (.int ((nI (k * 4)) + 1)), some (.int 1)], [.int (m 62 ((nI S).toNatClampNeg)), .int ((nI (k * 4)) + 1)], m)) rfl (show mz_in (nI S) 4 = true from sm_inN rfl (show S < 4 by omega) (by decide)) ?_
      rw [show (nI S : Int32).toNatClampNeg = S from sm_clN rfl (show S < 2 ^ 31 by omega)]
      rw [e1]
      refine mz_go 3 (c' := (if ((nI z) - 1) < ((nI (k * 4)) + 1) then 42 else 38, [some (.ref 60), some (.int (nI S)), some (.int ((nI (k * 4)) + 1)), some (.int 1)], [], m)) rfl ?_
      refine mz_ifF (show ¬ (((nI z) - 1) < ((nI (k * 4)) + 1)) from (sm_nltN (sm_subN (a := z) (b := 1) rfl rfl (by omega)) (sm_addN rfl rfl) (show ((k * 4) + 1) ≤ (z - 1) by omega) (show (z - 1) < 2 ^ 31 by omega))) ?_
      refine mz_go 2 (c' := (43, [some (.ref 60), some (.int (nI S)), some (.int ((nI (k * 4)) + 1)), some (.int 1)], [.int 1], m)) rfl ?_
      exact mz_ret rfl
    refine mz_go 8 (c' := (20, [some (.ref 60), some (.int (nI S)), some (.int ((nI (k * 4)) + 1))], [.int (((nI S) * 24) + ((nI (k * 4)) + 1)), .ref 63], m)) rfl ?_
    refine mz_arr (c' := (21, [some (.ref 60), some (.int (nI S)), some (.int ((nI (k * 4)) + 1))], [.int (m 63 ((((nI S) * 24) + ((nI (k * 4)) + 1)).toNatClampNeg))], m)) rfl (show mz_in (((nI S) * 24) + ((nI (k * 4)) + 1)) 96 = true from sm_inN (sm_addN (sm_mulN rfl rfl) (sm_addN rfl rfl)) (show ((S * 24) + ((k * 4) + 1)) < 96 by omega) (by decide)) ?_
    rw [show (((nI S) * 24) + ((nI (k * 4)) + 1) : Int32).toNatClampNeg = ((S * 24) + ((k * 4) + 1)) from sm_clN (sm_addN (sm_mulN rfl rfl) (sm_addN rfl rfl)) (show ((S * 24) + ((k * 4) + 1)) < 2 ^ 31 by omega)]
    rw [show m 63 ((S * 24) + ((k * 4) + 1)) = m 63 (24 * S + 4 * k + 1) from by rw [show ((S * 24) + ((k * 4) + 1)) = 24 * S + 4 * k + 1 by omega]]
    refine mz_go 1 (c' := (25, [some (.ref 60), some (.int (nI S)), some (.int ((nI (k * 4)) + 1))], [.int (m 63 (24 * S + 4 * k + 1))], m)) rfl ?_
    exact mz_ret rfl
  refine mz_go 7 (c' := (59, [some (.ref 0), some (.int (nI S)), some (.int (nI (k * 4))), some (.int (m 63 (24 * S + 4 * k))), some (.int (m 63 (24 * S + 4 * k + 1))), none, none], [.int ((nI (k * 4)) + 2), .int (nI S), .ref 60], m)) rfl ?_
  refine mz_doQ (R := mz_r49) (as := [.ref 60, .int (nI S), .int ((nI (k * 4)) + 2)]) (rest := []) (r1 := some (.int (m 63 (24 * S + 4 * k + 2)))) (m1 := m) mz_t49 mz_v49_60 rfl rfl rfl rfl rfl ⟨?_, rfl⟩ ?_
  · refine mz_go 4 (c' := (4, [some (.ref 60), some (.int (nI S)), some (.int ((nI (k * 4)) + 2))], [.int 1, .int ((nI (k * 4)) + 2), .int (nI S), .ref 60], m)) rfl ?_
    refine mz_doQ (R := mz_r48) (as := [.ref 60, .int (nI S), .int ((nI (k * 4)) + 2), .int 1]) (rest := []) (r1 := some (.int 1)) (m1 := m) mz_t48 mz_v48_60 rfl rfl rfl rfl rfl ⟨?_, rfl⟩ ?_
    · refine mz_go 2 (c' := (2, [some (.ref 60), some (.int (nI S)), some (.int ((nI (k * 4)) + 2)), some (.int 1)], [.int (nI S), .ref 60], m)) rfl ?_
      refine mz_doQ (R := mz_r45) (as := [.ref 60, .int (nI S)]) (rest := []) (r1 := some (.int 1)) (m1 := m) mz_t45 mz_v45_60 rfl rfl rfl rfl rfl ⟨?_, rfl⟩ ?_
      · refine mz_go 2 (c' := (if (nI S) < 0 then 13 else 4, [some (.ref 60), some (.int (nI S))], [], m)) rfl ?_
        refine mz_ifF (show ¬ ((nI S) < 0) from (sm_nltN rfl rfl (show 0 ≤ S by omega) (show S < 2 ^ 31 by omega))) ?_
        refine mz_go 3 (c' := (if 4 ≤ (nI S) then 13 else 9, [some (.ref 60), some (.int (nI S))], [], m)) rfl ?_
        refine mz_ifF (show ¬ (4 ≤ (nI S)) from (sm_nleN rfl rfl (show S < 4 by omega) (show 4 < 2 ^ 31 by omega))) ?_
        refine mz_go 2 (c' := (14, [some (.ref 60), some (.int (nI S))], [.int 1], m)) rfl ?_
        exact mz_ret rfl
      refine mz_go 5 (c' := (if ((nI (k * 4)) + 2) < 0 then 42 else 16, [some (.ref 60), some (.int (nI S)), some (.int ((nI (k * 4)) + 2)), some (.int 1)], [], m)) rfl ?_
      refine mz_ifF (show ¬ (((nI (k * 4)) + 2) < 0) from (sm_nltN (sm_addN rfl rfl) rfl (show 0 ≤ ((k * 4) + 2) by omega) (show ((k * 4) + 2) < 2 ^ 31 by omega))) ?_
      refine mz_go 4 (c' := (22, [some (.ref 60), some (.int (nI S)), some (.int ((nI (k * 4)) + 2)), some (.int 1)], [.int (nI S), .ref 62, .int 1], m)) rfl ?_
      refine mz_arr (c' := (23, [some (.ref 60), some (.int (nI S)), some (.int ((nI (k * 4)) + 2)), some (.int 1)], [.int (m 62 ((nI S).toNatClampNeg)), .int 1], m)) rfl (show mz_in (nI S) 4 = true from sm_inN rfl (show S < 4 by omega) (by decide)) ?_
      rw [show (nI S : Int32).toNatClampNeg = S from sm_clN rfl (show S < 2 ^ 31 by omega)]
      rw [e1]
      refine mz_go 1 (c' := (if (nI z) < 1 then 42 else 26, [some (.ref 60), some (.int (nI S)), some (.int ((nI (k * 4)) + 2)), some (.int 1)], [], m)) rfl ?_
      refine mz_ifF (show ¬ ((nI z) < 1) from (sm_nltN rfl rfl (show 1 ≤ z by omega) (show z < 2 ^ 31 by omega))) ?_
      refine mz_go 4 (c' := (32, [some (.ref 60), some (.int (nI S)), some (.int ((nI (k * 4)) + 2)), some (.int 1)], [.int (nI S), .ref 62, .int ((nI (k * 4)) + 2)], m)) rfl ?_
      refine mz_arr (c' := (33, [some (.ref 60), some (.int (nI S)), some (.int ((nI (k * 4)) + 2)), some (.int 1)], [.int (m 62 ((nI S).toNatClampNeg)), .int ((nI (k * 4)) + 2)], m)) rfl (show mz_in (nI S) 4 = true from sm_inN rfl (show S < 4 by omega) (by decide)) ?_
      rw [show (nI S : Int32).toNatClampNeg = S from sm_clN rfl (show S < 2 ^ 31 by omega)]
      rw [e1]
      refine mz_go 3 (c' := (if ((nI z) - 1) < ((nI (k * 4)) + 2) then 42 else 38, [some (.ref 60), some (.int (nI S)), some (.int ((nI (k * 4)) + 2)), some (.int 1)], [], m)) rfl ?_
      refine mz_ifF (show ¬ (((nI z) - 1) < ((nI (k * 4)) + 2)) from (sm_nltN (sm_subN (a := z) (b := 1) rfl rfl (by omega)) (sm_addN rfl rfl) (show ((k * 4) + 2) ≤ (z - 1) by omega) (show (z - 1) < 2 ^ 31 by omega))) ?_
      refine mz_go 2 (c' := (43, [some (.ref 60), some (.int (nI S)), some (.int ((nI (k * 4)) + 2)), some (.int 1)], [.int 1], m)) rfl ?_
      exact mz_ret rfl
    refine mz_go 8 (c' := (20, [some (.ref 60), some (.int (nI S)), some (.int ((nI (k * 4)) + 2))], [.int (((nI S) * 24) + ((nI (k * 4)) + 2)), .ref 63], m)) rfl ?_
    refine mz_arr (c' := (21, [some (.ref 60), some (.int (nI S)), some (.int ((nI (k * 4)) + 2))], [.int (m 63 ((((nI S) * 24) + ((nI (k * 4)) + 2)).toNatClampNeg))], m)) rfl (show mz_in (((nI S) * 24) + ((nI (k * 4)) + 2)) 96 = true from sm_inN (sm_addN (sm_mulN rfl rfl) (sm_addN rfl rfl)) (show ((S * 24) + ((k * 4) + 2)) < 96 by omega) (by decide)) ?_
    rw [show (((nI S) * 24) + ((nI (k * 4)) + 2) : Int32).toNatClampNeg = ((S * 24) + ((k * 4) + 2)) from sm_clN (sm_addN (sm_mulN rfl rfl) (sm_addN rfl rfl)) (show ((S * 24) + ((k * 4) + 2)) < 2 ^ 31 by omega)]
    rw [show m 63 ((S * 24) + ((k * 4) + 2)) = m 63 (24 * S + 4 * k + 2) from by rw [show ((S * 24) + ((k * 4) + 2)) = 24 * S + 4 * k + 2 by omega]]
    refine mz_go 1 (c' := (25, [some (.ref 60), some (.int (nI S)), some (.int ((nI (k * 4)) + 2))], [.int (m 63 (24 * S + 4 * k + 2))], m)) rfl ?_
    exact mz_ret rfl
  refine mz_go 7 (c' := (72, [some (.ref 0), some (.int (nI S)), some (.int (nI (k * 4))), some (.int (m 63 (24 * S + 4 * k))), some (.int (m 63 (24 * S + 4 * k + 1))), some (.int (m 63 (24 * S + 4 * k + 2))), none], [.int ((nI (k * 4)) + 3), .int (nI S), .ref 60], m)) rfl ?_
  refine mz_doQ (R := mz_r49) (as := [.ref 60, .int (nI S), .int ((nI (k * 4)) + 3)]) (rest := []) (r1 := some (.int (m 63 (24 * S + 4 * k + 3)))) (m1 := m) mz_t49 mz_v49_60 rfl rfl rfl rfl rfl ⟨?_, rfl⟩ ?_
  · refine mz_go 4 (c' := (4, [some (.ref 60), some (.int (nI S)), some (.int ((nI (k * 4)) + 3))], [.int 1, .int ((nI (k * 4)) + 3), .int (nI S), .ref 60], m)) rfl ?_
    refine mz_doQ (R := mz_r48) (as := [.ref 60, .int (nI S), .int ((nI (k * 4)) + 3), .int 1]) (rest := []) (r1 := some (.int 1)) (m1 := m) mz_t48 mz_v48_60 rfl rfl rfl rfl rfl ⟨?_, rfl⟩ ?_
    · refine mz_go 2 (c' := (2, [some (.ref 60), some (.int (nI S)), some (.int ((nI (k * 4)) + 3)), some (.int 1)], [.int (nI S), .ref 60], m)) rfl ?_
      refine mz_doQ (R := mz_r45) (as := [.ref 60, .int (nI S)]) (rest := []) (r1 := some (.int 1)) (m1 := m) mz_t45 mz_v45_60 rfl rfl rfl rfl rfl ⟨?_, rfl⟩ ?_
      · refine mz_go 2 (c' := (if (nI S) < 0 then 13 else 4, [some (.ref 60), some (.int (nI S))], [], m)) rfl ?_
        refine mz_ifF (show ¬ ((nI S) < 0) from (sm_nltN rfl rfl (show 0 ≤ S by omega) (show S < 2 ^ 31 by omega))) ?_
        refine mz_go 3 (c' := (if 4 ≤ (nI S) then 13 else 9, [some (.ref 60), some (.int (nI S))], [], m)) rfl ?_
        refine mz_ifF (show ¬ (4 ≤ (nI S)) from (sm_nleN rfl rfl (show S < 4 by omega) (show 4 < 2 ^ 31 by omega))) ?_
        refine mz_go 2 (c' := (14, [some (.ref 60), some (.int (nI S))], [.int 1], m)) rfl ?_
        exact mz_ret rfl
      refine mz_go 5 (c' := (if ((nI (k * 4)) + 3) < 0 then 42 else 16, [some (.ref 60), some (.int (nI S)), some (.int ((nI (k * 4)) + 3)), some (.int 1)], [], m)) rfl ?_
      refine mz_ifF (show ¬ (((nI (k * 4)) + 3) < 0) from (sm_nltN (sm_addN rfl rfl) rfl (show 0 ≤ ((k * 4) + 3) by omega) (show ((k * 4) + 3) < 2 ^ 31 by omega))) ?_
      refine mz_go 4 (c' := (22, [some (.ref 60), some (.int (nI S)), some (.int ((nI (k * 4)) + 3)), some (.int 1)], [.int (nI S), .ref 62, .int 1], m)) rfl ?_
      refine mz_arr (c' := (23, [some (.ref 60), some (.int (nI S)), some (.int ((nI (k * 4)) + 3)), some (.int 1)], [.int (m 62 ((nI S).toNatClampNeg)), .int 1], m)) rfl (show mz_in (nI S) 4 = true from sm_inN rfl (show S < 4 by omega) (by decide)) ?_
      rw [show (nI S : Int32).toNatClampNeg = S from sm_clN rfl (show S < 2 ^ 31 by omega)]
      rw [e1]
      refine mz_go 1 (c' := (if (nI z) < 1 then 42 else 26, [some (.ref 60), some (.int (nI S)), some (.int ((nI (k * 4)) + 3)), some (.int 1)], [], m)) rfl ?_
      refine mz_ifF (show ¬ ((nI z) < 1) from (sm_nltN rfl rfl (show 1 ≤ z by omega) (show z < 2 ^ 31 by omega))) ?_
      refine mz_go 4 (c' := (32, [some (.ref 60), some (.int (nI S)), some (.int ((nI (k * 4)) + 3)), some (.int 1)], [.int (nI S), .ref 62, .int ((nI (k * 4)) + 3)], m)) rfl ?_
      refine mz_arr (c' := (33, [some (.ref 60), some (.int (nI S)), some (.int ((nI (k * 4)) + 3)), some (.int 1)], [.int (m 62 ((nI S).toNatClampNeg)), .int ((nI (k * 4)) + 3)], m)) rfl (show mz_in (nI S) 4 = true from sm_inN rfl (show S < 4 by omega) (by decide)) ?_
      rw [show (nI S : Int32).toNatClampNeg = S from sm_clN rfl (show S < 2 ^ 31 by omega)]
      rw [e1]
      refine mz_go 3 (c' := (if ((nI z) - 1) < ((nI (k * 4)) + 3) then 42 else 38, [some (.ref 60), some (.int (nI S)), some (.int ((nI (k * 4)) + 3)), some (.int 1)], [], m)) rfl ?_
      refine mz_ifF (show ¬ (((nI z) - 1) < ((nI (k * 4)) + 3)) from (sm_nltN (sm_subN (a := z) (b := 1) rfl rfl (by omega)) (sm_addN rfl rfl) (show ((k * 4) + 3) ≤ (z - 1) by omega) (show (z - 1) < 2 ^ 31 by omega))) ?_
      refine mz_go 2 (c' := (43, [some (.ref 60), some (.int (nI S)), some (.int ((nI (k * 4)) + 3)), some (.int 1)], [.int 1], m)) rfl ?_
      exact mz_ret rfl
    refine mz_go 8 (c' := (20, [some (.ref 60), some (.int (nI S)), some (.int ((nI (k * 4)) + 3))], [.int (((nI S) * 24) + ((nI (k * 4)) + 3)), .ref 63], m)) rfl ?_
    refine mz_arr (c' := (21, [some (.ref 60), some (.int (nI S)), some (.int ((nI (k * 4)) + 3))], [.int (m 63 ((((nI S) * 24) + ((nI (k * 4)) + 3)).toNatClampNeg))], m)) rfl (show mz_in (((nI S) * 24) + ((nI (k * 4)) + 3)) 96 = true from sm_inN (sm_addN (sm_mulN rfl rfl) (sm_addN rfl rfl)) (show ((S * 24) + ((k * 4) + 3)) < 96 by omega) (by decide)) ?_
    rw [show (((nI S) * 24) + ((nI (k * 4)) + 3) : Int32).toNatClampNeg = ((S * 24) + ((k * 4) + 3)) from sm_clN (sm_addN (sm_mulN rfl rfl) (sm_addN rfl rfl)) (show ((S * 24) + ((k * 4) + 3)) < 2 ^ 31 by omega)]
    rw [show m 63 ((S * 24) + ((k * 4) + 3)) = m 63 (24 * S + 4 * k + 3) from by rw [show ((S * 24) + ((k * 4) + 3)) = 24 * S + 4 * k + 3 by omega]]
    refine mz_go 1 (c' := (25, [some (.ref 60), some (.int (nI S)), some (.int ((nI (k * 4)) + 3))], [.int (m 63 (24 * S + 4 * k + 3))], m)) rfl ?_
    exact mz_ret rfl
  refine mz_go 5 (c' := (84, [some (.ref 0), some (.int (nI S)), some (.int (nI (k * 4))), some (.int (m 63 (24 * S + 4 * k))), some (.int (m 63 (24 * S + 4 * k + 1))), some (.int (m 63 (24 * S + 4 * k + 2))), some (.int (m 63 (24 * S + 4 * k + 3)))], [.int (m 63 (24 * S + 4 * k + 3)), .int (m 63 (24 * S + 4 * k + 2)), .int (m 63 (24 * S + 4 * k + 1)), .int (m 63 (24 * S + 4 * k))], m)) rfl ?_
  refine mz_doQ (R := mz_r113) (as := [.int (m 63 (24 * S + 4 * k)), .int (m 63 (24 * S + 4 * k + 1)), .int (m 63 (24 * S + 4 * k + 2)), .int (m 63 (24 * S + 4 * k + 3))]) (rest := []) (r1 := some (.int 1)) (m1 := m) mz_t113 mz_v113 rfl rfl rfl rfl rfl ⟨?_, rfl⟩ ?_
  · refine mz_go 1 (c' := (1, [some (.int (m 63 (24 * S + 4 * k))), some (.int (m 63 (24 * S + 4 * k + 1))), some (.int (m 63 (24 * S + 4 * k + 2))), some (.int (m 63 (24 * S + 4 * k + 3)))], [.int (m 63 (24 * S + 4 * k))], m)) rfl ?_
    refine mz_doQ (R := mz_r114) (as := [.int (m 63 (24 * S + 4 * k))]) (rest := []) (r1 := some (.int 1)) (m1 := m) mz_t114 mz_v114 rfl rfl rfl rfl rfl ⟨?_, rfl⟩ ?_
    · refine mz_go 3 (c' := (4, [some (.int (m 63 (24 * S + 4 * k)))], [.int 6, .int 0, .int (m 63 (24 * S + 4 * k))], m)) rfl ?_
      refine mz_doQ (R := mz_r121) (as := [.int (m 63 (24 * S + 4 * k)), .int 0, .int 6]) (rest := []) (r1 := some (.int 1)) (m1 := m) mz_t121 mz_v121 rfl rfl rfl rfl rfl ((cs_in1 (m := m) (v := m 63 (24 * S + 4 * k)) (a := 0) (b := 6) g1 g2).deep (by decide)) ?_
      exact mz_ret rfl
    refine mz_go 3 (c' := (9, [some (.int (m 63 (24 * S + 4 * k))), some (.int (m 63 (24 * S + 4 * k + 1))), some (.int (m 63 (24 * S + 4 * k + 2))), some (.int (m 63 (24 * S + 4 * k + 3)))], [.int (m 63 (24 * S + 4 * k + 2)), .int (m 63 (24 * S + 4 * k + 1))], m)) rfl ?_
    refine mz_doQ (R := mz_r116) (as := [.int (m 63 (24 * S + 4 * k + 1)), .int (m 63 (24 * S + 4 * k + 2))]) (rest := []) (r1 := some (.int 1)) (m1 := m) mz_t116 mz_v116 rfl rfl rfl rfl rfl ⟨?_, rfl⟩ ?_
    · refine mz_go 3 (c' := (5, [some (.int (m 63 (24 * S + 4 * k + 1))), some (.int (m 63 (24 * S + 4 * k + 2)))], [.int 100, .int (-100), .int (m 63 (24 * S + 4 * k + 1))], m)) rfl ?_
      refine mz_doQ (R := mz_r121) (as := [.int (m 63 (24 * S + 4 * k + 1)), .int (-100), .int 100]) (rest := []) (r1 := some (.int 1)) (m1 := m) mz_t121 mz_v121 rfl rfl rfl rfl rfl ((cs_in1 (m := m) (v := m 63 (24 * S + 4 * k + 1)) (a := (-100)) (b := 100) g3 g4).deep (by decide)) ?_
      refine mz_go 4 (c' := (16, [some (.int (m 63 (24 * S + 4 * k + 1))), some (.int (m 63 (24 * S + 4 * k + 2)))], [.int 100, .int (-100), .int (m 63 (24 * S + 4 * k + 2))], m)) rfl ?_
      refine mz_doQ (R := mz_r121) (as := [.int (m 63 (24 * S + 4 * k + 2)), .int (-100), .int 100]) (rest := []) (r1 := some (.int 1)) (m1 := m) mz_t121 mz_v121 rfl rfl rfl rfl rfl ((cs_in1 (m := m) (v := m 63 (24 * S + 4 * k + 2)) (a := (-100)) (b := 100) g5 g6).deep (by decide)) ?_
      refine mz_go 3 (c' := (27, [some (.int (m 63 (24 * S + 4 * k + 1))), some (.int (m 63 (24 * S + 4 * k + 2)))], [.int 1], m)) rfl ?_
      exact mz_ret rfl
    refine mz_go 4 (c' := (19, [some (.int (m 63 (24 * S + 4 * k))), some (.int (m 63 (24 * S + 4 * k + 1))), some (.int (m 63 (24 * S + 4 * k + 2))), some (.int (m 63 (24 * S + 4 * k + 3)))], [.int 99, .int 0, .int (m 63 (24 * S + 4 * k + 3))], m)) rfl ?_
    refine mz_doQ (R := mz_r121) (as := [.int (m 63 (24 * S + 4 * k + 3)), .int 0, .int 99]) (rest := []) (r1 := some (.int 1)) (m1 := m) mz_t121 mz_v121 rfl rfl rfl rfl rfl ((cs_in1 (m := m) (v := m 63 (24 * S + 4 * k + 3)) (a := 0) (b := 99) g7 g8).deep (by decide)) ?_
    refine mz_go 3 (c' := (30, [some (.int (m 63 (24 * S + 4 * k))), some (.int (m 63 (24 * S + 4 * k + 1))), some (.int (m 63 (24 * S + 4 * k + 2))), some (.int (m 63 (24 * S + 4 * k + 3)))], [.int 1], m)) rfl ?_
    exact mz_ret rfl
  refine mz_go 8 (c' := (106, [some (.ref 0), some (.int (nI S)), some (.int (nI (k * 4))), some (.int (m 63 (24 * S + 4 * k))), some (.int (m 63 (24 * S + 4 * k + 1))), some (.int (m 63 (24 * S + 4 * k + 2))), some (.int (m 63 (24 * S + 4 * k + 3)))], [.int (m 63 (24 * S + 4 * k + 3)), .int (m 63 (24 * S + 4 * k + 2)), .int (m 63 (24 * S + 4 * k + 1)), .int (m 63 (24 * S + 4 * k)), .ref 2], m)) rfl ?_
  refine mz_doQ (R := mz_r23) (as := [.ref 2, .int (m 63 (24 * S + 4 * k)), .int (m 63 (24 * S + 4 * k + 1)), .int (m 63 (24 * S + 4 * k + 2)), .int (m 63 (24 * S + 4 * k + 3))]) (rest := []) (r1 := some (.int (nI C))) (m1 := mz_up (mz_up (mz_up (mz_up (mz_up m 3 C (m 63 (24 * S + 4 * k))) 4 C (m 63 (24 * S + 4 * k + 1))) 5 C (m 63 (24 * S + 4 * k + 2))) 6 C (m 63 (24 * S + 4 * k + 3))) 2 4 ((nI C) + 1)) mz_t23 mz_v23_2 rfl rfl rfl rfl rfl ⟨?_, rfl⟩ ?_
  · refine mz_go 2 (c' := (4, [some (.ref 2), some (.int (m 63 (24 * S + 4 * k))), some (.int (m 63 (24 * S + 4 * k + 1))), some (.int (m 63 (24 * S + 4 * k + 2))), some (.int (m 63 (24 * S + 4 * k + 3))), none], [.int (m 2 4)], m)) rfl ?_
    rw [h4]
    refine mz_go 1 (c' := (if (nI C) < 0 then 14 else 7, [some (.ref 2), some (.int (m 63 (24 * S + 4 * k))), some (.int (m 63 (24 * S + 4 * k + 1))), some (.int (m 63 (24 * S + 4 * k + 2))), some (.int (m 63 (24 * S + 4 * k + 3))), none], [], m)) rfl ?_
    refine mz_ifF (show ¬ ((nI C) < 0) from (sm_nltN rfl rfl (show 0 ≤ C by omega) (show C < 2 ^ 31 by omega))) ?_
    refine mz_go 1 (c' := (8, [some (.ref 2), some (.int (m 63 (24 * S + 4 * k))), some (.int (m 63 (24 * S + 4 * k + 1))), some (.int (m 63 (24 * S + 4 * k + 2))), some (.int (m 63 (24 * S + 4 * k + 3))), none], [.ref 2], m)) rfl ?_
    refine mz_doQ (R := mz_r22) (as := [.ref 2]) (rest := []) (r1 := some (.int 0)) (m1 := m) mz_t22 mz_v22_2 rfl rfl rfl rfl rfl ⟨?_, rfl⟩ ?_
    · refine mz_go 2 (c' := (4, [some (.ref 2)], [.int (m 2 4)], m)) rfl ?_
      rw [h4]
      refine mz_go 2 (c' := (if (nI C) < 6 then 13 else 9, [some (.ref 2)], [], m)) rfl ?_
      refine mz_ifT (show ((nI C) < 6) from (sm_ltN rfl rfl (show C < 6 by omega) (show 6 < 2 ^ 31 by omega))) ?_
      refine mz_go 1 (c' := (14, [some (.ref 2)], [.int 0], m)) rfl ?_
      exact mz_ret rfl
    refine mz_go 3 (c' := (20, [some (.ref 2), some (.int (m 63 (24 * S + 4 * k))), some (.int (m 63 (24 * S + 4 * k + 1))), some (.int (m 63 (24 * S + 4 * k + 2))), some (.int (m 63 (24 * S + 4 * k + 3))), none], [.int (m 2 4)], m)) rfl ?_
    rw [h4]
    refine mz_go 5 (c' := (29, [some (.ref 2), some (.int (m 63 (24 * S + 4 * k))), some (.int (m 63 (24 * S + 4 * k + 1))), some (.int (m 63 (24 * S + 4 * k + 2))), some (.int (m 63 (24 * S + 4 * k + 3))), some (.int (nI C))], [.int (m 63 (24 * S + 4 * k)), .int (nI C), .ref 3], m)) rfl ?_
    refine mz_arr (c' := (30, [some (.ref 2), some (.int (m 63 (24 * S + 4 * k))), some (.int (m 63 (24 * S + 4 * k + 1))), some (.int (m 63 (24 * S + 4 * k + 2))), some (.int (m 63 (24 * S + 4 * k + 3))), some (.int (nI C))], [], mz_up m 3 ((nI C).toNatClampNeg) (m 63 (24 * S + 4 * k)))) rfl (show mz_in (nI C) 6 = true from sm_inN rfl (show C < 6 by omega) (by decide)) ?_
    rw [show (nI C : Int32).toNatClampNeg = C from sm_clN rfl (show C < 2 ^ 31 by omega)]
    refine mz_go 4 (c' := (37, [some (.ref 2), some (.int (m 63 (24 * S + 4 * k))), some (.int (m 63 (24 * S + 4 * k + 1))), some (.int (m 63 (24 * S + 4 * k + 2))), some (.int (m 63 (24 * S + 4 * k + 3))), some (.int (nI C))], [.int (m 63 (24 * S + 4 * k + 1)), .int (nI C), .ref 4], mz_up m 3 C (m 63 (24 * S + 4 * k)))) rfl ?_
    refine mz_arr (c' := (38, [some (.ref 2), some (.int (m 63 (24 * S + 4 * k))), some (.int (m 63 (24 * S + 4 * k + 1))), some (.int (m 63 (24 * S + 4 * k + 2))), some (.int (m 63 (24 * S + 4 * k + 3))), some (.int (nI C))], [], mz_up (mz_up m 3 C (m 63 (24 * S + 4 * k))) 4 ((nI C).toNatClampNeg) (m 63 (24 * S + 4 * k + 1)))) rfl (show mz_in (nI C) 6 = true from sm_inN rfl (show C < 6 by omega) (by decide)) ?_
    rw [show (nI C : Int32).toNatClampNeg = C from sm_clN rfl (show C < 2 ^ 31 by omega)]
    refine mz_go 4 (c' := (45, [some (.ref 2), some (.int (m 63 (24 * S + 4 * k))), some (.int (m 63 (24 * S + 4 * k + 1))), some (.int (m 63 (24 * S + 4 * k + 2))), some (.int (m 63 (24 * S + 4 * k + 3))), some (.int (nI C))], [.int (m 63 (24 * S + 4 * k + 2)), .int (nI C), .ref 5], mz_up (mz_up m 3 C (m 63 (24 * S + 4 * k))) 4 C (m 63 (24 * S + 4 * k + 1)))) rfl ?_
    refine mz_arr (c' := (46, [some (.ref 2), some (.int (m 63 (24 * S + 4 * k))), some (.int (m 63 (24 * S + 4 * k + 1))), some (.int (m 63 (24 * S + 4 * k + 2))), some (.int (m 63 (24 * S + 4 * k + 3))), some (.int (nI C))], [], mz_up (mz_up (mz_up m 3 C (m 63 (24 * S + 4 * k))) 4 C (m 63 (24 * S + 4 * k + 1))) 5 ((nI C).toNatClampNeg) (m 63 (24 * S + 4 * k + 2)))) rfl (show mz_in (nI C) 6 = true from sm_inN rfl (show C < 6 by omega) (by decide)) ?_
    rw [show (nI C : Int32).toNatClampNeg = C from sm_clN rfl (show C < 2 ^ 31 by omega)]
    refine mz_go 4 (c' := (54, [some (.ref 2), some (.int (m 63 (24 * S + 4 * k))), some (.int (m 63 (24 * S + 4 * k + 1))), some (.int (m 63 (24 * S + 4 * k + 2))), some (.int (m 63 (24 * S + 4 * k + 3))), some (.int (nI C))], [.int (m 63 (24 * S + 4 * k + 3)), .int (nI C), .ref 6], mz_up (mz_up (mz_up m 3 C (m 63 (24 * S + 4 * k))) 4 C (m 63 (24 * S + 4 * k + 1))) 5 C (m 63 (24 * S + 4 * k + 2)))) rfl ?_
    refine mz_arr (c' := (55, [some (.ref 2), some (.int (m 63 (24 * S + 4 * k))), some (.int (m 63 (24 * S + 4 * k + 1))), some (.int (m 63 (24 * S + 4 * k + 2))), some (.int (m 63 (24 * S + 4 * k + 3))), some (.int (nI C))], [], mz_up (mz_up (mz_up (mz_up m 3 C (m 63 (24 * S + 4 * k))) 4 C (m 63 (24 * S + 4 * k + 1))) 5 C (m 63 (24 * S + 4 * k + 2))) 6 ((nI C).toNatClampNeg) (m 63 (24 * S + 4 * k + 3)))) rfl (show mz_in (nI C) 6 = true from sm_inN rfl (show C < 6 by omega) (by decide)) ?_
    rw [show (nI C : Int32).toNatClampNeg = C from sm_clN rfl (show C < 2 ^ 31 by omega)]
    refine mz_go 3 (c' := (60, [some (.ref 2), some (.int (m 63 (24 * S + 4 * k))), some (.int (m 63 (24 * S + 4 * k + 1))), some (.int (m 63 (24 * S + 4 * k + 2))), some (.int (m 63 (24 * S + 4 * k + 3))), some (.int (nI C))], [.int (m 2 4), .ref 2], mz_up (mz_up (mz_up (mz_up m 3 C (m 63 (24 * S + 4 * k))) 4 C (m 63 (24 * S + 4 * k + 1))) 5 C (m 63 (24 * S + 4 * k + 2))) 6 C (m 63 (24 * S + 4 * k + 3)))) rfl ?_
    rw [h4]
    refine mz_go 4 (c' := (67, [some (.ref 2), some (.int (m 63 (24 * S + 4 * k))), some (.int (m 63 (24 * S + 4 * k + 1))), some (.int (m 63 (24 * S + 4 * k + 2))), some (.int (m 63 (24 * S + 4 * k + 3))), some (.int (nI C))], [.int (nI C)], mz_up (mz_up (mz_up (mz_up (mz_up m 3 C (m 63 (24 * S + 4 * k))) 4 C (m 63 (24 * S + 4 * k + 1))) 5 C (m 63 (24 * S + 4 * k + 2))) 6 C (m 63 (24 * S + 4 * k + 3))) 2 4 ((nI C) + 1))) rfl ?_
    exact mz_ret rfl
  refine mz_go 2 (c' := (111, [some (.ref 0), some (.int (nI S)), some (.int (nI (k * 4))), some (.int (m 63 (24 * S + 4 * k))), some (.int (m 63 (24 * S + 4 * k + 1))), some (.int (m 63 (24 * S + 4 * k + 2))), some (.int (m 63 (24 * S + 4 * k + 3)))], [.int 1], mz_up (mz_up (mz_up (mz_up (mz_up m 3 C (m 63 (24 * S + 4 * k))) 4 C (m 63 (24 * S + 4 * k + 1))) 5 C (m 63 (24 * S + 4 * k + 2))) 6 C (m 63 (24 * S + 4 * k + 3))) 2 4 ((nI C) + 1))) rfl ?_
  exact mz_ret rfl
set_option maxHeartbeats 4000000 in
set_option maxRecDepth 100000 in
theorem cs_addF {m : mz_M} {S k z C : Nat} (hS : S < 4) (hk6 : k ≤ 6) (hz : z ≤ 24) (hC : C ≤ 6) (h4 : m 2 4 = nI C) (e1 : m 62 S = nI z) {i : Int32} (ei : i = nI (k * 4)) (hg : ¬ (4 * k + 3 < z ∧ C < 6 ∧ (sm_gd (m 63 (24 * S + 4 * k)) (m 63 (24 * S + 4 * k + 1)) (m 63 (24 * S + 4 * k + 2)) (m 63 (24 * S + 4 * k + 3))))) : mz_Me 20 mz_r112 [.ref 0, .int (nI S), .int i] m (some (.int 0)) m := by
  subst ei
  by_cases q1 : C < 6
  · by_cases q2 : z < 4
    · refine ⟨?_, rfl⟩
      refine mz_go 3 (c' := (7, [some (.ref 0), some (.int (nI S)), some (.int (nI (k * 4))), none, none, none, none], [.ref 2], m)) rfl ?_
      refine mz_doQ (R := mz_r22) (as := [.ref 2]) (rest := []) (r1 := some (.int 0)) (m1 := m) mz_t22 mz_v22_2 rfl rfl rfl rfl rfl ⟨?_, rfl⟩ ?_
      · refine mz_go 2 (c' := (4, [some (.ref 2)], [.int (m 2 4)], m)) rfl ?_
        rw [h4]
        refine mz_go 2 (c' := (if (nI C) < 6 then 13 else 9, [some (.ref 2)], [], m)) rfl ?_
        refine mz_ifT (show ((nI C) < 6) from (sm_ltN rfl rfl (show C < 6 by omega) (show 6 < 2 ^ 31 by omega))) ?_
        refine mz_go 1 (c' := (14, [some (.ref 2)], [.int 0], m)) rfl ?_
        exact mz_ret rfl
      refine mz_go 6 (c' := (20, [some (.ref 0), some (.int (nI S)), some (.int (nI (k * 4))), none, none, none, none], [.int 4, .int (nI (k * 4)), .int (nI S), .ref 60], m)) rfl ?_
      refine mz_doQ (R := mz_r48) (as := [.ref 60, .int (nI S), .int (nI (k * 4)), .int 4]) (rest := []) (r1 := some (.int 0)) (m1 := m) mz_t48 mz_v48_60 rfl rfl rfl rfl rfl ⟨?_, rfl⟩ ?_
      · refine mz_go 2 (c' := (2, [some (.ref 60), some (.int (nI S)), some (.int (nI (k * 4))), some (.int 4)], [.int (nI S), .ref 60], m)) rfl ?_
        refine mz_doQ (R := mz_r45) (as := [.ref 60, .int (nI S)]) (rest := []) (r1 := some (.int 1)) (m1 := m) mz_t45 mz_v45_60 rfl rfl rfl rfl rfl ⟨?_, rfl⟩ ?_
        · refine mz_go 2 (c' := (if (nI S) < 0 then 13 else 4, [some (.ref 60), some (.int (nI S))], [], m)) rfl ?_
          refine mz_ifF (show ¬ ((nI S) < 0) from (sm_nltN rfl rfl (show 0 ≤ S by omega) (show S < 2 ^ 31 by omega))) ?_
          refine mz_go 3 (c' := (if 4 ≤ (nI S) then 13 else 9, [some (.ref 60), some (.int (nI S))], [], m)) rfl ?_
          refine mz_ifF (show ¬ (4 ≤ (nI S)) from (sm_nleN rfl rfl (show S < 4 by omega) (show 4 < 2 ^ 31 by omega))) ?_
          refine mz_go 2 (c' := (14, [some (.ref 60), some (.int (nI S))], [.int 1], m)) rfl ?_
          exact mz_ret rfl
        refine mz_go 5 (c' := (if (nI (k * 4)) < 0 then 42 else 16, [some (.ref 60), some (.int (nI S)), some (.int (nI (k * 4))), some (.int 4)], [], m)) rfl ?_
        refine mz_ifF (show ¬ ((nI (k * 4)) < 0) from (sm_nltN rfl rfl (show 0 ≤ (k * 4) by omega) (show (k * 4) < 2 ^ 31 by omega))) ?_
        refine mz_go 4 (c' := (22, [some (.ref 60), some (.int (nI S)), some (.int (nI (k * 4))), some (.int 4)], [.int (nI S), .ref 62, .int 4], m)) rfl ?_
        refine mz_arr (c' := (23, [some (.ref 60), some (.int (nI S)), some (.int (nI (k * 4))), some (.int 4)], [.int (m 62 ((nI S).toNatClampNeg)), .int 4], m)) rfl (show mz_in (nI S) 4 = true from sm_inN rfl (show S < 4 by omega) (by decide)) ?_
        rw [show (nI S : Int32).toNatClampNeg = S from sm_clN rfl (show S < 2 ^ 31 by omega)]
        rw [e1]
        refine mz_go 1 (c' := (if (nI z) < 4 then 42 else 26, [some (.ref 60), some (.int (nI S)), some (.int (nI (k * 4))), some (.int 4)], [], m)) rfl ?_
        refine mz_ifT (show ((nI z) < 4) from (sm_ltN rfl rfl (show z < 4 by omega) (show 4 < 2 ^ 31 by omega))) ?_
        refine mz_go 1 (c' := (43, [some (.ref 60), some (.int (nI S)), some (.int (nI (k * 4))), some (.int 4)], [.int 0], m)) rfl ?_
        exact mz_ret rfl
      refine mz_go 2 (c' := (27, [some (.ref 0), some (.int (nI S)), some (.int (nI (k * 4))), none, none, none, none], [.int 0], m)) rfl ?_
      exact mz_ret rfl
    · by_cases q3 : (z - 4) < (k * 4)
      · refine ⟨?_, rfl⟩
        refine mz_go 3 (c' := (7, [some (.ref 0), some (.int (nI S)), some (.int (nI (k * 4))), none, none, none, none], [.ref 2], m)) rfl ?_
        refine mz_doQ (R := mz_r22) (as := [.ref 2]) (rest := []) (r1 := some (.int 0)) (m1 := m) mz_t22 mz_v22_2 rfl rfl rfl rfl rfl ⟨?_, rfl⟩ ?_
        · refine mz_go 2 (c' := (4, [some (.ref 2)], [.int (m 2 4)], m)) rfl ?_
          rw [h4]
          refine mz_go 2 (c' := (if (nI C) < 6 then 13 else 9, [some (.ref 2)], [], m)) rfl ?_
          refine mz_ifT (show ((nI C) < 6) from (sm_ltN rfl rfl (show C < 6 by omega) (show 6 < 2 ^ 31 by omega))) ?_
          refine mz_go 1 (c' := (14, [some (.ref 2)], [.int 0], m)) rfl ?_
          exact mz_ret rfl
        refine mz_go 6 (c' := (20, [some (.ref 0), some (.int (nI S)), some (.int (nI (k * 4))), none, none, none, none], [.int 4, .int (nI (k * 4)), .int (nI S), .ref 60], m)) rfl ?_
        refine mz_doQ (R := mz_r48) (as := [.ref 60, .int (nI S), .int (nI (k * 4)), .int 4]) (rest := []) (r1 := some (.int 0)) (m1 := m) mz_t48 mz_v48_60 rfl rfl rfl rfl rfl ⟨?_, rfl⟩ ?_
        · refine mz_go 2 (c' := (2, [some (.ref 60), some (.int (nI S)), some (.int (nI (k * 4))), some (.int 4)], [.int (nI S), .ref 60], m)) rfl ?_
          refine mz_doQ (R := mz_r45) (as := [.ref 60, .int (nI S)]) (rest := []) (r1 := some (.int 1)) (m1 := m) mz_t45 mz_v45_60 rfl rfl rfl rfl rfl ⟨?_, rfl⟩ ?_
          · refine mz_go 2 (c' := (if (nI S) < 0 then 13 else 4, [some (.ref 60), some (.int (nI S))], [], m)) rfl ?_
            refine mz_ifF (show ¬ ((nI S) < 0) from (sm_nltN rfl rfl (show 0 ≤ S by omega) (show S < 2 ^ 31 by omega))) ?_
            refine mz_go 3 (c' := (if 4 ≤ (nI S) then 13 else 9, [some (.ref 60), some (.int (nI S))], [], m)) rfl ?_
            refine mz_ifF (show ¬ (4 ≤ (nI S)) from (sm_nleN rfl rfl (show S < 4 by omega) (show 4 < 2 ^ 31 by omega))) ?_
            refine mz_go 2 (c' := (14, [some (.ref 60), some (.int (nI S))], [.int 1], m)) rfl ?_
            exact mz_ret rfl
          refine mz_go 5 (c' := (if (nI (k * 4)) < 0 then 42 else 16, [some (.ref 60), some (.int (nI S)), some (.int (nI (k * 4))), some (.int 4)], [], m)) rfl ?_
          refine mz_ifF (show ¬ ((nI (k * 4)) < 0) from (sm_nltN rfl rfl (show 0 ≤ (k * 4) by omega) (show (k * 4) < 2 ^ 31 by omega))) ?_
          refine mz_go 4 (c' := (22, [some (.ref 60), some (.int (nI S)), some (.int (nI (k * 4))), some (.int 4)], [.int (nI S), .ref 62, .int 4], m)) rfl ?_
          refine mz_arr (c' := (23, [some (.ref 60), some (.int (nI S)), some (.int (nI (k * 4))), some (.int 4)], [.int (m 62 ((nI S).toNatClampNeg)), .int 4], m)) rfl (show mz_in (nI S) 4 = true from sm_inN rfl (show S < 4 by omega) (by decide)) ?_
          rw [show (nI S : Int32).toNatClampNeg = S from sm_clN rfl (show S < 2 ^ 31 by omega)]
          rw [e1]
          refine mz_go 1 (c' := (if (nI z) < 4 then 42 else 26, [some (.ref 60), some (.int (nI S)), some (.int (nI (k * 4))), some (.int 4)], [], m)) rfl ?_
          refine mz_ifF (show ¬ ((nI z) < 4) from (sm_nltN rfl rfl (show 4 ≤ z by omega) (show z < 2 ^ 31 by omega))) ?_
          refine mz_go 4 (c' := (32, [some (.ref 60), some (.int (nI S)), some (.int (nI (k * 4))), some (.int 4)], [.int (nI S), .ref 62, .int (nI (k * 4))], m)) rfl ?_
          refine mz_arr (c' := (33, [some (.ref 60), some (.int (nI S)), some (.int (nI (k * 4))), some (.int 4)], [.int (m 62 ((nI S).toNatClampNeg)), .int (nI (k * 4))], m)) rfl (show mz_in (nI S) 4 = true from sm_inN rfl (show S < 4 by omega) (by decide)) ?_
          rw [show (nI S : Int32).toNatClampNeg = S from sm_clN rfl (show S < 2 ^ 31 by omega)]
          rw [e1]
          refine mz_go 3 (c' := (if ((nI z) - 4) < (nI (k * 4)) then 42 else 38, [some (.ref 60), some (.int (nI S)), some (.int (nI (k * 4))), some (.int 4)], [], m)) rfl ?_
          refine mz_ifT (show (((nI z) - 4) < (nI (k * 4))) from (sm_ltN (sm_subN (a := z) (b := 4) rfl rfl (by omega)) rfl (show (z - 4) < (k * 4) by omega) (show (k * 4) < 2 ^ 31 by omega))) ?_
          refine mz_go 1 (c' := (43, [some (.ref 60), some (.int (nI S)), some (.int (nI (k * 4))), some (.int 4)], [.int 0], m)) rfl ?_
          exact mz_ret rfl
        refine mz_go 2 (c' := (27, [some (.ref 0), some (.int (nI S)), some (.int (nI (k * 4))), none, none, none, none], [.int 0], m)) rfl ?_
        exact mz_ret rfl
      · by_cases q4 : (sm_bI (sm_in (m 63 (24 * S + 4 * k)) 0 6)) = 0
        · refine ⟨?_, rfl⟩
          refine mz_go 3 (c' := (7, [some (.ref 0), some (.int (nI S)), some (.int (nI (k * 4))), none, none, none, none], [.ref 2], m)) rfl ?_
          refine mz_doQ (R := mz_r22) (as := [.ref 2]) (rest := []) (r1 := some (.int 0)) (m1 := m) mz_t22 mz_v22_2 rfl rfl rfl rfl rfl ⟨?_, rfl⟩ ?_
          · refine mz_go 2 (c' := (4, [some (.ref 2)], [.int (m 2 4)], m)) rfl ?_
            rw [h4]
            refine mz_go 2 (c' := (if (nI C) < 6 then 13 else 9, [some (.ref 2)], [], m)) rfl ?_
            refine mz_ifT (show ((nI C) < 6) from (sm_ltN rfl rfl (show C < 6 by omega) (show 6 < 2 ^ 31 by omega))) ?_
            refine mz_go 1 (c' := (14, [some (.ref 2)], [.int 0], m)) rfl ?_
            exact mz_ret rfl
          refine mz_go 6 (c' := (20, [some (.ref 0), some (.int (nI S)), some (.int (nI (k * 4))), none, none, none, none], [.int 4, .int (nI (k * 4)), .int (nI S), .ref 60], m)) rfl ?_
          refine mz_doQ (R := mz_r48) (as := [.ref 60, .int (nI S), .int (nI (k * 4)), .int 4]) (rest := []) (r1 := some (.int 1)) (m1 := m) mz_t48 mz_v48_60 rfl rfl rfl rfl rfl ⟨?_, rfl⟩ ?_
          · refine mz_go 2 (c' := (2, [some (.ref 60), some (.int (nI S)), some (.int (nI (k * 4))), some (.int 4)], [.int (nI S), .ref 60], m)) rfl ?_
            refine mz_doQ (R := mz_r45) (as := [.ref 60, .int (nI S)]) (rest := []) (r1 := some (.int 1)) (m1 := m) mz_t45 mz_v45_60 rfl rfl rfl rfl rfl ⟨?_, rfl⟩ ?_
            · refine mz_go 2 (c' := (if (nI S) < 0 then 13 else 4, [some (.ref 60), some (.int (nI S))], [], m)) rfl ?_
              refine mz_ifF (show ¬ ((nI S) < 0) from (sm_nltN rfl rfl (show 0 ≤ S by omega) (show S < 2 ^ 31 by omega))) ?_
              refine mz_go 3 (c' := (if 4 ≤ (nI S) then 13 else 9, [some (.ref 60), some (.int (nI S))], [], m)) rfl ?_
              refine mz_ifF (show ¬ (4 ≤ (nI S)) from (sm_nleN rfl rfl (show S < 4 by omega) (show 4 < 2 ^ 31 by omega))) ?_
              refine mz_go 2 (c' := (14, [some (.ref 60), some (.int (nI S))], [.int 1], m)) rfl ?_
              exact mz_ret rfl
            refine mz_go 5 (c' := (if (nI (k * 4)) < 0 then 42 else 16, [some (.ref 60), some (.int (nI S)), some (.int (nI (k * 4))), some (.int 4)], [], m)) rfl ?_
            refine mz_ifF (show ¬ ((nI (k * 4)) < 0) from (sm_nltN rfl rfl (show 0 ≤ (k * 4) by omega) (show (k * 4) < 2 ^ 31 by omega))) ?_
            refine mz_go 4 (c' := (22, [some (.ref 60), some (.int (nI S)), some (.int (nI (k * 4))), some (.int 4)], [.int (nI S), .ref 62, .int 4], m)) rfl ?_
            refine mz_arr (c' := (23, [some (.ref 60), some (.int (nI S)), some (.int (nI (k * 4))), some (.int 4)], [.int (m 62 ((nI S).toNatClampNeg)), .int 4], m)) rfl (show mz_in (nI S) 4 = true from sm_inN rfl (show S < 4 by omega) (by decide)) ?_
            rw [show (nI S : Int32).toNatClampNeg = S from sm_clN rfl (show S < 2 ^ 31 by omega)]
            rw [e1]
            refine mz_go 1 (c' := (if (nI z) < 4 then 42 else 26, [some (.ref 60), some (.int (nI S)), some (.int (nI (k * 4))), some (.int 4)], [], m)) rfl ?_
            refine mz_ifF (show ¬ ((nI z) < 4) from (sm_nltN rfl rfl (show 4 ≤ z by omega) (show z < 2 ^ 31 by omega))) ?_
            refine mz_go 4 (c' := (32, [some (.ref 60), some (.int (nI S)), some (.int (nI (k * 4))), some (.int 4)], [.int (nI S), .ref 62, .int (nI (k * 4))], m)) rfl ?_
            refine mz_arr (c' := (33, [some (.ref 60), some (.int (nI S)), some (.int (nI (k * 4))), some (.int 4)], [.int (m 62 ((nI S).toNatClampNeg)), .int (nI (k * 4))], m)) rfl (show mz_in (nI S) 4 = true from sm_inN rfl (show S < 4 by omega) (by decide)) ?_
            rw [show (nI S : Int32).toNatClampNeg = S from sm_clN rfl (show S < 2 ^ 31 by omega)]
            rw [e1]
            refine mz_go 3 (c' := (if ((nI z) - 4) < (nI (k * 4)) then 42 else 38, [some (.ref 60), some (.int (nI S)), some (.int (nI (k * 4))), some (.int 4)], [], m)) rfl ?_
            refine mz_ifF (show ¬ (((nI z) - 4) < (nI (k * 4))) from (sm_nltN (sm_subN (a := z) (b := 4) rfl rfl (by omega)) rfl (show (k * 4) ≤ (z - 4) by omega) (show (z - 4) < 2 ^ 31 by omega))) ?_
            refine mz_go 2 (c' := (43, [some (.ref 60), some (.int (nI S)), some (.int (nI (k * 4))), some (.int 4)], [.int 1], m)) rfl ?_
            exact mz_ret rfl
          refine mz_go 5 (c' := (34, [some (.ref 0), some (.int (nI S)), some (.int (nI (k * 4))), none, none, none, none], [.int (nI (k * 4)), .int (nI S), .ref 60], m)) rfl ?_
          refine mz_doQ (R := mz_r49) (as := [.ref 60, .int (nI S), .int (nI (k * 4))]) (rest := []) (r1 := some (.int (m 63 (24 * S + 4 * k)))) (m1 := m) mz_t49 mz_v49_60 rfl rfl rfl rfl rfl ⟨?_, rfl⟩ ?_
          · refine mz_go 4 (c' := (4, [some (.ref 60), some (.int (nI S)), some (.int (nI (k * 4)))], [.int 1, .int (nI (k * 4)), .int (nI S), .ref 60], m)) rfl ?_
            refine mz_doQ (R := mz_r48) (as := [.ref 60, .int (nI S), .int (nI (k * 4)), .int 1]) (rest := []) (r1 := some (.int 1)) (m1 := m) mz_t48 mz_v48_60 rfl rfl rfl rfl rfl ⟨?_, rfl⟩ ?_
            · refine mz_go 2 (c' := (2, [some (.ref 60), some (.int (nI S)), some (.int (nI (k * 4))), some (.int 1)], [.int (nI S), .ref 60], m)) rfl ?_
              refine mz_doQ (R := mz_r45) (as := [.ref 60, .int (nI S)]) (rest := []) (r1 := some (.int 1)) (m1 := m) mz_t45 mz_v45_60 rfl rfl rfl rfl rfl ⟨?_, rfl⟩ ?_
              · refine mz_go 2 (c' := (if (nI S) < 0 then 13 else 4, [some (.ref 60), some (.int (nI S))], [], m)) rfl ?_
                refine mz_ifF (show ¬ ((nI S) < 0) from (sm_nltN rfl rfl (show 0 ≤ S by omega) (show S < 2 ^ 31 by omega))) ?_
                refine mz_go 3 (c' := (if 4 ≤ (nI S) then 13 else 9, [some (.ref 60), some (.int (nI S))], [], m)) rfl ?_
                refine mz_ifF (show ¬ (4 ≤ (nI S)) from (sm_nleN rfl rfl (show S < 4 by omega) (show 4 < 2 ^ 31 by omega))) ?_
                refine mz_go 2 (c' := (14, [some (.ref 60), some (.int (nI S))], [.int 1], m)) rfl ?_
                exact mz_ret rfl
              refine mz_go 5 (c' := (if (nI (k * 4)) < 0 then 42 else 16, [some (.ref 60), some (.int (nI S)), some (.int (nI (k * 4))), some (.int 1)], [], m)) rfl ?_
              refine mz_ifF (show ¬ ((nI (k * 4)) < 0) from (sm_nltN rfl rfl (show 0 ≤ (k * 4) by omega) (show (k * 4) < 2 ^ 31 by omega))) ?_
              refine mz_go 4 (c' := (22, [some (.ref 60), some (.int (nI S)), some (.int (nI (k * 4))), some (.int 1)], [.int (nI S), .ref 62, .int 1], m)) rfl ?_
              refine mz_arr (c' := (23, [some (.ref 60), some (.int (nI S)), some (.int (nI (k * 4))), some (.int 1)], [.int (m 62 ((nI S).toNatClampNeg)), .int 1], m)) rfl (show mz_in (nI S) 4 = true from sm_inN rfl (show S < 4 by omega) (by decide)) ?_
              rw [show (nI S : Int32).toNatClampNeg = S from sm_clN rfl (show S < 2 ^ 31 by omega)]
              rw [e1]
              refine mz_go 1 (c' := (if (nI z) < 1 then 42 else 26, [some (.ref 60), some (.int (nI S)), some (.int (nI (k * 4))), some (.int 1)], [], m)) rfl ?_
              refine mz_ifF (show ¬ ((nI z) < 1) from (sm_nltN rfl rfl (show 1 ≤ z by omega) (show z < 2 ^ 31 by omega))) ?_
              refine mz_go 4 (c' := (32, [some (.ref 60), some (.int (nI S)), some (.int (nI (k * 4))), some (.int 1)], [.int (nI S), .ref 62, .int (nI (k * 4))], m)) rfl ?_
              refine mz_arr (c' := (33, [some (.ref 60), some (.int (nI S)), some (.int (nI (k * 4))), some (.int 1)], [.int (m 62 ((nI S).toNatClampNeg)), .int (nI (k * 4))], m)) rfl (show mz_in (nI S) 4 = true from sm_inN rfl (show S < 4 by omega) (by decide)) ?_
              rw [show (nI S : Int32).toNatClampNeg = S from sm_clN rfl (show S < 2 ^ 31 by omega)]
              rw [e1]
              refine mz_go 3 (c' := (if ((nI z) - 1) < (nI (k * 4)) then 42 else 38, [some (.ref 60), some (.int (nI S)), some (.int (nI (k * 4))), some (.int 1)], [], m)) rfl ?_
              refine mz_ifF (show ¬ (((nI z) - 1) < (nI (k * 4))) from (sm_nltN (sm_subN (a := z) (b := 1) rfl rfl (by omega)) rfl (show (k * 4) ≤ (z - 1) by omega) (show (z - 1) < 2 ^ 31 by omega))) ?_
              refine mz_go 2 (c' := (43, [some (.ref 60), some (.int (nI S)), some (.int (nI (k * 4))), some (.int 1)], [.int 1], m)) rfl ?_
              exact mz_ret rfl
            refine mz_go 8 (c' := (20, [some (.ref 60), some (.int (nI S)), some (.int (nI (k * 4)))], [.int (((nI S) * 24) + (nI (k * 4))), .ref 63], m)) rfl ?_
            refine mz_arr (c' := (21, [some (.ref 60), some (.int (nI S)), some (.int (nI (k * 4)))], [.int (m 63 ((((nI S) * 24) + (nI (k * 4))).toNatClampNeg))], m)) rfl (show mz_in (((nI S) * 24) + (nI (k * 4))) 96 = true from sm_inN (sm_addN (sm_mulN rfl rfl) rfl) (show ((S * 24) + (k * 4)) < 96 by omega) (by decide)) ?_
            rw [show (((nI S) * 24) + (nI (k * 4)) : Int32).toNatClampNeg = ((S * 24) + (k * 4)) from sm_clN (sm_addN (sm_mulN rfl rfl) rfl) (show ((S * 24) + (k * 4)) < 2 ^ 31 by omega)]
            rw [show m 63 ((S * 24) + (k * 4)) = m 63 (24 * S + 4 * k) from by rw [show ((S * 24) + (k * 4)) = 24 * S + 4 * k by omega]]
            refine mz_go 1 (c' := (25, [some (.ref 60), some (.int (nI S)), some (.int (nI (k * 4)))], [.int (m 63 (24 * S + 4 * k))], m)) rfl ?_
            exact mz_ret rfl
          refine mz_go 7 (c' := (46, [some (.ref 0), some (.int (nI S)), some (.int (nI (k * 4))), some (.int (m 63 (24 * S + 4 * k))), none, none, none], [.int ((nI (k * 4)) + 1), .int (nI S), .ref 60], m)) rfl ?_
          refine mz_doQ (R := mz_r49) (as := [.ref 60, .int (nI S), .int ((nI (k * 4)) + 1)]) (rest := []) (r1 := some (.int (m 63 (24 * S + 4 * k + 1)))) (m1 := m) mz_t49 mz_v49_60 rfl rfl rfl rfl rfl ⟨?_, rfl⟩ ?_
          · refine mz_go 4 (c' := (4, [some (.ref 60), some (.int (nI S)), some (.int ((nI (k * 4)) + 1))], [.int 1, .int ((nI (k * 4)) + 1), .int (nI S), .ref 60], m)) rfl ?_
            refine mz_doQ (R := mz_r48) (as := [.ref 60, .int (nI S), .int ((nI (k * 4)) + 1), .int 1]) (rest := []) (r1 := some (.int 1)) (m1 := m) mz_t48 mz_v48_60 rfl rfl rfl rfl rfl ⟨?_, rfl⟩ ?_
            · refine mz_go 2 (c' := (2, [some (.ref 60), some (.int (nI S)), some (.int ((nI (k * 4)) + 1)), some (.int 1)], [.int (nI S), .ref 60], m)) rfl ?_
              refine mz_doQ (R := mz_r45) (as := [.ref 60, .int (nI S)]) (rest := []) (r1 := some (.int 1)) (m1 := m) mz_t45 mz_v45_60 rfl rfl rfl rfl rfl ⟨?_, rfl⟩ ?_
              · refine mz_go 2 (c' := (if (nI S) < 0 then 13 else 4, [some (.ref 60), some (.int (nI S))], [], m)) rfl ?_
                refine mz_ifF (show ¬ ((nI S) < 0) from (sm_nltN rfl rfl (show 0 ≤ S by omega) (show S < 2 ^ 31 by omega))) ?_
                refine mz_go 3 (c' := (if 4 ≤ (nI S) then 13 else 9, [some (.ref 60), some (.int (nI S))], [], m)) rfl ?_
                refine mz_ifF (show ¬ (4 ≤ (nI S)) from (sm_nleN rfl rfl (show S < 4 by omega) (show 4 < 2 ^ 31 by omega))) ?_
                refine mz_go 2 (c' := (14, [some (.ref 60), some (.int (nI S))], [.int 1], m)) rfl ?_
                exact mz_ret rfl
              refine mz_go 5 (c' := (if ((nI (k * 4)) + 1) < 0 then 42 else 16, [some (.ref 60), some (.int (nI S)), some (.int ((nI (k * 4)) + 1)), some (.int 1)], [], m)) rfl ?_
              refine mz_ifF (show ¬ (((nI (k * 4)) + 1) < 0) from (sm_nltN (sm_addN rfl rfl) rfl (show 0 ≤ ((k * 4) + 1) by omega) (show ((k * 4) + 1) < 2 ^ 31 by omega))) ?_
              refine mz_go 4 (c' := (22, [some (.ref 60), some (.int (nI S)), some (.int ((nI (k * 4)) + 1)), some (.int 1)], [.int (nI S), .ref 62, .int 1], m)) rfl ?_
              refine mz_arr (c' := (23, [some (.ref 60), some (.int (nI S)), some (.int ((nI (k * 4)) + 1)), some (.int 1)], [.int (m 62 ((nI S).toNatClampNeg)), .int 1], m)) rfl (show mz_in (nI S) 4 = true from sm_inN rfl (show S < 4 by omega) (by decide)) ?_
              rw [show (nI S : Int32).toNatClampNeg = S from sm_clN rfl (show S < 2 ^ 31 by omega)]
              rw [e1]
              refine mz_go 1 (c' := (if (nI z) < 1 then 42 else 26, [some (.ref 60), some (.int (nI S)), some (.int ((nI (k * 4)) + 1)), some (.int 1)], [], m)) rfl ?_
              refine mz_ifF (show ¬ ((nI z) < 1) from (sm_nltN rfl rfl (show 1 ≤ z by omega) (show z < 2 ^ 31 by omega))) ?_
              refine mz_go 4 (c' := (32, [some (.ref 60), some (.int (nI S)), some (.int ((nI (k * 4)) + 1)), some (.int 1)], [.int (nI S), .ref 62, .int ((nI (k * 4)) + 1)], m)) rfl ?_
              refine mz_arr (c' := (33, [some (.ref 60), some (.int (nI S)), some (.int ((nI (k * 4)) + 1)), some (.int 1)], [.int (m 62 ((nI S).toNatClampNeg)), .int ((nI (k * 4)) + 1)], m)) rfl (show mz_in (nI S) 4 = true from sm_inN rfl (show S < 4 by omega) (by decide)) ?_
              rw [show (nI S : Int32).toNatClampNeg = S from sm_clN rfl (show S < 2 ^ 31 by omega)]
              rw [e1]
              refine mz_go 3 (c' := (if ((nI z) - 1) < ((nI (k * 4)) + 1) then 42 else 38, [some (.ref 60), some (.int (nI S)), some (.int ((nI (k * 4)) + 1)), some (.int 1)], [], m)) rfl ?_
              refine mz_ifF (show ¬ (((nI z) - 1) < ((nI (k * 4)) + 1)) from (sm_nltN (sm_subN (a := z) (b := 1) rfl rfl (by omega)) (sm_addN rfl rfl) (show ((k * 4) + 1) ≤ (z - 1) by omega) (show (z - 1) < 2 ^ 31 by omega))) ?_
              refine mz_go 2 (c' := (43, [some (.ref 60), some (.int (nI S)), some (.int ((nI (k * 4)) + 1)), some (.int 1)], [.int 1], m)) rfl ?_
              exact mz_ret rfl
            refine mz_go 8 (c' := (20, [some (.ref 60), some (.int (nI S)), some (.int ((nI (k * 4)) + 1))], [.int (((nI S) * 24) + ((nI (k * 4)) + 1)), .ref 63], m)) rfl ?_
            refine mz_arr (c' := (21, [some (.ref 60), some (.int (nI S)), some (.int ((nI (k * 4)) + 1))], [.int (m 63 ((((nI S) * 24) + ((nI (k * 4)) + 1)).toNatClampNeg))], m)) rfl (show mz_in (((nI S) * 24) + ((nI (k * 4)) + 1)) 96 = true from sm_inN (sm_addN (sm_mulN rfl rfl) (sm_addN rfl rfl)) (show ((S * 24) + ((k * 4) + 1)) < 96 by omega) (by decide)) ?_
            rw [show (((nI S) * 24) + ((nI (k * 4)) + 1) : Int32).toNatClampNeg = ((S * 24) + ((k * 4) + 1)) from sm_clN (sm_addN (sm_mulN rfl rfl) (sm_addN rfl rfl)) (show ((S * 24) + ((k * 4) + 1)) < 2 ^ 31 by omega)]
            rw [show m 63 ((S * 24) + ((k * 4) + 1)) = m 63 (24 * S + 4 * k + 1) from by rw [show ((S * 24) + ((k * 4) + 1)) = 24 * S + 4 * k + 1 by omega]]
            refine mz_go 1 (c' := (25, [some (.ref 60), some (.int (nI S)), some (.int ((nI (k * 4)) + 1))], [.int (m 63 (24 * S + 4 * k + 1))], m)) rfl ?_
            exact mz_ret rfl
          refine mz_go 7 (c' := (59, [some (.ref 0), some (.int (nI S)), some (.int (nI (k * 4))), some (.int (m 63 (24 * S + 4 * k))), some (.int (m 63 (24 * S + 4 * k + 1))), none, none], [.int ((nI (k * 4)) + 2), .int (nI S), .ref 60], m)) rfl ?_
          refine mz_doQ (R := mz_r49) (as := [.ref 60, .int (nI S), .int ((nI (k * 4)) + 2)]) (rest := []) (r1 := some (.int (m 63 (24 * S + 4 * k + 2)))) (m1 := m) mz_t49 mz_v49_60 rfl rfl rfl rfl rfl ⟨?_, rfl⟩ ?_
          · refine mz_go 4 (c' := (4, [some (.ref 60), some (.int (nI S)), some (.int ((nI (k * 4)) + 2))], [.int 1, .int ((nI (k * 4)) + 2), .int (nI S), .ref 60], m)) rfl ?_
            refine mz_doQ (R := mz_r48) (as := [.ref 60, .int (nI S), .int ((nI (k * 4)) + 2), .int 1]) (rest := []) (r1 := some (.int 1)) (m1 := m) mz_t48 mz_v48_60 rfl rfl rfl rfl rfl ⟨?_, rfl⟩ ?_
            · refine mz_go 2 (c' := (2, [some (.ref 60), some (.int (nI S)), some (.int ((nI (k * 4)) + 2)), some (.int 1)], [.int (nI S), .ref 60], m)) rfl ?_
              refine mz_doQ (R := mz_r45) (as := [.ref 60, .int (nI S)]) (rest := []) (r1 := some (.int 1)) (m1 := m) mz_t45 mz_v45_60 rfl rfl rfl rfl rfl ⟨?_, rfl⟩ ?_
              · refine mz_go 2 (c' := (if (nI S) < 0 then 13 else 4, [some (.ref 60), some (.int (nI S))], [], m)) rfl ?_
                refine mz_ifF (show ¬ ((nI S) < 0) from (sm_nltN rfl rfl (show 0 ≤ S by omega) (show S < 2 ^ 31 by omega))) ?_
                refine mz_go 3 (c' := (if 4 ≤ (nI S) then 13 else 9, [some (.ref 60), some (.int (nI S))], [], m)) rfl ?_
                refine mz_ifF (show ¬ (4 ≤ (nI S)) from (sm_nleN rfl rfl (show S < 4 by omega) (show 4 < 2 ^ 31 by omega))) ?_
                refine mz_go 2 (c' := (14, [some (.ref 60), some (.int (nI S))], [.int 1], m)) rfl ?_
                exact mz_ret rfl
              refine mz_go 5 (c' := (if ((nI (k * 4)) + 2) < 0 then 42 else 16, [some (.ref 60), some (.int (nI S)), some (.int ((nI (k * 4)) + 2)), some (.int 1)], [], m)) rfl ?_
              refine mz_ifF (show ¬ (((nI (k * 4)) + 2) < 0) from (sm_nltN (sm_addN rfl rfl) rfl (show 0 ≤ ((k * 4) + 2) by omega) (show ((k * 4) + 2) < 2 ^ 31 by omega))) ?_
              refine mz_go 4 (c' := (22, [some (.ref 60), some (.int (nI S)), some (.int ((nI (k * 4)) + 2)), some (.int 1)], [.int (nI S), .ref 62, .int 1], m)) rfl ?_
              refine mz_arr (c' := (23, [some (.ref 60), some (.int (nI S)), some (.int ((nI (k * 4)) + 2)), some (.int 1)], [.int (m 62 ((nI S).toNatClampNeg)), .int 1], m)) rfl (show mz_in (nI S) 4 = true from sm_inN rfl (show S < 4 by omega) (by decide)) ?_
              rw [show (nI S : Int32).toNatClampNeg = S from sm_clN rfl (show S < 2 ^ 31 by omega)]
              rw [e1]
              refine mz_go 1 (c' := (if (nI z) < 1 then 42 else 26, [some (.ref 60), some (.int (nI S)), some (.int ((nI (k * 4)) + 2)), some (.int 1)], [], m)) rfl ?_
              refine mz_ifF (show ¬ ((nI z) < 1) from (sm_nltN rfl rfl (show 1 ≤ z by omega) (show z < 2 ^ 31 by omega))) ?_
              refine mz_go 4 (c' := (32, [some (.ref 60), some (.int (nI S)), some (.int ((nI (k * 4)) + 2)), some (.int 1)], [.int (nI S), .ref 62, .int ((nI (k * 4)) + 2)], m)) rfl ?_
              refine mz_arr (c' := (33, [some (.ref 60), some (.int (nI S)), some (.int ((nI (k * 4)) + 2)), some (.int 1)], [.int (m 62 ((nI S).toNatClampNeg)), .int ((nI (k * 4)) + 2)], m)) rfl (show mz_in (nI S) 4 = true from sm_inN rfl (show S < 4 by omega) (by decide)) ?_
              rw [show (nI S : Int32).toNatClampNeg = S from sm_clN rfl (show S < 2 ^ 31 by omega)]
              rw [e1]
              refine mz_go 3 (c' := (if ((nI z) - 1) < ((nI (k * 4)) + 2) then 42 else 38, [some (.ref 60), some (.int (nI S)), some (.int ((nI (k * 4)) + 2)), some (.int 1)], [], m)) rfl ?_
              refine mz_ifF (show ¬ (((nI z) - 1) < ((nI (k * 4)) + 2)) from (sm_nltN (sm_subN (a := z) (b := 1) rfl rfl (by omega)) (sm_addN rfl rfl) (show ((k * 4) + 2) ≤ (z - 1) by omega) (show (z - 1) < 2 ^ 31 by omega))) ?_
              refine mz_go 2 (c' := (43, [some (.ref 60), some (.int (nI S)), some (.int ((nI (k * 4)) + 2)), some (.int 1)], [.int 1], m)) rfl ?_
              exact mz_ret rfl
            refine mz_go 8 (c' := (20, [some (.ref 60), some (.int (nI S)), some (.int ((nI (k * 4)) + 2))], [.int (((nI S) * 24) + ((nI (k * 4)) + 2)), .ref 63], m)) rfl ?_
            refine mz_arr (c' := (21, [some (.ref 60), some (.int (nI S)), some (.int ((nI (k * 4)) + 2))], [.int (m 63 ((((nI S) * 24) + ((nI (k * 4)) + 2)).toNatClampNeg))], m)) rfl (show mz_in (((nI S) * 24) + ((nI (k * 4)) + 2)) 96 = true from sm_inN (sm_addN (sm_mulN rfl rfl) (sm_addN rfl rfl)) (show ((S * 24) + ((k * 4) + 2)) < 96 by omega) (by decide)) ?_
            rw [show (((nI S) * 24) + ((nI (k * 4)) + 2) : Int32).toNatClampNeg = ((S * 24) + ((k * 4) + 2)) from sm_clN (sm_addN (sm_mulN rfl rfl) (sm_addN rfl rfl)) (show ((S * 24) + ((k * 4) + 2)) < 2 ^ 31 by omega)]
            rw [show m 63 ((S * 24) + ((k * 4) + 2)) = m 63 (24 * S + 4 * k + 2) from by rw [show ((S * 24) + ((k * 4) + 2)) = 24 * S + 4 * k + 2 by omega]]
            refine mz_go 1 (c' := (25, [some (.ref 60), some (.int (nI S)), some (.int ((nI (k * 4)) + 2))], [.int (m 63 (24 * S + 4 * k + 2))], m)) rfl ?_
            exact mz_ret rfl
          refine mz_go 7 (c' := (72, [some (.ref 0), some (.int (nI S)), some (.int (nI (k * 4))), some (.int (m 63 (24 * S + 4 * k))), some (.int (m 63 (24 * S + 4 * k + 1))), some (.int (m 63 (24 * S + 4 * k + 2))), none], [.int ((nI (k * 4)) + 3), .int (nI S), .ref 60], m)) rfl ?_
          refine mz_doQ (R := mz_r49) (as := [.ref 60, .int (nI S), .int ((nI (k * 4)) + 3)]) (rest := []) (r1 := some (.int (m 63 (24 * S + 4 * k + 3)))) (m1 := m) mz_t49 mz_v49_60 rfl rfl rfl rfl rfl ⟨?_, rfl⟩ ?_
          · refine mz_go 4 (c' := (4, [some (.ref 60), some (.int (nI S)), some (.int ((nI (k * 4)) + 3))], [.int 1, .int ((nI (k * 4)) + 3), .int (nI S), .ref 60], m)) rfl ?_
            refine mz_doQ (R := mz_r48) (as := [.ref 60, .int (nI S), .int ((nI (k * 4)) + 3), .int 1]) (rest := []) (r1 := some (.int 1)) (m1 := m) mz_t48 mz_v48_60 rfl rfl rfl rfl rfl ⟨?_, rfl⟩ ?_
            · refine mz_go 2 (c' := (2, [some (.ref 60), some (.int (nI S)), some (.int ((nI (k * 4)) + 3)), some (.int 1)], [.int (nI S), .ref 60], m)) rfl ?_
              refine mz_doQ (R := mz_r45) (as := [.ref 60, .int (nI S)]) (rest := []) (r1 := some (.int 1)) (m1 := m) mz_t45 mz_v45_60 rfl rfl rfl rfl rfl ⟨?_, rfl⟩ ?_
              · refine mz_go 2 (c' := (if (nI S) < 0 then 13 else 4, [some (.ref 60), some (.int (nI S))], [], m)) rfl ?_
                refine mz_ifF (show ¬ ((nI S) < 0) from (sm_nltN rfl rfl (show 0 ≤ S by omega) (show S < 2 ^ 31 by omega))) ?_
                refine mz_go 3 (c' := (if 4 ≤ (nI S) then 13 else 9, [some (.ref 60), some (.int (nI S))], [], m)) rfl ?_
                refine mz_ifF (show ¬ (4 ≤ (nI S)) from (sm_nleN rfl rfl (show S < 4 by omega) (show 4 < 2 ^ 31 by omega))) ?_
                refine mz_go 2 (c' := (14, [some (.ref 60), some (.int (nI S))], [.int 1], m)) rfl ?_
                exact mz_ret rfl
              refine mz_go 5 (c' := (if ((nI (k * 4)) + 3) < 0 then 42 else 16, [some (.ref 60), some (.int (nI S)), some (.int ((nI (k * 4)) + 3)), some (.int 1)], [], m)) rfl ?_
              refine mz_ifF (show ¬ (((nI (k * 4)) + 3) < 0) from (sm_nltN (sm_addN rfl rfl) rfl (show 0 ≤ ((k * 4) + 3) by omega) (show ((k * 4) + 3) < 2 ^ 31 by omega))) ?_
              refine mz_go 4 (c' := (22, [some (.ref 60), some (.int (nI S)), some (.int ((nI (k * 4)) + 3)), some (.int 1)], [.int (nI S), .ref 62, .int 1], m)) rfl ?_
              refine mz_arr (c' := (23, [some (.ref 60), some (.int (nI S)), some (.int ((nI (k * 4)) + 3)), some (.int 1)], [.int (m 62 ((nI S).toNatClampNeg)), .int 1], m)) rfl (show mz_in (nI S) 4 = true from sm_inN rfl (show S < 4 by omega) (by decide)) ?_
              rw [show (nI S : Int32).toNatClampNeg = S from sm_clN rfl (show S < 2 ^ 31 by omega)]
              rw [e1]
              refine mz_go 1 (c' := (if (nI z) < 1 then 42 else 26, [some (.ref 60), some (.int (nI S)), some (.int ((nI (k * 4)) + 3)), some (.int 1)], [], m)) rfl ?_
              refine mz_ifF (show ¬ ((nI z) < 1) from (sm_nltN rfl rfl (show 1 ≤ z by omega) (show z < 2 ^ 31 by omega))) ?_
              refine mz_go 4 (c' := (32, [some (.ref 60), some (.int (nI S)), some (.int ((nI (k * 4)) + 3)), some (.int 1)], [.int (nI S), .ref 62, .int ((nI (k * 4)) + 3)], m)) rfl ?_
              refine mz_arr (c' := (33, [some (.ref 60), some (.int (nI S)), some (.int ((nI (k * 4)) + 3)), some (.int 1)], [.int (m 62 ((nI S).toNatClampNeg)), .int ((nI (k * 4)) + 3)], m)) rfl (show mz_in (nI S) 4 = true from sm_inN rfl (show S < 4 by omega) (by decide)) ?_
              rw [show (nI S : Int32).toNatClampNeg = S from sm_clN rfl (show S < 2 ^ 31 by omega)]
              rw [e1]
              refine mz_go 3 (c' := (if ((nI z) - 1) < ((nI (k * 4)) + 3) then 42 else 38, [some (.ref 60), some (.int (nI S)), some (.int ((nI (k * 4)) + 3)), some (.int 1)], [], m)) rfl ?_
              refine mz_ifF (show ¬ (((nI z) - 1) < ((nI (k * 4)) + 3)) from (sm_nltN (sm_subN (a := z) (b := 1) rfl rfl (by omega)) (sm_addN rfl rfl) (show ((k * 4) + 3) ≤ (z - 1) by omega) (show (z - 1) < 2 ^ 31 by omega))) ?_
              refine mz_go 2 (c' := (43, [some (.ref 60), some (.int (nI S)), some (.int ((nI (k * 4)) + 3)), some (.int 1)], [.int 1], m)) rfl ?_
              exact mz_ret rfl
            refine mz_go 8 (c' := (20, [some (.ref 60), some (.int (nI S)), some (.int ((nI (k * 4)) + 3))], [.int (((nI S) * 24) + ((nI (k * 4)) + 3)), .ref 63], m)) rfl ?_
            refine mz_arr (c' := (21, [some (.ref 60), some (.int (nI S)), some (.int ((nI (k * 4)) + 3))], [.int (m 63 ((((nI S) * 24) + ((nI (k * 4)) + 3)).toNatClampNeg))], m)) rfl (show mz_in (((nI S) * 24) + ((nI (k * 4)) + 3)) 96 = true from sm_inN (sm_addN (sm_mulN rfl rfl) (sm_addN rfl rfl)) (show ((S * 24) + ((k * 4) + 3)) < 96 by omega) (by decide)) ?_
            rw [show (((nI S) * 24) + ((nI (k * 4)) + 3) : Int32).toNatClampNeg = ((S * 24) + ((k * 4) + 3)) from sm_clN (sm_addN (sm_mulN rfl rfl) (sm_addN rfl rfl)) (show ((S * 24) + ((k * 4) + 3)) < 2 ^ 31 by omega)]
            rw [show m 63 ((S * 24) + ((k * 4) + 3)) = m 63 (24 * S + 4 * k + 3) from by rw [show ((S * 24) + ((k * 4) + 3)) = 24 * S + 4 * k + 3 by omega]]
            refine mz_go 1 (c' := (25, [some (.ref 60), some (.int (nI S)), some (.int ((nI (k * 4)) + 3))], [.int (m 63 (24 * S + 4 * k + 3))], m)) rfl ?_
            exact mz_ret rfl
          refine mz_go 5 (c' := (84, [some (.ref 0), some (.int (nI S)), some (.int (nI (k * 4))), some (.int (m 63 (24 * S + 4 * k))), some (.int (m 63 (24 * S + 4 * k + 1))), some (.int (m 63 (24 * S + 4 * k + 2))), some (.int (m 63 (24 * S + 4 * k + 3)))], [.int (m 63 (24 * S + 4 * k + 3)), .int (m 63 (24 * S + 4 * k + 2)), .int (m 63 (24 * S + 4 * k + 1)), .int (m 63 (24 * S + 4 * k))], m)) rfl ?_
          refine mz_doQ (R := mz_r113) (as := [.int (m 63 (24 * S + 4 * k)), .int (m 63 (24 * S + 4 * k + 1)), .int (m 63 (24 * S + 4 * k + 2)), .int (m 63 (24 * S + 4 * k + 3))]) (rest := []) (r1 := some (.int 0)) (m1 := m) mz_t113 mz_v113 rfl rfl rfl rfl rfl ⟨?_, rfl⟩ ?_
          · refine mz_go 1 (c' := (1, [some (.int (m 63 (24 * S + 4 * k))), some (.int (m 63 (24 * S + 4 * k + 1))), some (.int (m 63 (24 * S + 4 * k + 2))), some (.int (m 63 (24 * S + 4 * k + 3)))], [.int (m 63 (24 * S + 4 * k))], m)) rfl ?_
            refine mz_doQ (R := mz_r114) (as := [.int (m 63 (24 * S + 4 * k))]) (rest := []) (r1 := some (.int (sm_bI (sm_in (m 63 (24 * S + 4 * k)) 0 6)))) (m1 := m) mz_t114 mz_v114 rfl rfl rfl rfl rfl ⟨?_, sm_fitB _⟩ ?_
            · refine mz_go 3 (c' := (4, [some (.int (m 63 (24 * S + 4 * k)))], [.int 6, .int 0, .int (m 63 (24 * S + 4 * k))], m)) rfl ?_
              refine mz_doQ (R := mz_r121) (as := [.int (m 63 (24 * S + 4 * k)), .int 0, .int 6]) (rest := []) (r1 := some (.int (sm_bI (sm_in (m 63 (24 * S + 4 * k)) 0 6)))) (m1 := m) mz_t121 mz_v121 rfl rfl rfl rfl rfl ((cs_in (m := m) (m 63 (24 * S + 4 * k)) 0 6).deep (by decide)) ?_
              exact mz_ret rfl
            refine mz_go 1 (c' := (if (sm_bI (sm_in (m 63 (24 * S + 4 * k)) 0 6)) = 0 then 29 else 7, [some (.int (m 63 (24 * S + 4 * k))), some (.int (m 63 (24 * S + 4 * k + 1))), some (.int (m 63 (24 * S + 4 * k + 2))), some (.int (m 63 (24 * S + 4 * k + 3)))], [], m)) rfl ?_
            refine mz_ifT q4 ?_
            refine mz_go 1 (c' := (30, [some (.int (m 63 (24 * S + 4 * k))), some (.int (m 63 (24 * S + 4 * k + 1))), some (.int (m 63 (24 * S + 4 * k + 2))), some (.int (m 63 (24 * S + 4 * k + 3)))], [.int 0], m)) rfl ?_
            exact mz_ret rfl
          refine mz_go 2 (c' := (91, [some (.ref 0), some (.int (nI S)), some (.int (nI (k * 4))), some (.int (m 63 (24 * S + 4 * k))), some (.int (m 63 (24 * S + 4 * k + 1))), some (.int (m 63 (24 * S + 4 * k + 2))), some (.int (m 63 (24 * S + 4 * k + 3)))], [.int 0], m)) rfl ?_
          exact mz_ret rfl
        · by_cases q5 : (sm_bI (sm_plc (m 63 (24 * S + 4 * k + 1)) (m 63 (24 * S + 4 * k + 2)))) = 0
          · refine ⟨?_, rfl⟩
            refine mz_go 3 (c' := (7, [some (.ref 0), some (.int (nI S)), some (.int (nI (k * 4))), none, none, none, none], [.ref 2], m)) rfl ?_
            refine mz_doQ (R := mz_r22) (as := [.ref 2]) (rest := []) (r1 := some (.int 0)) (m1 := m) mz_t22 mz_v22_2 rfl rfl rfl rfl rfl ⟨?_, rfl⟩ ?_
            · refine mz_go 2 (c' := (4, [some (.ref 2)], [.int (m 2 4)], m)) rfl ?_
              rw [h4]
              refine mz_go 2 (c' := (if (nI C) < 6 then 13 else 9, [some (.ref 2)], [], m)) rfl ?_
              refine mz_ifT (show ((nI C) < 6) from (sm_ltN rfl rfl (show C < 6 by omega) (show 6 < 2 ^ 31 by omega))) ?_
              refine mz_go 1 (c' := (14, [some (.ref 2)], [.int 0], m)) rfl ?_
              exact mz_ret rfl
            refine mz_go 6 (c' := (20, [some (.ref 0), some (.int (nI S)), some (.int (nI (k * 4))), none, none, none, none], [.int 4, .int (nI (k * 4)), .int (nI S), .ref 60], m)) rfl ?_
            refine mz_doQ (R := mz_r48) (as := [.ref 60, .int (nI S), .int (nI (k * 4)), .int 4]) (rest := []) (r1 := some (.int 1)) (m1 := m) mz_t48 mz_v48_60 rfl rfl rfl rfl rfl ⟨?_, rfl⟩ ?_
            · refine mz_go 2 (c' := (2, [some (.ref 60), some (.int (nI S)), some (.int (nI (k * 4))), some (.int 4)], [.int (nI S), .ref 60], m)) rfl ?_
              refine mz_doQ (R := mz_r45) (as := [.ref 60, .int (nI S)]) (rest := []) (r1 := some (.int 1)) (m1 := m) mz_t45 mz_v45_60 rfl rfl rfl rfl rfl ⟨?_, rfl⟩ ?_
              · refine mz_go 2 (c' := (if (nI S) < 0 then 13 else 4, [some (.ref 60), some (.int (nI S))], [], m)) rfl ?_
                refine mz_ifF (show ¬ ((nI S) < 0) from (sm_nltN rfl rfl (show 0 ≤ S by omega) (show S < 2 ^ 31 by omega))) ?_
                refine mz_go 3 (c' := (if 4 ≤ (nI S) then 13 else 9, [some (.ref 60), some (.int (nI S))], [], m)) rfl ?_
                refine mz_ifF (show ¬ (4 ≤ (nI S)) from (sm_nleN rfl rfl (show S < 4 by omega) (show 4 < 2 ^ 31 by omega))) ?_
                refine mz_go 2 (c' := (14, [some (.ref 60), some (.int (nI S))], [.int 1], m)) rfl ?_
                exact mz_ret rfl
              refine mz_go 5 (c' := (if (nI (k * 4)) < 0 then 42 else 16, [some (.ref 60), some (.int (nI S)), some (.int (nI (k * 4))), some (.int 4)], [], m)) rfl ?_
              refine mz_ifF (show ¬ ((nI (k * 4)) < 0) from (sm_nltN rfl rfl (show 0 ≤ (k * 4) by omega) (show (k * 4) < 2 ^ 31 by omega))) ?_
              refine mz_go 4 (c' := (22, [some (.ref 60), some (.int (nI S)), some (.int (nI (k * 4))), some (.int 4)], [.int (nI S), .ref 62, .int 4], m)) rfl ?_
              refine mz_arr (c' := (23, [some (.ref 60), some (.int (nI S)), some (.int (nI (k * 4))), some (.int 4)], [.int (m 62 ((nI S).toNatClampNeg)), .int 4], m)) rfl (show mz_in (nI S) 4 = true from sm_inN rfl (show S < 4 by omega) (by decide)) ?_
              rw [show (nI S : Int32).toNatClampNeg = S from sm_clN rfl (show S < 2 ^ 31 by omega)]
              rw [e1]
              refine mz_go 1 (c' := (if (nI z) < 4 then 42 else 26, [some (.ref 60), some (.int (nI S)), some (.int (nI (k * 4))), some (.int 4)], [], m)) rfl ?_
              refine mz_ifF (show ¬ ((nI z) < 4) from (sm_nltN rfl rfl (show 4 ≤ z by omega) (show z < 2 ^ 31 by omega))) ?_
              refine mz_go 4 (c' := (32, [some (.ref 60), some (.int (nI S)), some (.int (nI (k * 4))), some (.int 4)], [.int (nI S), .ref 62, .int (nI (k * 4))], m)) rfl ?_
              refine mz_arr (c' := (33, [some (.ref 60), some (.int (nI S)), some (.int (nI (k * 4))), some (.int 4)], [.int (m 62 ((nI S).toNatClampNeg)), .int (nI (k * 4))], m)) rfl (show mz_in (nI S) 4 = true from sm_inN rfl (show S < 4 by omega) (by decide)) ?_
              rw [show (nI S : Int32).toNatClampNeg = S from sm_clN rfl (show S < 2 ^ 31 by omega)]
              rw [e1]
              refine mz_go 3 (c' := (if ((nI z) - 4) < (nI (k * 4)) then 42 else 38, [some (.ref 60), some (.int (nI S)), some (.int (nI (k * 4))), some (.int 4)], [], m)) rfl ?_
              refine mz_ifF (show ¬ (((nI z) - 4) < (nI (k * 4))) from (sm_nltN (sm_subN (a := z) (b := 4) rfl rfl (by omega)) rfl (show (k * 4) ≤ (z - 4) by omega) (show (z - 4) < 2 ^ 31 by omega))) ?_
              refine mz_go 2 (c' := (43, [some (.ref 60), some (.int (nI S)), some (.int (nI (k * 4))), some (.int 4)], [.int 1], m)) rfl ?_
              exact mz_ret rfl
            refine mz_go 5 (c' := (34, [some (.ref 0), some (.int (nI S)), some (.int (nI (k * 4))), none, none, none, none], [.int (nI (k * 4)), .int (nI S), .ref 60], m)) rfl ?_
            refine mz_doQ (R := mz_r49) (as := [.ref 60, .int (nI S), .int (nI (k * 4))]) (rest := []) (r1 := some (.int (m 63 (24 * S + 4 * k)))) (m1 := m) mz_t49 mz_v49_60 rfl rfl rfl rfl rfl ⟨?_, rfl⟩ ?_
            · refine mz_go 4 (c' := (4, [some (.ref 60), some (.int (nI S)), some (.int (nI (k * 4)))], [.int 1, .int (nI (k * 4)), .int (nI S), .ref 60], m)) rfl ?_
              refine mz_doQ (R := mz_r48) (as := [.ref 60, .int (nI S), .int (nI (k * 4)), .int 1]) (rest := []) (r1 := some (.int 1)) (m1 := m) mz_t48 mz_v48_60 rfl rfl rfl rfl rfl ⟨?_, rfl⟩ ?_
              · refine mz_go 2 (c' := (2, [some (.ref 60), some (.int (nI S)), some (.int (nI (k * 4))), some (.int 1)], [.int (nI S), .ref 60], m)) rfl ?_
                refine mz_doQ (R := mz_r45) (as := [.ref 60, .int (nI S)]) (rest := []) (r1 := some (.int 1)) (m1 := m) mz_t45 mz_v45_60 rfl rfl rfl rfl rfl ⟨?_, rfl⟩ ?_
                · refine mz_go 2 (c' := (if (nI S) < 0 then 13 else 4, [some (.ref 60), some (.int (nI S))], [], m)) rfl ?_
                  refine mz_ifF (show ¬ ((nI S) < 0) from (sm_nltN rfl rfl (show 0 ≤ S by omega) (show S < 2 ^ 31 by omega))) ?_
                  refine mz_go 3 (c' := (if 4 ≤ (nI S) then 13 else 9, [some (.ref 60), some (.int (nI S))], [], m)) rfl ?_
                  refine mz_ifF (show ¬ (4 ≤ (nI S)) from (sm_nleN rfl rfl (show S < 4 by omega) (show 4 < 2 ^ 31 by omega))) ?_
                  refine mz_go 2 (c' := (14, [some (.ref 60), some (.int (nI S))], [.int 1], m)) rfl ?_
                  exact mz_ret rfl
                refine mz_go 5 (c' := (if (nI (k * 4)) < 0 then 42 else 16, [some (.ref 60), some (.int (nI S)), some (.int (nI (k * 4))), some (.int 1)], [], m)) rfl ?_
                refine mz_ifF (show ¬ ((nI (k * 4)) < 0) from (sm_nltN rfl rfl (show 0 ≤ (k * 4) by omega) (show (k * 4) < 2 ^ 31 by omega))) ?_
                refine mz_go 4 (c' := (22, [some (.ref 60), some (.int (nI S)), some (.int (nI (k * 4))), some (.int 1)], [.int (nI S), .ref 62, .int 1], m)) rfl ?_
                refine mz_arr (c' := (23, [some (.ref 60), some (.int (nI S)), some (.int (nI (k * 4))), some (.int 1)], [.int (m 62 ((nI S).toNatClampNeg)), .int 1], m)) rfl (show mz_in (nI S) 4 = true from sm_inN rfl (show S < 4 by omega) (by decide)) ?_
                rw [show (nI S : Int32).toNatClampNeg = S from sm_clN rfl (show S < 2 ^ 31 by omega)]
                rw [e1]
                refine mz_go 1 (c' := (if (nI z) < 1 then 42 else 26, [some (.ref 60), some (.int (nI S)), some (.int (nI (k * 4))), some (.int 1)], [], m)) rfl ?_
                refine mz_ifF (show ¬ ((nI z) < 1) from (sm_nltN rfl rfl (show 1 ≤ z by omega) (show z < 2 ^ 31 by omega))) ?_
                refine mz_go 4 (c' := (32, [some (.ref 60), some (.int (nI S)), some (.int (nI (k * 4))), some (.int 1)], [.int (nI S), .ref 62, .int (nI (k * 4))], m)) rfl ?_
                refine mz_arr (c' := (33, [some (.ref 60), some (.int (nI S)), some (.int (nI (k * 4))), some (.int 1)], [.int (m 62 ((nI S).toNatClampNeg)), .int (nI (k * 4))], m)) rfl (show mz_in (nI S) 4 = true from sm_inN rfl (show S < 4 by omega) (by decide)) ?_
                rw [show (nI S : Int32).toNatClampNeg = S from sm_clN rfl (show S < 2 ^ 31 by omega)]
                rw [e1]
                refine mz_go 3 (c' := (if ((nI z) - 1) < (nI (k * 4)) then 42 else 38, [some (.ref 60), some (.int (nI S)), some (.int (nI (k * 4))), some (.int 1)], [], m)) rfl ?_
                refine mz_ifF (show ¬ (((nI z) - 1) < (nI (k * 4))) from (sm_nltN (sm_subN (a := z) (b := 1) rfl rfl (by omega)) rfl (show (k * 4) ≤ (z - 1) by omega) (show (z - 1) < 2 ^ 31 by omega))) ?_
                refine mz_go 2 (c' := (43, [some (.ref 60), some (.int (nI S)), some (.int (nI (k * 4))), some (.int 1)], [.int 1], m)) rfl ?_
                exact mz_ret rfl
              refine mz_go 8 (c' := (20, [some (.ref 60), some (.int (nI S)), some (.int (nI (k * 4)))], [.int (((nI S) * 24) + (nI (k * 4))), .ref 63], m)) rfl ?_
              refine mz_arr (c' := (21, [some (.ref 60), some (.int (nI S)), some (.int (nI (k * 4)))], [.int (m 63 ((((nI S) * 24) + (nI (k * 4))).toNatClampNeg))], m)) rfl (show mz_in (((nI S) * 24) + (nI (k * 4))) 96 = true from sm_inN (sm_addN (sm_mulN rfl rfl) rfl) (show ((S * 24) + (k * 4)) < 96 by omega) (by decide)) ?_
              rw [show (((nI S) * 24) + (nI (k * 4)) : Int32).toNatClampNeg = ((S * 24) + (k * 4)) from sm_clN (sm_addN (sm_mulN rfl rfl) rfl) (show ((S * 24) + (k * 4)) < 2 ^ 31 by omega)]
              rw [show m 63 ((S * 24) + (k * 4)) = m 63 (24 * S + 4 * k) from by rw [show ((S * 24) + (k * 4)) = 24 * S + 4 * k by omega]]
              refine mz_go 1 (c' := (25, [some (.ref 60), some (.int (nI S)), some (.int (nI (k * 4)))], [.int (m 63 (24 * S + 4 * k))], m)) rfl ?_
              exact mz_ret rfl
            refine mz_go 7 (c' := (46, [some (.ref 0), some (.int (nI S)), some (.int (nI (k * 4))), some (.int (m 63 (24 * S + 4 * k))), none, none, none], [.int ((nI (k * 4)) + 1), .int (nI S), .ref 60], m)) rfl ?_
            refine mz_doQ (R := mz_r49) (as := [.ref 60, .int (nI S), .int ((nI (k * 4)) + 1)]) (rest := []) (r1 := some (.int (m 63 (24 * S + 4 * k + 1)))) (m1 := m) mz_t49 mz_v49_60 rfl rfl rfl rfl rfl ⟨?_, rfl⟩ ?_
            · refine mz_go 4 (c' := (4, [some (.ref 60), some (.int (nI S)), some (.int ((nI (k * 4)) + 1))], [.int 1, .int ((nI (k * 4)) + 1), .int (nI S), .ref 60], m)) rfl ?_
              refine mz_doQ (R := mz_r48) (as := [.ref 60, .int (nI S), .int ((nI (k * 4)) + 1), .int 1]) (rest := []) (r1 := some (.int 1)) (m1 := m) mz_t48 mz_v48_60 rfl rfl rfl rfl rfl ⟨?_, rfl⟩ ?_
              · refine mz_go 2 (c' := (2, [some (.ref 60), some (.int (nI S)), some (.int ((nI (k * 4)) + 1)), some (.int 1)], [.int (nI S), .ref 60], m)) rfl ?_
                refine mz_doQ (R := mz_r45) (as := [.ref 60, .int (nI S)]) (rest := []) (r1 := some (.int 1)) (m1 := m) mz_t45 mz_v45_60 rfl rfl rfl rfl rfl ⟨?_, rfl⟩ ?_
                · refine mz_go 2 (c' := (if (nI S) < 0 then 13 else 4, [some (.ref 60), some (.int (nI S))], [], m)) rfl ?_
                  refine mz_ifF (show ¬ ((nI S) < 0) from (sm_nltN rfl rfl (show 0 ≤ S by omega) (show S < 2 ^ 31 by omega))) ?_
                  refine mz_go 3 (c' := (if 4 ≤ (nI S) then 13 else 9, [some (.ref 60), some (.int (nI S))], [], m)) rfl ?_
                  refine mz_ifF (show ¬ (4 ≤ (nI S)) from (sm_nleN rfl rfl (show S < 4 by omega) (show 4 < 2 ^ 31 by omega))) ?_
                  refine mz_go 2 (c' := (14, [some (.ref 60), some (.int (nI S))], [.int 1], m)) rfl ?_
                  exact mz_ret rfl
                refine mz_go 5 (c' := (if ((nI (k * 4)) + 1) < 0 then 42 else 16, [some (.ref 60), some (.int (nI S)), some (.int ((nI (k * 4)) + 1)), some (.int 1)], [], m)) rfl ?_
                refine mz_ifF (show ¬ (((nI (k * 4)) + 1) < 0) from (sm_nltN (sm_addN rfl rfl) rfl (show 0 ≤ ((k * 4) + 1) by omega) (show ((k * 4) + 1) < 2 ^ 31 by omega))) ?_
                refine mz_go 4 (c' := (22, [some (.ref 60), some (.int (nI S)), some (.int ((nI (k * 4)) + 1)), some (.int 1)], [.int (nI S), .ref 62, .int 1], m)) rfl ?_
                refine mz_arr (c' := (23, [some (.ref 60), some (.int (nI S)), some (.int ((nI (k * 4)) + 1)), some (.int 1)], [.int (m 62 ((nI S).toNatClampNeg)), .int 1], m)) rfl (show mz_in (nI S) 4 = true from sm_inN rfl (show S < 4 by omega) (by decide)) ?_
                rw [show (nI S : Int32).toNatClampNeg = S from sm_clN rfl (show S < 2 ^ 31 by omega)]
                rw [e1]
                refine mz_go 1 (c' := (if (nI z) < 1 then 42 else 26, [some (.ref 60), some (.int (nI S)), some (.int ((nI (k * 4)) + 1)), some (.int 1)], [], m)) rfl ?_
                refine mz_ifF (show ¬ ((nI z) < 1) from (sm_nltN rfl rfl (show 1 ≤ z by omega) (show z < 2 ^ 31 by omega))) ?_
                refine mz_go 4 (c' := (32, [some (.ref 60), some (.int (nI S)), some (.int ((nI (k * 4)) + 1)), some (.int 1)], [.int (nI S), .ref 62, .int ((nI (k * 4)) + 1)], m)) rfl ?_
                refine mz_arr (c' := (33, [some (.ref 60), some (.int (nI S)), some (.int ((nI (k * 4)) + 1)), some (.int 1)], [.int (m 62 ((nI S).toNatClampNeg)), .int ((nI (k * 4)) + 1)], m)) rfl (show mz_in (nI S) 4 = true from sm_inN rfl (show S < 4 by omega) (by decide)) ?_
                rw [show (nI S : Int32).toNatClampNeg = S from sm_clN rfl (show S < 2 ^ 31 by omega)]
                rw [e1]
                refine mz_go 3 (c' := (if ((nI z) - 1) < ((nI (k * 4)) + 1) then 42 else 38, [some (.ref 60), some (.int (nI S)), some (.int ((nI (k * 4)) + 1)), some (.int 1)], [], m)) rfl ?_
                refine mz_ifF (show ¬ (((nI z) - 1) < ((nI (k * 4)) + 1)) from (sm_nltN (sm_subN (a := z) (b := 1) rfl rfl (by omega)) (sm_addN rfl rfl) (show ((k * 4) + 1) ≤ (z - 1) by omega) (show (z - 1) < 2 ^ 31 by omega))) ?_
                refine mz_go 2 (c' := (43, [some (.ref 60), some (.int (nI S)), some (.int ((nI (k * 4)) + 1)), some (.int 1)], [.int 1], m)) rfl ?_
                exact mz_ret rfl
              refine mz_go 8 (c' := (20, [some (.ref 60), some (.int (nI S)), some (.int ((nI (k * 4)) + 1))], [.int (((nI S) * 24) + ((nI (k * 4)) + 1)), .ref 63], m)) rfl ?_
              refine mz_arr (c' := (21, [some (.ref 60), some (.int (nI S)), some (.int ((nI (k * 4)) + 1))], [.int (m 63 ((((nI S) * 24) + ((nI (k * 4)) + 1)).toNatClampNeg))], m)) rfl (show mz_in (((nI S) * 24) + ((nI (k * 4)) + 1)) 96 = true from sm_inN (sm_addN (sm_mulN rfl rfl) (sm_addN rfl rfl)) (show ((S * 24) + ((k * 4) + 1)) < 96 by omega) (by decide)) ?_
              rw [show (((nI S) * 24) + ((nI (k * 4)) + 1) : Int32).toNatClampNeg = ((S * 24) + ((k * 4) + 1)) from sm_clN (sm_addN (sm_mulN rfl rfl) (sm_addN rfl rfl)) (show ((S * 24) + ((k * 4) + 1)) < 2 ^ 31 by omega)]
              rw [show m 63 ((S * 24) + ((k * 4) + 1)) = m 63 (24 * S + 4 * k + 1) from by rw [show ((S * 24) + ((k * 4) + 1)) = 24 * S + 4 * k + 1 by omega]]
              refine mz_go 1 (c' := (25, [some (.ref 60), some (.int (nI S)), some (.int ((nI (k * 4)) + 1))], [.int (m 63 (24 * S + 4 * k + 1))], m)) rfl ?_
              exact mz_ret rfl
            refine mz_go 7 (c' := (59, [some (.ref 0), some (.int (nI S)), some (.int (nI (k * 4))), some (.int (m 63 (24 * S + 4 * k))), some (.int (m 63 (24 * S + 4 * k + 1))), none, none], [.int ((nI (k * 4)) + 2), .int (nI S), .ref 60], m)) rfl ?_
            refine mz_doQ (R := mz_r49) (as := [.ref 60, .int (nI S), .int ((nI (k * 4)) + 2)]) (rest := []) (r1 := some (.int (m 63 (24 * S + 4 * k + 2)))) (m1 := m) mz_t49 mz_v49_60 rfl rfl rfl rfl rfl ⟨?_, rfl⟩ ?_
            · refine mz_go 4 (c' := (4, [some (.ref 60), some (.int (nI S)), some (.int ((nI (k * 4)) + 2))], [.int 1, .int ((nI (k * 4)) + 2), .int (nI S), .ref 60], m)) rfl ?_
              refine mz_doQ (R := mz_r48) (as := [.ref 60, .int (nI S), .int ((nI (k * 4)) + 2), .int 1]) (rest := []) (r1 := some (.int 1)) (m1 := m) mz_t48 mz_v48_60 rfl rfl rfl rfl rfl ⟨?_, rfl⟩ ?_
              · refine mz_go 2 (c' := (2, [some (.ref 60), some (.int (nI S)), some (.int ((nI (k * 4)) + 2)), some (.int 1)], [.int (nI S), .ref 60], m)) rfl ?_
                refine mz_doQ (R := mz_r45) (as := [.ref 60, .int (nI S)]) (rest := []) (r1 := some (.int 1)) (m1 := m) mz_t45 mz_v45_60 rfl rfl rfl rfl rfl ⟨?_, rfl⟩ ?_
                · refine mz_go 2 (c' := (if (nI S) < 0 then 13 else 4, [some (.ref 60), some (.int (nI S))], [], m)) rfl ?_
                  refine mz_ifF (show ¬ ((nI S) < 0) from (sm_nltN rfl rfl (show 0 ≤ S by omega) (show S < 2 ^ 31 by omega))) ?_
                  refine mz_go 3 (c' := (if 4 ≤ (nI S) then 13 else 9, [some (.ref 60), some (.int (nI S))], [], m)) rfl ?_
                  refine mz_ifF (show ¬ (4 ≤ (nI S)) from (sm_nleN rfl rfl (show S < 4 by omega) (show 4 < 2 ^ 31 by omega))) ?_
                  refine mz_go 2 (c' := (14, [some (.ref 60), some (.int (nI S))], [.int 1], m)) rfl ?_
                  exact mz_ret rfl
                refine mz_go 5 (c' := (if ((nI (k * 4)) + 2) < 0 then 42 else 16, [some (.ref 60), some (.int (nI S)), some (.int ((nI (k * 4)) + 2)), some (.int 1)], [], m)) rfl ?_
                refine mz_ifF (show ¬ (((nI (k * 4)) + 2) < 0) from (sm_nltN (sm_addN rfl rfl) rfl (show 0 ≤ ((k * 4) + 2) by omega) (show ((k * 4) + 2) < 2 ^ 31 by omega))) ?_
                refine mz_go 4 (c' := (22, [some (.ref 60), some (.int (nI S)), some (.int ((nI (k * 4)) + 2)), some (.int 1)], [.int (nI S), .ref 62, .int 1], m)) rfl ?_
                refine mz_arr (c' := (23, [some (.ref 60), some (.int (nI S)), some (.int ((nI (k * 4)) + 2)), some (.int 1)], [.int (m 62 ((nI S).toNatClampNeg)), .int 1], m)) rfl (show mz_in (nI S) 4 = true from sm_inN rfl (show S < 4 by omega) (by decide)) ?_
                rw [show (nI S : Int32).toNatClampNeg = S from sm_clN rfl (show S < 2 ^ 31 by omega)]
                rw [e1]
                refine mz_go 1 (c' := (if (nI z) < 1 then 42 else 26, [some (.ref 60), some (.int (nI S)), some (.int ((nI (k * 4)) + 2)), some (.int 1)], [], m)) rfl ?_
                refine mz_ifF (show ¬ ((nI z) < 1) from (sm_nltN rfl rfl (show 1 ≤ z by omega) (show z < 2 ^ 31 by omega))) ?_
                refine mz_go 4 (c' := (32, [some (.ref 60), some (.int (nI S)), some (.int ((nI (k * 4)) + 2)), some (.int 1)], [.int (nI S), .ref 62, .int ((nI (k * 4)) + 2)], m)) rfl ?_
                refine mz_arr (c' := (33, [some (.ref 60), some (.int (nI S)), some (.int ((nI (k * 4)) + 2)), some (.int 1)], [.int (m 62 ((nI S).toNatClampNeg)), .int ((nI (k * 4)) + 2)], m)) rfl (show mz_in (nI S) 4 = true from sm_inN rfl (show S < 4 by omega) (by decide)) ?_
                rw [show (nI S : Int32).toNatClampNeg = S from sm_clN rfl (show S < 2 ^ 31 by omega)]
                rw [e1]
                refine mz_go 3 (c' := (if ((nI z) - 1) < ((nI (k * 4)) + 2) then 42 else 38, [some (.ref 60), some (.int (nI S)), some (.int ((nI (k * 4)) + 2)), some (.int 1)], [], m)) rfl ?_
                refine mz_ifF (show ¬ (((nI z) - 1) < ((nI (k * 4)) + 2)) from (sm_nltN (sm_subN (a := z) (b := 1) rfl rfl (by omega)) (sm_addN rfl rfl) (show ((k * 4) + 2) ≤ (z - 1) by omega) (show (z - 1) < 2 ^ 31 by omega))) ?_
                refine mz_go 2 (c' := (43, [some (.ref 60), some (.int (nI S)), some (.int ((nI (k * 4)) + 2)), some (.int 1)], [.int 1], m)) rfl ?_
                exact mz_ret rfl
              refine mz_go 8 (c' := (20, [some (.ref 60), some (.int (nI S)), some (.int ((nI (k * 4)) + 2))], [.int (((nI S) * 24) + ((nI (k * 4)) + 2)), .ref 63], m)) rfl ?_
              refine mz_arr (c' := (21, [some (.ref 60), some (.int (nI S)), some (.int ((nI (k * 4)) + 2))], [.int (m 63 ((((nI S) * 24) + ((nI (k * 4)) + 2)).toNatClampNeg))], m)) rfl (show mz_in (((nI S) * 24) + ((nI (k * 4)) + 2)) 96 = true from sm_inN (sm_addN (sm_mulN rfl rfl) (sm_addN rfl rfl)) (show ((S * 24) + ((k * 4) + 2)) < 96 by omega) (by decide)) ?_
              rw [show (((nI S) * 24) + ((nI (k * 4)) + 2) : Int32).toNatClampNeg = ((S * 24) + ((k * 4) + 2)) from sm_clN (sm_addN (sm_mulN rfl rfl) (sm_addN rfl rfl)) (show ((S * 24) + ((k * 4) + 2)) < 2 ^ 31 by omega)]
              rw [show m 63 ((S * 24) + ((k * 4) + 2)) = m 63 (24 * S + 4 * k + 2) from by rw [show ((S * 24) + ((k * 4) + 2)) = 24 * S + 4 * k + 2 by omega]]
              refine mz_go 1 (c' := (25, [some (.ref 60), some (.int (nI S)), some (.int ((nI (k * 4)) + 2))], [.int (m 63 (24 * S + 4 * k + 2))], m)) rfl ?_
              exact mz_ret rfl
            refine mz_go 7 (c' := (72, [some (.ref 0), some (.int (nI S)), some (.int (nI (k * 4))), some (.int (m 63 (24 * S + 4 * k))), some (.int (m 63 (24 * S + 4 * k + 1))), some (.int (m 63 (24 * S + 4 * k + 2))), none], [.int ((nI (k * 4)) + 3), .int (nI S), .ref 60], m)) rfl ?_
            refine mz_doQ (R := mz_r49) (as := [.ref 60, .int (nI S), .int ((nI (k * 4)) + 3)]) (rest := []) (r1 := some (.int (m 63 (24 * S + 4 * k + 3)))) (m1 := m) mz_t49 mz_v49_60 rfl rfl rfl rfl rfl ⟨?_, rfl⟩ ?_
            · refine mz_go 4 (c' := (4, [some (.ref 60), some (.int (nI S)), some (.int ((nI (k * 4)) + 3))], [.int 1, .int ((nI (k * 4)) + 3), .int (nI S), .ref 60], m)) rfl ?_
              refine mz_doQ (R := mz_r48) (as := [.ref 60, .int (nI S), .int ((nI (k * 4)) + 3), .int 1]) (rest := []) (r1 := some (.int 1)) (m1 := m) mz_t48 mz_v48_60 rfl rfl rfl rfl rfl ⟨?_, rfl⟩ ?_
              · refine mz_go 2 (c' := (2, [some (.ref 60), some (.int (nI S)), some (.int ((nI (k * 4)) + 3)), some (.int 1)], [.int (nI S), .ref 60], m)) rfl ?_
                refine mz_doQ (R := mz_r45) (as := [.ref 60, .int (nI S)]) (rest := []) (r1 := some (.int 1)) (m1 := m) mz_t45 mz_v45_60 rfl rfl rfl rfl rfl ⟨?_, rfl⟩ ?_
                · refine mz_go 2 (c' := (if (nI S) < 0 then 13 else 4, [some (.ref 60), some (.int (nI S))], [], m)) rfl ?_
                  refine mz_ifF (show ¬ ((nI S) < 0) from (sm_nltN rfl rfl (show 0 ≤ S by omega) (show S < 2 ^ 31 by omega))) ?_
                  refine mz_go 3 (c' := (if 4 ≤ (nI S) then 13 else 9, [some (.ref 60), some (.int (nI S))], [], m)) rfl ?_
                  refine mz_ifF (show ¬ (4 ≤ (nI S)) from (sm_nleN rfl rfl (show S < 4 by omega) (show 4 < 2 ^ 31 by omega))) ?_
                  refine mz_go 2 (c' := (14, [some (.ref 60), some (.int (nI S))], [.int 1], m)) rfl ?_
                  exact mz_ret rfl
                refine mz_go 5 (c' := (if ((nI (k * 4)) + 3) < 0 then 42 else 16, [some (.ref 60), some (.int (nI S)), some (.int ((nI (k * 4)) + 3)), some (.int 1)], [], m)) rfl ?_
                refine mz_ifF (show ¬ (((nI (k * 4)) + 3) < 0) from (sm_nltN (sm_addN rfl rfl) rfl (show 0 ≤ ((k * 4) + 3) by omega) (show ((k * 4) + 3) < 2 ^ 31 by omega))) ?_
                refine mz_go 4 (c' := (22, [some (.ref 60), some (.int (nI S)), some (.int ((nI (k * 4)) + 3)), some (.int 1)], [.int (nI S), .ref 62, .int 1], m)) rfl ?_
                refine mz_arr (c' := (23, [some (.ref 60), some (.int (nI S)), some (.int ((nI (k * 4)) + 3)), some (.int 1)], [.int (m 62 ((nI S).toNatClampNeg)), .int 1], m)) rfl (show mz_in (nI S) 4 = true from sm_inN rfl (show S < 4 by omega) (by decide)) ?_
                rw [show (nI S : Int32).toNatClampNeg = S from sm_clN rfl (show S < 2 ^ 31 by omega)]
                rw [e1]
                refine mz_go 1 (c' := (if (nI z) < 1 then 42 else 26, [some (.ref 60), some (.int (nI S)), some (.int ((nI (k * 4)) + 3)), some (.int 1)], [], m)) rfl ?_
                refine mz_ifF (show ¬ ((nI z) < 1) from (sm_nltN rfl rfl (show 1 ≤ z by omega) (show z < 2 ^ 31 by omega))) ?_
                refine mz_go 4 (c' := (32, [some (.ref 60), some (.int (nI S)), some (.int ((nI (k * 4)) + 3)), some (.int 1)], [.int (nI S), .ref 62, .int ((nI (k * 4)) + 3)], m)) rfl ?_
                refine mz_arr (c' := (33, [some (.ref 60), some (.int (nI S)), some (.int ((nI (k * 4)) + 3)), some (.int 1)], [.int (m 62 ((nI S).toNatClampNeg)), .int ((nI (k * 4)) + 3)], m)) rfl (show mz_in (nI S) 4 = true from sm_inN rfl (show S < 4 by omega) (by decide)) ?_
                rw [show (nI S : Int32).toNatClampNeg = S from sm_clN rfl (show S < 2 ^ 31 by omega)]
                rw [e1]
                refine mz_go 3 (c' := (if ((nI z) - 1) < ((nI (k * 4)) + 3) then 42 else 38, [some (.ref 60), some (.int (nI S)), some (.int ((nI (k * 4)) + 3)), some (.int 1)], [], m)) rfl ?_
                refine mz_ifF (show ¬ (((nI z) - 1) < ((nI (k * 4)) + 3)) from (sm_nltN (sm_subN (a := z) (b := 1) rfl rfl (by omega)) (sm_addN rfl rfl) (show ((k * 4) + 3) ≤ (z - 1) by omega) (show (z - 1) < 2 ^ 31 by omega))) ?_
                refine mz_go 2 (c' := (43, [some (.ref 60), some (.int (nI S)), some (.int ((nI (k * 4)) + 3)), some (.int 1)], [.int 1], m)) rfl ?_
                exact mz_ret rfl
              refine mz_go 8 (c' := (20, [some (.ref 60), some (.int (nI S)), some (.int ((nI (k * 4)) + 3))], [.int (((nI S) * 24) + ((nI (k * 4)) + 3)), .ref 63], m)) rfl ?_
              refine mz_arr (c' := (21, [some (.ref 60), some (.int (nI S)), some (.int ((nI (k * 4)) + 3))], [.int (m 63 ((((nI S) * 24) + ((nI (k * 4)) + 3)).toNatClampNeg))], m)) rfl (show mz_in (((nI S) * 24) + ((nI (k * 4)) + 3)) 96 = true from sm_inN (sm_addN (sm_mulN rfl rfl) (sm_addN rfl rfl)) (show ((S * 24) + ((k * 4) + 3)) < 96 by omega) (by decide)) ?_
              rw [show (((nI S) * 24) + ((nI (k * 4)) + 3) : Int32).toNatClampNeg = ((S * 24) + ((k * 4) + 3)) from sm_clN (sm_addN (sm_mulN rfl rfl) (sm_addN rfl rfl)) (show ((S * 24) + ((k * 4) + 3)) < 2 ^ 31 by omega)]
              rw [show m 63 ((S * 24) + ((k * 4) + 3)) = m 63 (24 * S + 4 * k + 3) from by rw [show ((S * 24) + ((k * 4) + 3)) = 24 * S + 4 * k + 3 by omega]]
              refine mz_go 1 (c' := (25, [some (.ref 60), some (.int (nI S)), some (.int ((nI (k * 4)) + 3))], [.int (m 63 (24 * S + 4 * k + 3))], m)) rfl ?_
              exact mz_ret rfl
            refine mz_go 5 (c' := (84, [some (.ref 0), some (.int (nI S)), some (.int (nI (k * 4))), some (.int (m 63 (24 * S + 4 * k))), some (.int (m 63 (24 * S + 4 * k + 1))), some (.int (m 63 (24 * S + 4 * k + 2))), some (.int (m 63 (24 * S + 4 * k + 3)))], [.int (m 63 (24 * S + 4 * k + 3)), .int (m 63 (24 * S + 4 * k + 2)), .int (m 63 (24 * S + 4 * k + 1)), .int (m 63 (24 * S + 4 * k))], m)) rfl ?_
            refine mz_doQ (R := mz_r113) (as := [.int (m 63 (24 * S + 4 * k)), .int (m 63 (24 * S + 4 * k + 1)), .int (m 63 (24 * S + 4 * k + 2)), .int (m 63 (24 * S + 4 * k + 3))]) (rest := []) (r1 := some (.int 0)) (m1 := m) mz_t113 mz_v113 rfl rfl rfl rfl rfl ⟨?_, rfl⟩ ?_
            · refine mz_go 1 (c' := (1, [some (.int (m 63 (24 * S + 4 * k))), some (.int (m 63 (24 * S + 4 * k + 1))), some (.int (m 63 (24 * S + 4 * k + 2))), some (.int (m 63 (24 * S + 4 * k + 3)))], [.int (m 63 (24 * S + 4 * k))], m)) rfl ?_
              refine mz_doQ (R := mz_r114) (as := [.int (m 63 (24 * S + 4 * k))]) (rest := []) (r1 := some (.int 1)) (m1 := m) mz_t114 mz_v114 rfl rfl rfl rfl rfl ⟨?_, rfl⟩ ?_
              · refine mz_go 3 (c' := (4, [some (.int (m 63 (24 * S + 4 * k)))], [.int 6, .int 0, .int (m 63 (24 * S + 4 * k))], m)) rfl ?_
                refine mz_doQ (R := mz_r121) (as := [.int (m 63 (24 * S + 4 * k)), .int 0, .int 6]) (rest := []) (r1 := some (.int 1)) (m1 := m) mz_t121 mz_v121 rfl rfl rfl rfl rfl ((cs_in1 (m := m) (v := m 63 (24 * S + 4 * k)) (a := 0) (b := 6) (show ¬ ((m 63 (24 * S + 4 * k)) < 0) from (sm_in_lo q4)) (show ¬ (6 < (m 63 (24 * S + 4 * k))) from (sm_in_hi q4))).deep (by decide)) ?_
                exact mz_ret rfl
              refine mz_go 3 (c' := (9, [some (.int (m 63 (24 * S + 4 * k))), some (.int (m 63 (24 * S + 4 * k + 1))), some (.int (m 63 (24 * S + 4 * k + 2))), some (.int (m 63 (24 * S + 4 * k + 3)))], [.int (m 63 (24 * S + 4 * k + 2)), .int (m 63 (24 * S + 4 * k + 1))], m)) rfl ?_
              refine mz_doQ (R := mz_r116) (as := [.int (m 63 (24 * S + 4 * k + 1)), .int (m 63 (24 * S + 4 * k + 2))]) (rest := []) (r1 := some (.int (sm_bI (sm_plc (m 63 (24 * S + 4 * k + 1)) (m 63 (24 * S + 4 * k + 2)))))) (m1 := m) mz_t116 mz_v116 rfl rfl rfl rfl rfl ((cs_plc (m := m) (m 63 (24 * S + 4 * k + 1)) (m 63 (24 * S + 4 * k + 2))).deep (by decide)) ?_
              refine mz_go 1 (c' := (if (sm_bI (sm_plc (m 63 (24 * S + 4 * k + 1)) (m 63 (24 * S + 4 * k + 2)))) = 0 then 29 else 15, [some (.int (m 63 (24 * S + 4 * k))), some (.int (m 63 (24 * S + 4 * k + 1))), some (.int (m 63 (24 * S + 4 * k + 2))), some (.int (m 63 (24 * S + 4 * k + 3)))], [], m)) rfl ?_
              refine mz_ifT q5 ?_
              refine mz_go 1 (c' := (30, [some (.int (m 63 (24 * S + 4 * k))), some (.int (m 63 (24 * S + 4 * k + 1))), some (.int (m 63 (24 * S + 4 * k + 2))), some (.int (m 63 (24 * S + 4 * k + 3)))], [.int 0], m)) rfl ?_
              exact mz_ret rfl
            refine mz_go 2 (c' := (91, [some (.ref 0), some (.int (nI S)), some (.int (nI (k * 4))), some (.int (m 63 (24 * S + 4 * k))), some (.int (m 63 (24 * S + 4 * k + 1))), some (.int (m 63 (24 * S + 4 * k + 2))), some (.int (m 63 (24 * S + 4 * k + 3)))], [.int 0], m)) rfl ?_
            exact mz_ret rfl
          · by_cases q6 : (sm_bI (sm_in (m 63 (24 * S + 4 * k + 3)) 0 99)) = 0
            · refine ⟨?_, rfl⟩
              refine mz_go 3 (c' := (7, [some (.ref 0), some (.int (nI S)), some (.int (nI (k * 4))), none, none, none, none], [.ref 2], m)) rfl ?_
              refine mz_doQ (R := mz_r22) (as := [.ref 2]) (rest := []) (r1 := some (.int 0)) (m1 := m) mz_t22 mz_v22_2 rfl rfl rfl rfl rfl ⟨?_, rfl⟩ ?_
              · refine mz_go 2 (c' := (4, [some (.ref 2)], [.int (m 2 4)], m)) rfl ?_
                rw [h4]
                refine mz_go 2 (c' := (if (nI C) < 6 then 13 else 9, [some (.ref 2)], [], m)) rfl ?_
                refine mz_ifT (show ((nI C) < 6) from (sm_ltN rfl rfl (show C < 6 by omega) (show 6 < 2 ^ 31 by omega))) ?_
                refine mz_go 1 (c' := (14, [some (.ref 2)], [.int 0], m)) rfl ?_
                exact mz_ret rfl
              refine mz_go 6 (c' := (20, [some (.ref 0), some (.int (nI S)), some (.int (nI (k * 4))), none, none, none, none], [.int 4, .int (nI (k * 4)), .int (nI S), .ref 60], m)) rfl ?_
              refine mz_doQ (R := mz_r48) (as := [.ref 60, .int (nI S), .int (nI (k * 4)), .int 4]) (rest := []) (r1 := some (.int 1)) (m1 := m) mz_t48 mz_v48_60 rfl rfl rfl rfl rfl ⟨?_, rfl⟩ ?_
              · refine mz_go 2 (c' := (2, [some (.ref 60), some (.int (nI S)), some (.int (nI (k * 4))), some (.int 4)], [.int (nI S), .ref 60], m)) rfl ?_
                refine mz_doQ (R := mz_r45) (as := [.ref 60, .int (nI S)]) (rest := []) (r1 := some (.int 1)) (m1 := m) mz_t45 mz_v45_60 rfl rfl rfl rfl rfl ⟨?_, rfl⟩ ?_
                · refine mz_go 2 (c' := (if (nI S) < 0 then 13 else 4, [some (.ref 60), some (.int (nI S))], [], m)) rfl ?_
                  refine mz_ifF (show ¬ ((nI S) < 0) from (sm_nltN rfl rfl (show 0 ≤ S by omega) (show S < 2 ^ 31 by omega))) ?_
                  refine mz_go 3 (c' := (if 4 ≤ (nI S) then 13 else 9, [some (.ref 60), some (.int (nI S))], [], m)) rfl ?_
                  refine mz_ifF (show ¬ (4 ≤ (nI S)) from (sm_nleN rfl rfl (show S < 4 by omega) (show 4 < 2 ^ 31 by omega))) ?_
                  refine mz_go 2 (c' := (14, [some (.ref 60), some (.int (nI S))], [.int 1], m)) rfl ?_
                  exact mz_ret rfl
                refine mz_go 5 (c' := (if (nI (k * 4)) < 0 then 42 else 16, [some (.ref 60), some (.int (nI S)), some (.int (nI (k * 4))), some (.int 4)], [], m)) rfl ?_
                refine mz_ifF (show ¬ ((nI (k * 4)) < 0) from (sm_nltN rfl rfl (show 0 ≤ (k * 4) by omega) (show (k * 4) < 2 ^ 31 by omega))) ?_
                refine mz_go 4 (c' := (22, [some (.ref 60), some (.int (nI S)), some (.int (nI (k * 4))), some (.int 4)], [.int (nI S), .ref 62, .int 4], m)) rfl ?_
                refine mz_arr (c' := (23, [some (.ref 60), some (.int (nI S)), some (.int (nI (k * 4))), some (.int 4)], [.int (m 62 ((nI S).toNatClampNeg)), .int 4], m)) rfl (show mz_in (nI S) 4 = true from sm_inN rfl (show S < 4 by omega) (by decide)) ?_
                rw [show (nI S : Int32).toNatClampNeg = S from sm_clN rfl (show S < 2 ^ 31 by omega)]
                rw [e1]
                refine mz_go 1 (c' := (if (nI z) < 4 then 42 else 26, [some (.ref 60), some (.int (nI S)), some (.int (nI (k * 4))), some (.int 4)], [], m)) rfl ?_
                refine mz_ifF (show ¬ ((nI z) < 4) from (sm_nltN rfl rfl (show 4 ≤ z by omega) (show z < 2 ^ 31 by omega))) ?_
                refine mz_go 4 (c' := (32, [some (.ref 60), some (.int (nI S)), some (.int (nI (k * 4))), some (.int 4)], [.int (nI S), .ref 62, .int (nI (k * 4))], m)) rfl ?_
                refine mz_arr (c' := (33, [some (.ref 60), some (.int (nI S)), some (.int (nI (k * 4))), some (.int 4)], [.int (m 62 ((nI S).toNatClampNeg)), .int (nI (k * 4))], m)) rfl (show mz_in (nI S) 4 = true from sm_inN rfl (show S < 4 by omega) (by decide)) ?_
                rw [show (nI S : Int32).toNatClampNeg = S from sm_clN rfl (show S < 2 ^ 31 by omega)]
                rw [e1]
                refine mz_go 3 (c' := (if ((nI z) - 4) < (nI (k * 4)) then 42 else 38, [some (.ref 60), some (.int (nI S)), some (.int (nI (k * 4))), some (.int 4)], [], m)) rfl ?_
                refine mz_ifF (show ¬ (((nI z) - 4) < (nI (k * 4))) from (sm_nltN (sm_subN (a := z) (b := 4) rfl rfl (by omega)) rfl (show (k * 4) ≤ (z - 4) by omega) (show (z - 4) < 2 ^ 31 by omega))) ?_
                refine mz_go 2 (c' := (43, [some (.ref 60), some (.int (nI S)), some (.int (nI (k * 4))), some (.int 4)], [.int 1], m)) rfl ?_
                exact mz_ret rfl
              refine mz_go 5 (c' := (34, [some (.ref 0), some (.int (nI S)), some (.int (nI (k * 4))), none, none, none, none], [.int (nI (k * 4)), .int (nI S), .ref 60], m)) rfl ?_
              refine mz_doQ (R := mz_r49) (as := [.ref 60, .int (nI S), .int (nI (k * 4))]) (rest := []) (r1 := some (.int (m 63 (24 * S + 4 * k)))) (m1 := m) mz_t49 mz_v49_60 rfl rfl rfl rfl rfl ⟨?_, rfl⟩ ?_
              · refine mz_go 4 (c' := (4, [some (.ref 60), some (.int (nI S)), some (.int (nI (k * 4)))], [.int 1, .int (nI (k * 4)), .int (nI S), .ref 60], m)) rfl ?_
                refine mz_doQ (R := mz_r48) (as := [.ref 60, .int (nI S), .int (nI (k * 4)), .int 1]) (rest := []) (r1 := some (.int 1)) (m1 := m) mz_t48 mz_v48_60 rfl rfl rfl rfl rfl ⟨?_, rfl⟩ ?_
                · refine mz_go 2 (c' := (2, [some (.ref 60), some (.int (nI S)), some (.int (nI (k * 4))), some (.int 1)], [.int (nI S), .ref 60], m)) rfl ?_
                  refine mz_doQ (R := mz_r45) (as := [.ref 60, .int (nI S)]) (rest := []) (r1 := some (.int 1)) (m1 := m) mz_t45 mz_v45_60 rfl rfl rfl rfl rfl ⟨?_, rfl⟩ ?_
                  · refine mz_go 2 (c' := (if (nI S) < 0 then 13 else 4, [some (.ref 60), some (.int (nI S))], [], m)) rfl ?_
                    refine mz_ifF (show ¬ ((nI S) < 0) from (sm_nltN rfl rfl (show 0 ≤ S by omega) (show S < 2 ^ 31 by omega))) ?_
                    refine mz_go 3 (c' := (if 4 ≤ (nI S) then 13 else 9, [some (.ref 60), some (.int (nI S))], [], m)) rfl ?_
                    refine mz_ifF (show ¬ (4 ≤ (nI S)) from (sm_nleN rfl rfl (show S < 4 by omega) (show 4 < 2 ^ 31 by omega))) ?_
                    refine mz_go 2 (c' := (14, [some (.ref 60), some (.int (nI S))], [.int 1], m)) rfl ?_
                    exact mz_ret rfl
                  refine mz_go 5 (c' := (if (nI (k * 4)) < 0 then 42 else 16, [some (.ref 60), some (.int (nI S)), some (.int (nI (k * 4))), some (.int 1)], [], m)) rfl ?_
                  refine mz_ifF (show ¬ ((nI (k * 4)) < 0) from (sm_nltN rfl rfl (show 0 ≤ (k * 4) by omega) (show (k * 4) < 2 ^ 31 by omega))) ?_
                  refine mz_go 4 (c' := (22, [some (.ref 60), some (.int (nI S)), some (.int (nI (k * 4))), some (.int 1)], [.int (nI S), .ref 62, .int 1], m)) rfl ?_
                  refine mz_arr (c' := (23, [some (.ref 60), some (.int (nI S)), some (.int (nI (k * 4))), some (.int 1)], [.int (m 62 ((nI S).toNatClampNeg)), .int 1], m)) rfl (show mz_in (nI S) 4 = true from sm_inN rfl (show S < 4 by omega) (by decide)) ?_
                  rw [show (nI S : Int32).toNatClampNeg = S from sm_clN rfl (show S < 2 ^ 31 by omega)]
                  rw [e1]
                  refine mz_go 1 (c' := (if (nI z) < 1 then 42 else 26, [some (.ref 60), some (.int (nI S)), some (.int (nI (k * 4))), some (.int 1)], [], m)) rfl ?_
                  refine mz_ifF (show ¬ ((nI z) < 1) from (sm_nltN rfl rfl (show 1 ≤ z by omega) (show z < 2 ^ 31 by omega))) ?_
                  refine mz_go 4 (c' := (32, [some (.ref 60), some (.int (nI S)), some (.int (nI (k * 4))), some (.int 1)], [.int (nI S), .ref 62, .int (nI (k * 4))], m)) rfl ?_
                  refine mz_arr (c' := (33, [some (.ref 60), some (.int (nI S)), some (.int (nI (k * 4))), some (.int 1)], [.int (m 62 ((nI S).toNatClampNeg)), .int (nI (k * 4))], m)) rfl (show mz_in (nI S) 4 = true from sm_inN rfl (show S < 4 by omega) (by decide)) ?_
                  rw [show (nI S : Int32).toNatClampNeg = S from sm_clN rfl (show S < 2 ^ 31 by omega)]
                  rw [e1]
                  refine mz_go 3 (c' := (if ((nI z) - 1) < (nI (k * 4)) then 42 else 38, [some (.ref 60), some (.int (nI S)), some (.int (nI (k * 4))), some (.int 1)], [], m)) rfl ?_
                  refine mz_ifF (show ¬ (((nI z) - 1) < (nI (k * 4))) from (sm_nltN (sm_subN (a := z) (b := 1) rfl rfl (by omega)) rfl (show (k * 4) ≤ (z - 1) by omega) (show (z - 1) < 2 ^ 31 by omega))) ?_
                  refine mz_go 2 (c' := (43, [some (.ref 60), some (.int (nI S)), some (.int (nI (k * 4))), some (.int 1)], [.int 1], m)) rfl ?_
                  exact mz_ret rfl
                refine mz_go 8 (c' := (20, [some (.ref 60), some (.int (nI S)), some (.int (nI (k * 4)))], [.int (((nI S) * 24) + (nI (k * 4))), .ref 63], m)) rfl ?_
                refine mz_arr (c' := (21, [some (.ref 60), some (.int (nI S)), some (.int (nI (k * 4)))], [.int (m 63 ((((nI S) * 24) + (nI (k * 4))).toNatClampNeg))], m)) rfl (show mz_in (((nI S) * 24) + (nI (k * 4))) 96 = true from sm_inN (sm_addN (sm_mulN rfl rfl) rfl) (show ((S * 24) + (k * 4)) < 96 by omega) (by decide)) ?_
                rw [show (((nI S) * 24) + (nI (k * 4)) : Int32).toNatClampNeg = ((S * 24) + (k * 4)) from sm_clN (sm_addN (sm_mulN rfl rfl) rfl) (show ((S * 24) + (k * 4)) < 2 ^ 31 by omega)]
                rw [show m 63 ((S * 24) + (k * 4)) = m 63 (24 * S + 4 * k) from by rw [show ((S * 24) + (k * 4)) = 24 * S + 4 * k by omega]]
                refine mz_go 1 (c' := (25, [some (.ref 60), some (.int (nI S)), some (.int (nI (k * 4)))], [.int (m 63 (24 * S + 4 * k))], m)) rfl ?_
                exact mz_ret rfl
              refine mz_go 7 (c' := (46, [some (.ref 0), some (.int (nI S)), some (.int (nI (k * 4))), some (.int (m 63 (24 * S + 4 * k))), none, none, none], [.int ((nI (k * 4)) + 1), .int (nI S), .ref 60], m)) rfl ?_
              refine mz_doQ (R := mz_r49) (as := [.ref 60, .int (nI S), .int ((nI (k * 4)) + 1)]) (rest := []) (r1 := some (.int (m 63 (24 * S + 4 * k + 1)))) (m1 := m) mz_t49 mz_v49_60 rfl rfl rfl rfl rfl ⟨?_, rfl⟩ ?_
              · refine mz_go 4 (c' := (4, [some (.ref 60), some (.int (nI S)), some (.int ((nI (k * 4)) + 1))], [.int 1, .int ((nI (k * 4)) + 1), .int (nI S), .ref 60], m)) rfl ?_
                refine mz_doQ (R := mz_r48) (as := [.ref 60, .int (nI S), .int ((nI (k * 4)) + 1), .int 1]) (rest := []) (r1 := some (.int 1)) (m1 := m) mz_t48 mz_v48_60 rfl rfl rfl rfl rfl ⟨?_, rfl⟩ ?_
                · refine mz_go 2 (c' := (2, [some (.ref 60), some (.int (nI S)), some (.int ((nI (k * 4)) + 1)), some (.int 1)], [.int (nI S), .ref 60], m)) rfl ?_
                  refine mz_doQ (R := mz_r45) (as := [.ref 60, .int (nI S)]) (rest := []) (r1 := some (.int 1)) (m1 := m) mz_t45 mz_v45_60 rfl rfl rfl rfl rfl ⟨?_, rfl⟩ ?_
                  · refine mz_go 2 (c' := (if (nI S) < 0 then 13 else 4, [some (.ref 60), some (.int (nI S))], [], m)) rfl ?_
                    refine mz_ifF (show ¬ ((nI S) < 0) from (sm_nltN rfl rfl (show 0 ≤ S by omega) (show S < 2 ^ 31 by omega))) ?_
                    refine mz_go 3 (c' := (if 4 ≤ (nI S) then 13 else 9, [some (.ref 60), some (.int (nI S))], [], m)) rfl ?_
                    refine mz_ifF (show ¬ (4 ≤ (nI S)) from (sm_nleN rfl rfl (show S < 4 by omega) (show 4 < 2 ^ 31 by omega))) ?_
                    refine mz_go 2 (c' := (14, [some (.ref 60), some (.int (nI S))], [.int 1], m)) rfl ?_
                    exact mz_ret rfl
                  refine mz_go 5 (c' := (if ((nI (k * 4)) + 1) < 0 then 42 else 16, [some (.ref 60), some (.int (nI S)), some (.int ((nI (k * 4)) + 1)), some (.int 1)], [], m)) rfl ?_
                  refine mz_ifF (show ¬ (((nI (k * 4)) + 1) < 0) from (sm_nltN (sm_addN rfl rfl) rfl (show 0 ≤ ((k * 4) + 1) by omega) (show ((k * 4) + 1) < 2 ^ 31 by omega))) ?_
                  refine mz_go 4 (c' := (22, [some (.ref 60), some (.int (nI S)), some (.int ((nI (k * 4)) + 1)), some (.int 1)], [.int (nI S), .ref 62, .int 1], m)) rfl ?_
                  refine mz_arr (c' := (23, [some (.ref 60), some (.int (nI S)), some (.int ((nI (k * 4)) + 1)), some (.int 1)], [.int (m 62 ((nI S).toNatClampNeg)), .int 1], m)) rfl (show mz_in (nI S) 4 = true from sm_inN rfl (show S < 4 by omega) (by decide)) ?_
                  rw [show (nI S : Int32).toNatClampNeg = S from sm_clN rfl (show S < 2 ^ 31 by omega)]
                  rw [e1]
                  refine mz_go 1 (c' := (if (nI z) < 1 then 42 else 26, [some (.ref 60), some (.int (nI S)), some (.int ((nI (k * 4)) + 1)), some (.int 1)], [], m)) rfl ?_
                  refine mz_ifF (show ¬ ((nI z) < 1) from (sm_nltN rfl rfl (show 1 ≤ z by omega) (show z < 2 ^ 31 by omega))) ?_
                  refine mz_go 4 (c' := (32, [some (.ref 60), some (.int (nI S)), some (.int ((nI (k * 4)) + 1)), some (.int 1)], [.int (nI S), .ref 62, .int ((nI (k * 4)) + 1)], m)) rfl ?_
                  refine mz_arr (c' := (33, [some (.ref 60), some (.int (nI S)), some (.int ((nI (k * 4)) + 1)), some (.int 1)], [.int (m 62 ((nI S).toNatClampNeg)), .int ((nI (k * 4)) + 1)], m)) rfl (show mz_in (nI S) 4 = true from sm_inN rfl (show S < 4 by omega) (by decide)) ?_
                  rw [show (nI S : Int32).toNatClampNeg = S from sm_clN rfl (show S < 2 ^ 31 by omega)]
                  rw [e1]
                  refine mz_go 3 (c' := (if ((nI z) - 1) < ((nI (k * 4)) + 1) then 42 else 38, [some (.ref 60), some (.int (nI S)), some (.int ((nI (k * 4)) + 1)), some (.int 1)], [], m)) rfl ?_
                  refine mz_ifF (show ¬ (((nI z) - 1) < ((nI (k * 4)) + 1)) from (sm_nltN (sm_subN (a := z) (b := 1) rfl rfl (by omega)) (sm_addN rfl rfl) (show ((k * 4) + 1) ≤ (z - 1) by omega) (show (z - 1) < 2 ^ 31 by omega))) ?_
                  refine mz_go 2 (c' := (43, [some (.ref 60), some (.int (nI S)), some (.int ((nI (k * 4)) + 1)), some (.int 1)], [.int 1], m)) rfl ?_
                  exact mz_ret rfl
                refine mz_go 8 (c' := (20, [some (.ref 60), some (.int (nI S)), some (.int ((nI (k * 4)) + 1))], [.int (((nI S) * 24) + ((nI (k * 4)) + 1)), .ref 63], m)) rfl ?_
                refine mz_arr (c' := (21, [some (.ref 60), some (.int (nI S)), some (.int ((nI (k * 4)) + 1))], [.int (m 63 ((((nI S) * 24) + ((nI (k * 4)) + 1)).toNatClampNeg))], m)) rfl (show mz_in (((nI S) * 24) + ((nI (k * 4)) + 1)) 96 = true from sm_inN (sm_addN (sm_mulN rfl rfl) (sm_addN rfl rfl)) (show ((S * 24) + ((k * 4) + 1)) < 96 by omega) (by decide)) ?_
                rw [show (((nI S) * 24) + ((nI (k * 4)) + 1) : Int32).toNatClampNeg = ((S * 24) + ((k * 4) + 1)) from sm_clN (sm_addN (sm_mulN rfl rfl) (sm_addN rfl rfl)) (show ((S * 24) + ((k * 4) + 1)) < 2 ^ 31 by omega)]
                rw [show m 63 ((S * 24) + ((k * 4) + 1)) = m 63 (24 * S + 4 * k + 1) from by rw [show ((S * 24) + ((k * 4) + 1)) = 24 * S + 4 * k + 1 by omega]]
                refine mz_go 1 (c' := (25, [some (.ref 60), some (.int (nI S)), some (.int ((nI (k * 4)) + 1))], [.int (m 63 (24 * S + 4 * k + 1))], m)) rfl ?_
                exact mz_ret rfl
              refine mz_go 7 (c' := (59, [some (.ref 0), some (.int (nI S)), some (.int (nI (k * 4))), some (.int (m 63 (24 * S + 4 * k))), some (.int (m 63 (24 * S + 4 * k + 1))), none, none], [.int ((nI (k * 4)) + 2), .int (nI S), .ref 60], m)) rfl ?_
              refine mz_doQ (R := mz_r49) (as := [.ref 60, .int (nI S), .int ((nI (k * 4)) + 2)]) (rest := []) (r1 := some (.int (m 63 (24 * S + 4 * k + 2)))) (m1 := m) mz_t49 mz_v49_60 rfl rfl rfl rfl rfl ⟨?_, rfl⟩ ?_
              · refine mz_go 4 (c' := (4, [some (.ref 60), some (.int (nI S)), some (.int ((nI (k * 4)) + 2))], [.int 1, .int ((nI (k * 4)) + 2), .int (nI S), .ref 60], m)) rfl ?_
                refine mz_doQ (R := mz_r48) (as := [.ref 60, .int (nI S), .int ((nI (k * 4)) + 2), .int 1]) (rest := []) (r1 := some (.int 1)) (m1 := m) mz_t48 mz_v48_60 rfl rfl rfl rfl rfl ⟨?_, rfl⟩ ?_
                · refine mz_go 2 (c' := (2, [some (.ref 60), some (.int (nI S)), some (.int ((nI (k * 4)) + 2)), some (.int 1)], [.int (nI S), .ref 60], m)) rfl ?_
                  refine mz_doQ (R := mz_r45) (as := [.ref 60, .int (nI S)]) (rest := []) (r1 := some (.int 1)) (m1 := m) mz_t45 mz_v45_60 rfl rfl rfl rfl rfl ⟨?_, rfl⟩ ?_
                  · refine mz_go 2 (c' := (if (nI S) < 0 then 13 else 4, [some (.ref 60), some (.int (nI S))], [], m)) rfl ?_
                    refine mz_ifF (show ¬ ((nI S) < 0) from (sm_nltN rfl rfl (show 0 ≤ S by omega) (show S < 2 ^ 31 by omega))) ?_
                    refine mz_go 3 (c' := (if 4 ≤ (nI S) then 13 else 9, [some (.ref 60), some (.int (nI S))], [], m)) rfl ?_
                    refine mz_ifF (show ¬ (4 ≤ (nI S)) from (sm_nleN rfl rfl (show S < 4 by omega) (show 4 < 2 ^ 31 by omega))) ?_
                    refine mz_go 2 (c' := (14, [some (.ref 60), some (.int (nI S))], [.int 1], m)) rfl ?_
                    exact mz_ret rfl
                  refine mz_go 5 (c' := (if ((nI (k * 4)) + 2) < 0 then 42 else 16, [some (.ref 60), some (.int (nI S)), some (.int ((nI (k * 4)) + 2)), some (.int 1)], [], m)) rfl ?_
                  refine mz_ifF (show ¬ (((nI (k * 4)) + 2) < 0) from (sm_nltN (sm_addN rfl rfl) rfl (show 0 ≤ ((k * 4) + 2) by omega) (show ((k * 4) + 2) < 2 ^ 31 by omega))) ?_
                  refine mz_go 4 (c' := (22, [some (.ref 60), some (.int (nI S)), some (.int ((nI (k * 4)) + 2)), some (.int 1)], [.int (nI S), .ref 62, .int 1], m)) rfl ?_
                  refine mz_arr (c' := (23, [some (.ref 60), some (.int (nI S)), some (.int ((nI (k * 4)) + 2)), some (.int 1)], [.int (m 62 ((nI S).toNatClampNeg)), .int 1], m)) rfl (show mz_in (nI S) 4 = true from sm_inN rfl (show S < 4 by omega) (by decide)) ?_
                  rw [show (nI S : Int32).toNatClampNeg = S from sm_clN rfl (show S < 2 ^ 31 by omega)]
                  rw [e1]
                  refine mz_go 1 (c' := (if (nI z) < 1 then 42 else 26, [some (.ref 60), some (.int (nI S)), some (.int ((nI (k * 4)) + 2)), some (.int 1)], [], m)) rfl ?_
                  refine mz_ifF (show ¬ ((nI z) < 1) from (sm_nltN rfl rfl (show 1 ≤ z by omega) (show z < 2 ^ 31 by omega))) ?_
                  refine mz_go 4 (c' := (32, [some (.ref 60), some (.int (nI S)), some (.int ((nI (k * 4)) + 2)), some (.int 1)], [.int (nI S), .ref 62, .int ((nI (k * 4)) + 2)], m)) rfl ?_
                  refine mz_arr (c' := (33, [some (.ref 60), some (.int (nI S)), some (.int ((nI (k * 4)) + 2)), some (.int 1)], [.int (m 62 ((nI S).toNatClampNeg)), .int ((nI (k * 4)) + 2)], m)) rfl (show mz_in (nI S) 4 = true from sm_inN rfl (show S < 4 by omega) (by decide)) ?_
                  rw [show (nI S : Int32).toNatClampNeg = S from sm_clN rfl (show S < 2 ^ 31 by omega)]
                  rw [e1]
                  refine mz_go 3 (c' := (if ((nI z) - 1) < ((nI (k * 4)) + 2) then 42 else 38, [some (.ref 60), some (.int (nI S)), some (.int ((nI (k * 4)) + 2)), some (.int 1)], [], m)) rfl ?_
                  refine mz_ifF (show ¬ (((nI z) - 1) < ((nI (k * 4)) + 2)) from (sm_nltN (sm_subN (a := z) (b := 1) rfl rfl (by omega)) (sm_addN rfl rfl) (show ((k * 4) + 2) ≤ (z - 1) by omega) (show (z - 1) < 2 ^ 31 by omega))) ?_
                  refine mz_go 2 (c' := (43, [some (.ref 60), some (.int (nI S)), some (.int ((nI (k * 4)) + 2)), some (.int 1)], [.int 1], m)) rfl ?_
                  exact mz_ret rfl
                refine mz_go 8 (c' := (20, [some (.ref 60), some (.int (nI S)), some (.int ((nI (k * 4)) + 2))], [.int (((nI S) * 24) + ((nI (k * 4)) + 2)), .ref 63], m)) rfl ?_
                refine mz_arr (c' := (21, [some (.ref 60), some (.int (nI S)), some (.int ((nI (k * 4)) + 2))], [.int (m 63 ((((nI S) * 24) + ((nI (k * 4)) + 2)).toNatClampNeg))], m)) rfl (show mz_in (((nI S) * 24) + ((nI (k * 4)) + 2)) 96 = true from sm_inN (sm_addN (sm_mulN rfl rfl) (sm_addN rfl rfl)) (show ((S * 24) + ((k * 4) + 2)) < 96 by omega) (by decide)) ?_
                rw [show (((nI S) * 24) + ((nI (k * 4)) + 2) : Int32).toNatClampNeg = ((S * 24) + ((k * 4) + 2)) from sm_clN (sm_addN (sm_mulN rfl rfl) (sm_addN rfl rfl)) (show ((S * 24) + ((k * 4) + 2)) < 2 ^ 31 by omega)]
                rw [show m 63 ((S * 24) + ((k * 4) + 2)) = m 63 (24 * S + 4 * k + 2) from by rw [show ((S * 24) + ((k * 4) + 2)) = 24 * S + 4 * k + 2 by omega]]
                refine mz_go 1 (c' := (25, [some (.ref 60), some (.int (nI S)), some (.int ((nI (k * 4)) + 2))], [.int (m 63 (24 * S + 4 * k + 2))], m)) rfl ?_
                exact mz_ret rfl
              refine mz_go 7 (c' := (72, [some (.ref 0), some (.int (nI S)), some (.int (nI (k * 4))), some (.int (m 63 (24 * S + 4 * k))), some (.int (m 63 (24 * S + 4 * k + 1))), some (.int (m 63 (24 * S + 4 * k + 2))), none], [.int ((nI (k * 4)) + 3), .int (nI S), .ref 60], m)) rfl ?_
              refine mz_doQ (R := mz_r49) (as := [.ref 60, .int (nI S), .int ((nI (k * 4)) + 3)]) (rest := []) (r1 := some (.int (m 63 (24 * S + 4 * k + 3)))) (m1 := m) mz_t49 mz_v49_60 rfl rfl rfl rfl rfl ⟨?_, rfl⟩ ?_
              · refine mz_go 4 (c' := (4, [some (.ref 60), some (.int (nI S)), some (.int ((nI (k * 4)) + 3))], [.int 1, .int ((nI (k * 4)) + 3), .int (nI S), .ref 60], m)) rfl ?_
                refine mz_doQ (R := mz_r48) (as := [.ref 60, .int (nI S), .int ((nI (k * 4)) + 3), .int 1]) (rest := []) (r1 := some (.int 1)) (m1 := m) mz_t48 mz_v48_60 rfl rfl rfl rfl rfl ⟨?_, rfl⟩ ?_
                · refine mz_go 2 (c' := (2, [some (.ref 60), some (.int (nI S)), some (.int ((nI (k * 4)) + 3)), some (.int 1)], [.int (nI S), .ref 60], m)) rfl ?_
                  refine mz_doQ (R := mz_r45) (as := [.ref 60, .int (nI S)]) (rest := []) (r1 := some (.int 1)) (m1 := m) mz_t45 mz_v45_60 rfl rfl rfl rfl rfl ⟨?_, rfl⟩ ?_
                  · refine mz_go 2 (c' := (if (nI S) < 0 then 13 else 4, [some (.ref 60), some (.int (nI S))], [], m)) rfl ?_
                    refine mz_ifF (show ¬ ((nI S) < 0) from (sm_nltN rfl rfl (show 0 ≤ S by omega) (show S < 2 ^ 31 by omega))) ?_
                    refine mz_go 3 (c' := (if 4 ≤ (nI S) then 13 else 9, [some (.ref 60), some (.int (nI S))], [], m)) rfl ?_
                    refine mz_ifF (show ¬ (4 ≤ (nI S)) from (sm_nleN rfl rfl (show S < 4 by omega) (show 4 < 2 ^ 31 by omega))) ?_
                    refine mz_go 2 (c' := (14, [some (.ref 60), some (.int (nI S))], [.int 1], m)) rfl ?_
                    exact mz_ret rfl
                  refine mz_go 5 (c' := (if ((nI (k * 4)) + 3) < 0 then 42 else 16, [some (.ref 60), some (.int (nI S)), some (.int ((nI (k * 4)) + 3)), some (.int 1)], [], m)) rfl ?_
                  refine mz_ifF (show ¬ (((nI (k * 4)) + 3) < 0) from (sm_nltN (sm_addN rfl rfl) rfl (show 0 ≤ ((k * 4) + 3) by omega) (show ((k * 4) + 3) < 2 ^ 31 by omega))) ?_
                  refine mz_go 4 (c' := (22, [some (.ref 60), some (.int (nI S)), some (.int ((nI (k * 4)) + 3)), some (.int 1)], [.int (nI S), .ref 62, .int 1], m)) rfl ?_
                  refine mz_arr (c' := (23, [some (.ref 60), some (.int (nI S)), some (.int ((nI (k * 4)) + 3)), some (.int 1)], [.int (m 62 ((nI S).toNatClampNeg)), .int 1], m)) rfl (show mz_in (nI S) 4 = true from sm_inN rfl (show S < 4 by omega) (by decide)) ?_
                  rw [show (nI S : Int32).toNatClampNeg = S from sm_clN rfl (show S < 2 ^ 31 by omega)]
                  rw [e1]
                  refine mz_go 1 (c' := (if (nI z) < 1 then 42 else 26, [some (.ref 60), some (.int (nI S)), some (.int ((nI (k * 4)) + 3)), some (.int 1)], [], m)) rfl ?_
                  refine mz_ifF (show ¬ ((nI z) < 1) from (sm_nltN rfl rfl (show 1 ≤ z by omega) (show z < 2 ^ 31 by omega))) ?_
                  refine mz_go 4 (c' := (32, [some (.ref 60), some (.int (nI S)), some (.int ((nI (k * 4)) + 3)), some (.int 1)], [.int (nI S), .ref 62, .int ((nI (k * 4)) + 3)], m)) rfl ?_
                  refine mz_arr (c' := (33, [some (.ref 60), some (.int (nI S)), some (.int ((nI (k * 4)) + 3)), some (.int 1)], [.int (m 62 ((nI S).toNatClampNeg)), .int ((nI (k * 4)) + 3)], m)) rfl (show mz_in (nI S) 4 = true from sm_inN rfl (show S < 4 by omega) (by decide)) ?_
                  rw [show (nI S : Int32).toNatClampNeg = S from sm_clN rfl (show S < 2 ^ 31 by omega)]
                  rw [e1]
                  refine mz_go 3 (c' := (if ((nI z) - 1) < ((nI (k * 4)) + 3) then 42 else 38, [some (.ref 60), some (.int (nI S)), some (.int ((nI (k * 4)) + 3)), some (.int 1)], [], m)) rfl ?_
                  refine mz_ifF (show ¬ (((nI z) - 1) < ((nI (k * 4)) + 3)) from (sm_nltN (sm_subN (a := z) (b := 1) rfl rfl (by omega)) (sm_addN rfl rfl) (show ((k * 4) + 3) ≤ (z - 1) by omega) (show (z - 1) < 2 ^ 31 by omega))) ?_
                  refine mz_go 2 (c' := (43, [some (.ref 60), some (.int (nI S)), some (.int ((nI (k * 4)) + 3)), some (.int 1)], [.int 1], m)) rfl ?_
                  exact mz_ret rfl
                refine mz_go 8 (c' := (20, [some (.ref 60), some (.int (nI S)), some (.int ((nI (k * 4)) + 3))], [.int (((nI S) * 24) + ((nI (k * 4)) + 3)), .ref 63], m)) rfl ?_
                refine mz_arr (c' := (21, [some (.ref 60), some (.int (nI S)), some (.int ((nI (k * 4)) + 3))], [.int (m 63 ((((nI S) * 24) + ((nI (k * 4)) + 3)).toNatClampNeg))], m)) rfl (show mz_in (((nI S) * 24) + ((nI (k * 4)) + 3)) 96 = true from sm_inN (sm_addN (sm_mulN rfl rfl) (sm_addN rfl rfl)) (show ((S * 24) + ((k * 4) + 3)) < 96 by omega) (by decide)) ?_
                rw [show (((nI S) * 24) + ((nI (k * 4)) + 3) : Int32).toNatClampNeg = ((S * 24) + ((k * 4) + 3)) from sm_clN (sm_addN (sm_mulN rfl rfl) (sm_addN rfl rfl)) (show ((S * 24) + ((k * 4) + 3)) < 2 ^ 31 by omega)]
                rw [show m 63 ((S * 24) + ((k * 4) + 3)) = m 63 (24 * S + 4 * k + 3) from by rw [show ((S * 24) + ((k * 4) + 3)) = 24 * S + 4 * k + 3 by omega]]
                refine mz_go 1 (c' := (25, [some (.ref 60), some (.int (nI S)), some (.int ((nI (k * 4)) + 3))], [.int (m 63 (24 * S + 4 * k + 3))], m)) rfl ?_
                exact mz_ret rfl
              refine mz_go 5 (c' := (84, [some (.ref 0), some (.int (nI S)), some (.int (nI (k * 4))), some (.int (m 63 (24 * S + 4 * k))), some (.int (m 63 (24 * S + 4 * k + 1))), some (.int (m 63 (24 * S + 4 * k + 2))), some (.int (m 63 (24 * S + 4 * k + 3)))], [.int (m 63 (24 * S + 4 * k + 3)), .int (m 63 (24 * S + 4 * k + 2)), .int (m 63 (24 * S + 4 * k + 1)), .int (m 63 (24 * S + 4 * k))], m)) rfl ?_
              refine mz_doQ (R := mz_r113) (as := [.int (m 63 (24 * S + 4 * k)), .int (m 63 (24 * S + 4 * k + 1)), .int (m 63 (24 * S + 4 * k + 2)), .int (m 63 (24 * S + 4 * k + 3))]) (rest := []) (r1 := some (.int 0)) (m1 := m) mz_t113 mz_v113 rfl rfl rfl rfl rfl ⟨?_, rfl⟩ ?_
              · refine mz_go 1 (c' := (1, [some (.int (m 63 (24 * S + 4 * k))), some (.int (m 63 (24 * S + 4 * k + 1))), some (.int (m 63 (24 * S + 4 * k + 2))), some (.int (m 63 (24 * S + 4 * k + 3)))], [.int (m 63 (24 * S + 4 * k))], m)) rfl ?_
                refine mz_doQ (R := mz_r114) (as := [.int (m 63 (24 * S + 4 * k))]) (rest := []) (r1 := some (.int 1)) (m1 := m) mz_t114 mz_v114 rfl rfl rfl rfl rfl ⟨?_, rfl⟩ ?_
                · refine mz_go 3 (c' := (4, [some (.int (m 63 (24 * S + 4 * k)))], [.int 6, .int 0, .int (m 63 (24 * S + 4 * k))], m)) rfl ?_
                  refine mz_doQ (R := mz_r121) (as := [.int (m 63 (24 * S + 4 * k)), .int 0, .int 6]) (rest := []) (r1 := some (.int 1)) (m1 := m) mz_t121 mz_v121 rfl rfl rfl rfl rfl ((cs_in1 (m := m) (v := m 63 (24 * S + 4 * k)) (a := 0) (b := 6) (show ¬ ((m 63 (24 * S + 4 * k)) < 0) from (sm_in_lo q4)) (show ¬ (6 < (m 63 (24 * S + 4 * k))) from (sm_in_hi q4))).deep (by decide)) ?_
                  exact mz_ret rfl
                refine mz_go 3 (c' := (9, [some (.int (m 63 (24 * S + 4 * k))), some (.int (m 63 (24 * S + 4 * k + 1))), some (.int (m 63 (24 * S + 4 * k + 2))), some (.int (m 63 (24 * S + 4 * k + 3)))], [.int (m 63 (24 * S + 4 * k + 2)), .int (m 63 (24 * S + 4 * k + 1))], m)) rfl ?_
                refine mz_doQ (R := mz_r116) (as := [.int (m 63 (24 * S + 4 * k + 1)), .int (m 63 (24 * S + 4 * k + 2))]) (rest := []) (r1 := some (.int 1)) (m1 := m) mz_t116 mz_v116 rfl rfl rfl rfl rfl ⟨?_, rfl⟩ ?_
                · refine mz_go 3 (c' := (5, [some (.int (m 63 (24 * S + 4 * k + 1))), some (.int (m 63 (24 * S + 4 * k + 2)))], [.int 100, .int (-100), .int (m 63 (24 * S + 4 * k + 1))], m)) rfl ?_
                  refine mz_doQ (R := mz_r121) (as := [.int (m 63 (24 * S + 4 * k + 1)), .int (-100), .int 100]) (rest := []) (r1 := some (.int 1)) (m1 := m) mz_t121 mz_v121 rfl rfl rfl rfl rfl ((cs_in1 (m := m) (v := m 63 (24 * S + 4 * k + 1)) (a := (-100)) (b := 100) (show ¬ ((m 63 (24 * S + 4 * k + 1)) < (-100)) from (sm_plc_of q5).1.1) (show ¬ (100 < (m 63 (24 * S + 4 * k + 1))) from (sm_plc_of q5).1.2)).deep (by decide)) ?_
                  refine mz_go 4 (c' := (16, [some (.int (m 63 (24 * S + 4 * k + 1))), some (.int (m 63 (24 * S + 4 * k + 2)))], [.int 100, .int (-100), .int (m 63 (24 * S + 4 * k + 2))], m)) rfl ?_
                  refine mz_doQ (R := mz_r121) (as := [.int (m 63 (24 * S + 4 * k + 2)), .int (-100), .int 100]) (rest := []) (r1 := some (.int 1)) (m1 := m) mz_t121 mz_v121 rfl rfl rfl rfl rfl ((cs_in1 (m := m) (v := m 63 (24 * S + 4 * k + 2)) (a := (-100)) (b := 100) (show ¬ ((m 63 (24 * S + 4 * k + 2)) < (-100)) from (sm_plc_of q5).2.1) (show ¬ (100 < (m 63 (24 * S + 4 * k + 2))) from (sm_plc_of q5).2.2)).deep (by decide)) ?_
                  refine mz_go 3 (c' := (27, [some (.int (m 63 (24 * S + 4 * k + 1))), some (.int (m 63 (24 * S + 4 * k + 2)))], [.int 1], m)) rfl ?_
                  exact mz_ret rfl
                refine mz_go 4 (c' := (19, [some (.int (m 63 (24 * S + 4 * k))), some (.int (m 63 (24 * S + 4 * k + 1))), some (.int (m 63 (24 * S + 4 * k + 2))), some (.int (m 63 (24 * S + 4 * k + 3)))], [.int 99, .int 0, .int (m 63 (24 * S + 4 * k + 3))], m)) rfl ?_
                refine mz_doQ (R := mz_r121) (as := [.int (m 63 (24 * S + 4 * k + 3)), .int 0, .int 99]) (rest := []) (r1 := some (.int (sm_bI (sm_in (m 63 (24 * S + 4 * k + 3)) 0 99)))) (m1 := m) mz_t121 mz_v121 rfl rfl rfl rfl rfl ((cs_in (m := m) (m 63 (24 * S + 4 * k + 3)) 0 99).deep (by decide)) ?_
                refine mz_go 1 (c' := (if (sm_bI (sm_in (m 63 (24 * S + 4 * k + 3)) 0 99)) = 0 then 29 else 25, [some (.int (m 63 (24 * S + 4 * k))), some (.int (m 63 (24 * S + 4 * k + 1))), some (.int (m 63 (24 * S + 4 * k + 2))), some (.int (m 63 (24 * S + 4 * k + 3)))], [], m)) rfl ?_
                refine mz_ifT q6 ?_
                refine mz_go 1 (c' := (30, [some (.int (m 63 (24 * S + 4 * k))), some (.int (m 63 (24 * S + 4 * k + 1))), some (.int (m 63 (24 * S + 4 * k + 2))), some (.int (m 63 (24 * S + 4 * k + 3)))], [.int 0], m)) rfl ?_
                exact mz_ret rfl
              refine mz_go 2 (c' := (91, [some (.ref 0), some (.int (nI S)), some (.int (nI (k * 4))), some (.int (m 63 (24 * S + 4 * k))), some (.int (m 63 (24 * S + 4 * k + 1))), some (.int (m 63 (24 * S + 4 * k + 2))), some (.int (m 63 (24 * S + 4 * k + 3)))], [.int 0], m)) rfl ?_
              exact mz_ret rfl
            · exact absurd ⟨by omega, by omega, ⟨⟨(sm_in_lo q4), (sm_in_hi q4)⟩, ⟨(sm_plc_of q5).1.1, (sm_plc_of q5).1.2⟩, ⟨(sm_plc_of q5).2.1, (sm_plc_of q5).2.2⟩, (sm_in_lo q6), (sm_in_hi q6)⟩⟩ hg
  · refine ⟨?_, rfl⟩
    refine mz_go 3 (c' := (7, [some (.ref 0), some (.int (nI S)), some (.int (nI (k * 4))), none, none, none, none], [.ref 2], m)) rfl ?_
    refine mz_doQ (R := mz_r22) (as := [.ref 2]) (rest := []) (r1 := some (.int 1)) (m1 := m) mz_t22 mz_v22_2 rfl rfl rfl rfl rfl ⟨?_, rfl⟩ ?_
    · refine mz_go 2 (c' := (4, [some (.ref 2)], [.int (m 2 4)], m)) rfl ?_
      rw [h4]
      refine mz_go 2 (c' := (if (nI C) < 6 then 13 else 9, [some (.ref 2)], [], m)) rfl ?_
      refine mz_ifF (show ¬ ((nI C) < 6) from (sm_nltN rfl rfl (show 6 ≤ C by omega) (show C < 2 ^ 31 by omega))) ?_
      refine mz_go 2 (c' := (14, [some (.ref 2)], [.int 1], m)) rfl ?_
      exact mz_ret rfl
    refine mz_go 2 (c' := (27, [some (.ref 0), some (.int (nI S)), some (.int (nI (k * 4))), none, none, none, none], [.int 0], m)) rfl ?_
    exact mz_ret rfl
set_option maxHeartbeats 4000000 in
set_option maxRecDepth 100000 in
theorem cs_magl {m : mz_M} {S z N : Nat} (hS : S < 4) (hz : z ≤ 24) (hN : N ≤ 6) (e1 : m 62 S = nI z) : ∀ j k : Nat, k + j = 6 → (∀ i, i < k → sm_mg (m 63) (24 * S) z N i) → ∀ p a b c d : Nat → Int32, p 4 = nI (N + k) → sm_ml (m 63) (24 * S) N k 0 (m 3) a → sm_ml (m 63) (24 * S) N k 1 (m 4) b → sm_ml (m 63) (24 * S) N k 2 (m 5) c → sm_ml (m 63) (24 * S) N k 3 (m 6) d → ∃ (K : Nat) (p' a' b' c' d' : Nat → Int32), K ≤ 6 ∧ (∀ i, i < K → sm_mg (m 63) (24 * S) z N i) ∧ ¬ sm_mg (m 63) (24 * S) z N K ∧ p' 4 = nI (N + K) ∧ sm_ml (m 63) (24 * S) N K 0 (m 3) a' ∧ sm_ml (m 63) (24 * S) N K 1 (m 4) b' ∧ sm_ml (m 63) (24 * S) N K 2 (m 5) c' ∧ sm_ml (m 63) (24 * S) N K 3 (m 6) d' ∧ ∀ res, mz_Ex 100 mz_k102 (59, [some (.ref 0), some (.int (nI S)), some (.int (nI K))], [], mz_set (mz_set (mz_set (mz_set (mz_set m 2 p') 3 a') 4 b') 5 c') 6 d') res → mz_Ex 100 mz_k102 (36, [some (.ref 0), some (.int (nI S)), some (.int (nI k))], [], mz_set (mz_set (mz_set (mz_set (mz_set m 2 p) 3 a) 4 b) 5 c) 6 d) res := by
  intro j
  induction j with
  | zero =>
    intro k hk hA p a b c d h4 s3 s4 s5 s6
    have hk2 : k = 6 := by omega
    rw [hk2] at h4 s3 s4 s5 s6 hA
    rw [hk2]
    exact ⟨6, p, a, b, c, d, by omega, hA, fun h => absurd h.2.1 (by omega), h4, s3, s4, s5, s6, fun res hr => by
      refine mz_go 3 (c' := (if 6 ≤ (nI 6) then 59 else 42, [some (.ref 0), some (.int (nI S)), some (.int (nI 6))], [], mz_set (mz_set (mz_set (mz_set (mz_set m 2 p) 3 a) 4 b) 5 c) 6 d)) rfl ?_
      refine mz_ifT (show (6 ≤ (nI 6)) from (sm_leN rfl rfl (show 6 ≤ 6 by omega) (show 6 < 2 ^ 31 by omega))) ?_
      exact hr⟩
  | succ j ih =>
    intro k hk hA p a b c d h4 s3 s4 s5 s6
    have hNk : N + k ≤ 6 := by
      rcases Nat.eq_zero_or_pos k with e | e
      · omega
      · have h := (hA (k - 1) (by omega)).2.1
        omega
    by_cases hG : sm_mg (m 63) (24 * S) z N k
    · have hGa := hG.1
      have hGb := hG.2.1
      have hm : mz_up (mz_up (mz_up (mz_up (mz_up (mz_set (mz_set (mz_set (mz_set (mz_set m 2 p) 3 a) 4 b) 5 c) 6 d) 3 (N + k) ((mz_set (mz_set (mz_set (mz_set (mz_set m 2 p) 3 a) 4 b) 5 c) 6 d) 63 (24 * S + 4 * k))) 4 (N + k) ((mz_set (mz_set (mz_set (mz_set (mz_set m 2 p) 3 a) 4 b) 5 c) 6 d) 63 (24 * S + 4 * k + 1))) 5 (N + k) ((mz_set (mz_set (mz_set (mz_set (mz_set m 2 p) 3 a) 4 b) 5 c) 6 d) 63 (24 * S + 4 * k + 2))) 6 (N + k) ((mz_set (mz_set (mz_set (mz_set (mz_set m 2 p) 3 a) 4 b) 5 c) 6 d) 63 (24 * S + 4 * k + 3))) 2 4 ((nI (N + k)) + 1) = mz_set (mz_set (mz_set (mz_set (mz_set m 2 ((mz_up (mz_up (mz_up (mz_up (mz_up (mz_set (mz_set (mz_set (mz_set (mz_set m 2 p) 3 a) 4 b) 5 c) 6 d) 3 (N + k) ((mz_set (mz_set (mz_set (mz_set (mz_set m 2 p) 3 a) 4 b) 5 c) 6 d) 63 (24 * S + 4 * k))) 4 (N + k) ((mz_set (mz_set (mz_set (mz_set (mz_set m 2 p) 3 a) 4 b) 5 c) 6 d) 63 (24 * S + 4 * k + 1))) 5 (N + k) ((mz_set (mz_set (mz_set (mz_set (mz_set m 2 p) 3 a) 4 b) 5 c) 6 d) 63 (24 * S + 4 * k + 2))) 6 (N + k) ((mz_set (mz_set (mz_set (mz_set (mz_set m 2 p) 3 a) 4 b) 5 c) 6 d) 63 (24 * S + 4 * k + 3))) 2 4 ((nI (N + k)) + 1)) 2)) 3 ((mz_up (mz_up (mz_up (mz_up (mz_up (mz_set (mz_set (mz_set (mz_set (mz_set m 2 p) 3 a) 4 b) 5 c) 6 d) 3 (N + k) ((mz_set (mz_set (mz_set (mz_set (mz_set m 2 p) 3 a) 4 b) 5 c) 6 d) 63 (24 * S + 4 * k))) 4 (N + k) ((mz_set (mz_set (mz_set (mz_set (mz_set m 2 p) 3 a) 4 b) 5 c) 6 d) 63 (24 * S + 4 * k + 1))) 5 (N + k) ((mz_set (mz_set (mz_set (mz_set (mz_set m 2 p) 3 a) 4 b) 5 c) 6 d) 63 (24 * S + 4 * k + 2))) 6 (N + k) ((mz_set (mz_set (mz_set (mz_set (mz_set m 2 p) 3 a) 4 b) 5 c) 6 d) 63 (24 * S + 4 * k + 3))) 2 4 ((nI (N + k)) + 1)) 3)) 4 ((mz_up (mz_up (mz_up (mz_up (mz_up (mz_set (mz_set (mz_set (mz_set (mz_set m 2 p) 3 a) 4 b) 5 c) 6 d) 3 (N + k) ((mz_set (mz_set (mz_set (mz_set (mz_set m 2 p) 3 a) 4 b) 5 c) 6 d) 63 (24 * S + 4 * k))) 4 (N + k) ((mz_set (mz_set (mz_set (mz_set (mz_set m 2 p) 3 a) 4 b) 5 c) 6 d) 63 (24 * S + 4 * k + 1))) 5 (N + k) ((mz_set (mz_set (mz_set (mz_set (mz_set m 2 p) 3 a) 4 b) 5 c) 6 d) 63 (24 * S + 4 * k + 2))) 6 (N + k) ((mz_set (mz_set (mz_set (mz_set (mz_set m 2 p) 3 a) 4 b) 5 c) 6 d) 63 (24 * S + 4 * k + 3))) 2 4 ((nI (N + k)) + 1)) 4)) 5 ((mz_up (mz_up (mz_up (mz_up (mz_up (mz_set (mz_set (mz_set (mz_set (mz_set m 2 p) 3 a) 4 b) 5 c) 6 d) 3 (N + k) ((mz_set (mz_set (mz_set (mz_set (mz_set m 2 p) 3 a) 4 b) 5 c) 6 d) 63 (24 * S + 4 * k))) 4 (N + k) ((mz_set (mz_set (mz_set (mz_set (mz_set m 2 p) 3 a) 4 b) 5 c) 6 d) 63 (24 * S + 4 * k + 1))) 5 (N + k) ((mz_set (mz_set (mz_set (mz_set (mz_set m 2 p) 3 a) 4 b) 5 c) 6 d) 63 (24 * S + 4 * k + 2))) 6 (N + k) ((mz_set (mz_set (mz_set (mz_set (mz_set m 2 p) 3 a) 4 b) 5 c) 6 d) 63 (24 * S + 4 * k + 3))) 2 4 ((nI (N + k)) + 1)) 5)) 6 ((mz_up (mz_up (mz_up (mz_up (mz_up (mz_set (mz_set (mz_set (mz_set (mz_set m 2 p) 3 a) 4 b) 5 c) 6 d) 3 (N + k) ((mz_set (mz_set (mz_set (mz_set (mz_set m 2 p) 3 a) 4 b) 5 c) 6 d) 63 (24 * S + 4 * k))) 4 (N + k) ((mz_set (mz_set (mz_set (mz_set (mz_set m 2 p) 3 a) 4 b) 5 c) 6 d) 63 (24 * S + 4 * k + 1))) 5 (N + k) ((mz_set (mz_set (mz_set (mz_set (mz_set m 2 p) 3 a) 4 b) 5 c) 6 d) 63 (24 * S + 4 * k + 2))) 6 (N + k) ((mz_set (mz_set (mz_set (mz_set (mz_set m 2 p) 3 a) 4 b) 5 c) 6 d) 63 (24 * S + 4 * k + 3))) 2 4 ((nI (N + k)) + 1)) 6) := sm_of5 (fun i h1 h2 h3 h4 h5 => by simp only [mz_set_ne h1, mz_set_ne h2, mz_set_ne h3, mz_set_ne h4, mz_set_ne h5, mz_up_ne h1, mz_up_ne h2, mz_up_ne h3, mz_up_ne h4, mz_up_ne h5])
      have k4 : ((mz_up (mz_up (mz_up (mz_up (mz_up (mz_set (mz_set (mz_set (mz_set (mz_set m 2 p) 3 a) 4 b) 5 c) 6 d) 3 (N + k) ((mz_set (mz_set (mz_set (mz_set (mz_set m 2 p) 3 a) 4 b) 5 c) 6 d) 63 (24 * S + 4 * k))) 4 (N + k) ((mz_set (mz_set (mz_set (mz_set (mz_set m 2 p) 3 a) 4 b) 5 c) 6 d) 63 (24 * S + 4 * k + 1))) 5 (N + k) ((mz_set (mz_set (mz_set (mz_set (mz_set m 2 p) 3 a) 4 b) 5 c) 6 d) 63 (24 * S + 4 * k + 2))) 6 (N + k) ((mz_set (mz_set (mz_set (mz_set (mz_set m 2 p) 3 a) 4 b) 5 c) 6 d) 63 (24 * S + 4 * k + 3))) 2 4 ((nI (N + k)) + 1)) 2) 4 = nI (N + (k + 1)) := by
        rw [sm_up_row, mz_up_ne (show (2 : Nat) ≠ 6 by decide), mz_up_ne (show (2 : Nat) ≠ 5 by decide), mz_up_ne (show (2 : Nat) ≠ 4 by decide), mz_up_ne (show (2 : Nat) ≠ 3 by decide), mz_set_ne (show (2 : Nat) ≠ 6 by decide), mz_set_ne (show (2 : Nat) ≠ 5 by decide), mz_set_ne (show (2 : Nat) ≠ 4 by decide), mz_set_ne (show (2 : Nat) ≠ 3 by decide), mz_set_eq]
        unfold sm_upd
        rw [if_pos rfl]
        exact (nI_succ (N + k)).symm
      have k5 : sm_ml (m 63) (24 * S) N (k + 1) 0 (m 3) ((mz_up (mz_up (mz_up (mz_up (mz_up (mz_set (mz_set (mz_set (mz_set (mz_set m 2 p) 3 a) 4 b) 5 c) 6 d) 3 (N + k) ((mz_set (mz_set (mz_set (mz_set (mz_set m 2 p) 3 a) 4 b) 5 c) 6 d) 63 (24 * S + 4 * k))) 4 (N + k) ((mz_set (mz_set (mz_set (mz_set (mz_set m 2 p) 3 a) 4 b) 5 c) 6 d) 63 (24 * S + 4 * k + 1))) 5 (N + k) ((mz_set (mz_set (mz_set (mz_set (mz_set m 2 p) 3 a) 4 b) 5 c) 6 d) 63 (24 * S + 4 * k + 2))) 6 (N + k) ((mz_set (mz_set (mz_set (mz_set (mz_set m 2 p) 3 a) 4 b) 5 c) 6 d) 63 (24 * S + 4 * k + 3))) 2 4 ((nI (N + k)) + 1)) 3) := by
        rw [mz_up_ne (show (3 : Nat) ≠ 2 by decide), mz_up_ne (show (3 : Nat) ≠ 6 by decide), mz_up_ne (show (3 : Nat) ≠ 5 by decide), mz_up_ne (show (3 : Nat) ≠ 4 by decide), sm_up_row, mz_set_ne (show (3 : Nat) ≠ 6 by decide), mz_set_ne (show (3 : Nat) ≠ 5 by decide), mz_set_ne (show (3 : Nat) ≠ 4 by decide), mz_set_eq]
        exact sm_ml_step s3 rfl
      have k6 : sm_ml (m 63) (24 * S) N (k + 1) 1 (m 4) ((mz_up (mz_up (mz_up (mz_up (mz_up (mz_set (mz_set (mz_set (mz_set (mz_set m 2 p) 3 a) 4 b) 5 c) 6 d) 3 (N + k) ((mz_set (mz_set (mz_set (mz_set (mz_set m 2 p) 3 a) 4 b) 5 c) 6 d) 63 (24 * S + 4 * k))) 4 (N + k) ((mz_set (mz_set (mz_set (mz_set (mz_set m 2 p) 3 a) 4 b) 5 c) 6 d) 63 (24 * S + 4 * k + 1))) 5 (N + k) ((mz_set (mz_set (mz_set (mz_set (mz_set m 2 p) 3 a) 4 b) 5 c) 6 d) 63 (24 * S + 4 * k + 2))) 6 (N + k) ((mz_set (mz_set (mz_set (mz_set (mz_set m 2 p) 3 a) 4 b) 5 c) 6 d) 63 (24 * S + 4 * k + 3))) 2 4 ((nI (N + k)) + 1)) 4) := by
        rw [mz_up_ne (show (4 : Nat) ≠ 2 by decide), mz_up_ne (show (4 : Nat) ≠ 6 by decide), mz_up_ne (show (4 : Nat) ≠ 5 by decide), sm_up_row, mz_up_ne (show (4 : Nat) ≠ 3 by decide), mz_set_ne (show (4 : Nat) ≠ 6 by decide), mz_set_ne (show (4 : Nat) ≠ 5 by decide), mz_set_eq]
        exact sm_ml_step s4 rfl
      have k7 : sm_ml (m 63) (24 * S) N (k + 1) 2 (m 5) ((mz_up (mz_up (mz_up (mz_up (mz_up (mz_set (mz_set (mz_set (mz_set (mz_set m 2 p) 3 a) 4 b) 5 c) 6 d) 3 (N + k) ((mz_set (mz_set (mz_set (mz_set (mz_set m 2 p) 3 a) 4 b) 5 c) 6 d) 63 (24 * S + 4 * k))) 4 (N + k) ((mz_set (mz_set (mz_set (mz_set (mz_set m 2 p) 3 a) 4 b) 5 c) 6 d) 63 (24 * S + 4 * k + 1))) 5 (N + k) ((mz_set (mz_set (mz_set (mz_set (mz_set m 2 p) 3 a) 4 b) 5 c) 6 d) 63 (24 * S + 4 * k + 2))) 6 (N + k) ((mz_set (mz_set (mz_set (mz_set (mz_set m 2 p) 3 a) 4 b) 5 c) 6 d) 63 (24 * S + 4 * k + 3))) 2 4 ((nI (N + k)) + 1)) 5) := by
        rw [mz_up_ne (show (5 : Nat) ≠ 2 by decide), mz_up_ne (show (5 : Nat) ≠ 6 by decide), sm_up_row, mz_up_ne (show (5 : Nat) ≠ 4 by decide), mz_up_ne (show (5 : Nat) ≠ 3 by decide), mz_set_ne (show (5 : Nat) ≠ 6 by decide), mz_set_eq]
        exact sm_ml_step s5 rfl
      have k8 : sm_ml (m 63) (24 * S) N (k + 1) 3 (m 6) ((mz_up (mz_up (mz_up (mz_up (mz_up (mz_set (mz_set (mz_set (mz_set (mz_set m 2 p) 3 a) 4 b) 5 c) 6 d) 3 (N + k) ((mz_set (mz_set (mz_set (mz_set (mz_set m 2 p) 3 a) 4 b) 5 c) 6 d) 63 (24 * S + 4 * k))) 4 (N + k) ((mz_set (mz_set (mz_set (mz_set (mz_set m 2 p) 3 a) 4 b) 5 c) 6 d) 63 (24 * S + 4 * k + 1))) 5 (N + k) ((mz_set (mz_set (mz_set (mz_set (mz_set m 2 p) 3 a) 4 b) 5 c) 6 d) 63 (24 * S + 4 * k + 2))) 6 (N + k) ((mz_set (mz_set (mz_set (mz_set (mz_set m 2 p) 3 a) 4 b) 5 c) 6 d) 63 (24 * S + 4 * k + 3))) 2 4 ((nI (N + k)) + 1)) 6) := by
        rw [mz_up_ne (show (6 : Nat) ≠ 2 by decide), sm_up_row, mz_up_ne (show (6 : Nat) ≠ 5 by decide), mz_up_ne (show (6 : Nat) ≠ 4 by decide), mz_up_ne (show (6 : Nat) ≠ 3 by decide), mz_set_eq]
        exact sm_ml_step s6 rfl
      obtain ⟨K, p', a', b', c', d', hK, h1, h2, h3, q3, q4, q5, q6, E⟩ := ih (k + 1) (by omega) (fun i hi => (Nat.lt_succ_iff_lt_or_eq.mp hi).elim (hA i) (fun e => e ▸ hG)) ((mz_up (mz_up (mz_up (mz_up (mz_up (mz_set (mz_set (mz_set (mz_set (mz_set m 2 p) 3 a) 4 b) 5 c) 6 d) 3 (N + k) ((mz_set (mz_set (mz_set (mz_set (mz_set m 2 p) 3 a) 4 b) 5 c) 6 d) 63 (24 * S + 4 * k))) 4 (N + k) ((mz_set (mz_set (mz_set (mz_set (mz_set m 2 p) 3 a) 4 b) 5 c) 6 d) 63 (24 * S + 4 * k + 1))) 5 (N + k) ((mz_set (mz_set (mz_set (mz_set (mz_set m 2 p) 3 a) 4 b) 5 c) 6 d) 63 (24 * S + 4 * k + 2))) 6 (N + k) ((mz_set (mz_set (mz_set (mz_set (mz_set m 2 p) 3 a) 4 b) 5 c) 6 d) 63 (24 * S + 4 * k + 3))) 2 4 ((nI (N + k)) + 1)) 2) ((mz_up (mz_up (mz_up (mz_up (mz_up (mz_set (mz_set (mz_set (mz_set (mz_set m 2 p) 3 a) 4 b) 5 c) 6 d) 3 (N + k) ((mz_set (mz_set (mz_set (mz_set (mz_set m 2 p) 3 a) 4 b) 5 c) 6 d) 63 (24 * S + 4 * k))) 4 (N + k) ((mz_set (mz_set (mz_set (mz_set (mz_set m 2 p) 3 a) 4 b) 5 c) 6 d) 63 (24 * S + 4 * k + 1))) 5 (N + k) ((mz_set (mz_set (mz_set (mz_set (mz_set m 2 p) 3 a) 4 b) 5 c) 6 d) 63 (24 * S + 4 * k + 2))) 6 (N + k) ((mz_set (mz_set (mz_set (mz_set (mz_set m 2 p) 3 a) 4 b) 5 c) 6 d) 63 (24 * S + 4 * k + 3))) 2 4 ((nI (N + k)) + 1)) 3) ((mz_up (mz_up (mz_up (mz_up (mz_up (mz_set (mz_set (mz_set (mz_set (mz_set m 2 p) 3 a) 4 b) 5 c) 6 d) 3 (N + k) ((mz_set (mz_set (mz_set (mz_set (mz_set m 2 p) 3 a) 4 b) 5 c) 6 d) 63 (24 * S + 4 * k))) 4 (N + k) ((mz_set (mz_set (mz_set (mz_set (mz_set m 2 p) 3 a) 4 b) 5 c) 6 d) 63 (24 * S + 4 * k + 1))) 5 (N + k) ((mz_set (mz_set (mz_set (mz_set (mz_set m 2 p) 3 a) 4 b) 5 c) 6 d) 63 (24 * S + 4 * k + 2))) 6 (N + k) ((mz_set (mz_set (mz_set (mz_set (mz_set m 2 p) 3 a) 4 b) 5 c) 6 d) 63 (24 * S + 4 * k + 3))) 2 4 ((nI (N + k)) + 1)) 4) ((mz_up (mz_up (mz_up (mz_up (mz_up (mz_set (mz_set (mz_set (mz_set (mz_set m 2 p) 3 a) 4 b) 5 c) 6 d) 3 (N + k) ((mz_set (mz_set (mz_set (mz_set (mz_set m 2 p) 3 a) 4 b) 5 c) 6 d) 63 (24 * S + 4 * k))) 4 (N + k) ((mz_set (mz_set (mz_set (mz_set (mz_set m 2 p) 3 a) 4 b) 5 c) 6 d) 63 (24 * S + 4 * k + 1))) 5 (N + k) ((mz_set (mz_set (mz_set (mz_set (mz_set m 2 p) 3 a) 4 b) 5 c) 6 d) 63 (24 * S + 4 * k + 2))) 6 (N + k) ((mz_set (mz_set (mz_set (mz_set (mz_set m 2 p) 3 a) 4 b) 5 c) 6 d) 63 (24 * S + 4 * k + 3))) 2 4 ((nI (N + k)) + 1)) 5) ((mz_up (mz_up (mz_up (mz_up (mz_up (mz_set (mz_set (mz_set (mz_set (mz_set m 2 p) 3 a) 4 b) 5 c) 6 d) 3 (N + k) ((mz_set (mz_set (mz_set (mz_set (mz_set m 2 p) 3 a) 4 b) 5 c) 6 d) 63 (24 * S + 4 * k))) 4 (N + k) ((mz_set (mz_set (mz_set (mz_set (mz_set m 2 p) 3 a) 4 b) 5 c) 6 d) 63 (24 * S + 4 * k + 1))) 5 (N + k) ((mz_set (mz_set (mz_set (mz_set (mz_set m 2 p) 3 a) 4 b) 5 c) 6 d) 63 (24 * S + 4 * k + 2))) 6 (N + k) ((mz_set (mz_set (mz_set (mz_set (mz_set m 2 p) 3 a) 4 b) 5 c) 6 d) 63 (24 * S + 4 * k + 3))) 2 4 ((nI (N + k)) + 1)) 6) k4 k5 k6 k7 k8
      refine ⟨K, p', a', b', c', d', hK, h1, h2, h3, q3, q4, q5, q6, fun res hr0 => ?_⟩
      have hr := E res hr0
      rw [nI_succ k, ← hm] at hr
      refine mz_go 3 (c' := (if 6 ≤ (nI k) then 59 else 42, [some (.ref 0), some (.int (nI S)), some (.int (nI k))], [], mz_set (mz_set (mz_set (mz_set (mz_set m 2 p) 3 a) 4 b) 5 c) 6 d)) rfl ?_
      refine mz_ifF (show ¬ (6 ≤ (nI k)) from (sm_nleN rfl rfl (show k < 6 by omega) (show 6 < 2 ^ 31 by omega))) ?_
      refine mz_go 5 (c' := (47, [some (.ref 0), some (.int (nI S)), some (.int (nI k))], [.int ((nI k) * 4), .int (nI S), .ref 0], mz_set (mz_set (mz_set (mz_set (mz_set m 2 p) 3 a) 4 b) 5 c) 6 d)) rfl ?_
      refine mz_doQ (R := mz_r112) (as := [.ref 0, .int (nI S), .int ((nI k) * 4)]) (rest := []) (r1 := some (.int 1)) (m1 := mz_up (mz_up (mz_up (mz_up (mz_up (mz_set (mz_set (mz_set (mz_set (mz_set m 2 p) 3 a) 4 b) 5 c) 6 d) 3 (N + k) ((mz_set (mz_set (mz_set (mz_set (mz_set m 2 p) 3 a) 4 b) 5 c) 6 d) 63 (24 * S + 4 * k))) 4 (N + k) ((mz_set (mz_set (mz_set (mz_set (mz_set m 2 p) 3 a) 4 b) 5 c) 6 d) 63 (24 * S + 4 * k + 1))) 5 (N + k) ((mz_set (mz_set (mz_set (mz_set (mz_set m 2 p) 3 a) 4 b) 5 c) 6 d) 63 (24 * S + 4 * k + 2))) 6 (N + k) ((mz_set (mz_set (mz_set (mz_set (mz_set m 2 p) 3 a) 4 b) 5 c) 6 d) 63 (24 * S + 4 * k + 3))) 2 4 ((nI (N + k)) + 1)) mz_t112 mz_v112_0 rfl rfl rfl rfl rfl ((cs_addT (m := mz_set (mz_set (mz_set (mz_set (mz_set m 2 p) 3 a) 4 b) 5 c) 6 d) (S := S) (k := k) (z := z) (C := N + k) hS (by omega) hz (by omega) h4 e1 (sm_mulN rfl rfl) hG.1 hG.2.1 hG.2.2).deep (by decide)) ?_
      refine mz_go 3 (c' := (36, [some (.ref 0), some (.int (nI S)), some (.int ((nI k) + 1))], [], mz_up (mz_up (mz_up (mz_up (mz_up (mz_set (mz_set (mz_set (mz_set (mz_set m 2 p) 3 a) 4 b) 5 c) 6 d) 3 (N + k) ((mz_set (mz_set (mz_set (mz_set (mz_set m 2 p) 3 a) 4 b) 5 c) 6 d) 63 (24 * S + 4 * k))) 4 (N + k) ((mz_set (mz_set (mz_set (mz_set (mz_set m 2 p) 3 a) 4 b) 5 c) 6 d) 63 (24 * S + 4 * k + 1))) 5 (N + k) ((mz_set (mz_set (mz_set (mz_set (mz_set m 2 p) 3 a) 4 b) 5 c) 6 d) 63 (24 * S + 4 * k + 2))) 6 (N + k) ((mz_set (mz_set (mz_set (mz_set (mz_set m 2 p) 3 a) 4 b) 5 c) 6 d) 63 (24 * S + 4 * k + 3))) 2 4 ((nI (N + k)) + 1))) rfl ?_
      exact hr
    · exact ⟨k, p, a, b, c, d, by omega, hA, hG, h4, s3, s4, s5, s6, fun res hr => by
        refine mz_go 3 (c' := (if 6 ≤ (nI k) then 59 else 42, [some (.ref 0), some (.int (nI S)), some (.int (nI k))], [], mz_set (mz_set (mz_set (mz_set (mz_set m 2 p) 3 a) 4 b) 5 c) 6 d)) rfl ?_
        refine mz_ifF (show ¬ (6 ≤ (nI k)) from (sm_nleN rfl rfl (show k < 6 by omega) (show 6 < 2 ^ 31 by omega))) ?_
        refine mz_go 5 (c' := (47, [some (.ref 0), some (.int (nI S)), some (.int (nI k))], [.int ((nI k) * 4), .int (nI S), .ref 0], mz_set (mz_set (mz_set (mz_set (mz_set m 2 p) 3 a) 4 b) 5 c) 6 d)) rfl ?_
        refine mz_doQ (R := mz_r112) (as := [.ref 0, .int (nI S), .int ((nI k) * 4)]) (rest := []) (r1 := some (.int 0)) (m1 := mz_set (mz_set (mz_set (mz_set (mz_set m 2 p) 3 a) 4 b) 5 c) 6 d) mz_t112 mz_v112_0 rfl rfl rfl rfl rfl ((cs_addF (m := mz_set (mz_set (mz_set (mz_set (mz_set m 2 p) 3 a) 4 b) 5 c) 6 d) (S := S) (k := k) (z := z) (C := N + k) hS (by omega) hz (by omega) h4 e1 (sm_mulN rfl rfl) hG).deep (by decide)) ?_
        refine mz_go 1 (c' := (59, [some (.ref 0), some (.int (nI S)), some (.int (nI k))], [], mz_set (mz_set (mz_set (mz_set (mz_set m 2 p) 3 a) 4 b) 5 c) 6 d)) rfl ?_
        exact hr⟩
set_option maxHeartbeats 4000000 in
set_option maxRecDepth 100000 in
theorem ct_magl {m : mz_M} {S z N : Nat} (hS : S < 4) (hz : z ≤ 24) (hN : N ≤ 6) (e1 : m 76 S = nI z) : ∀ j k : Nat, k + j = 6 → (∀ i, i < k → sm_mg (m 77) (24 * S) z N i) → ∀ (s : Nat → Int32) (o : Option Value), sm_ms (m 77) (24 * S) N k (m 66) s → ∃ (K : Nat) (s' : Nat → Int32) (o' : Option Value), K ≤ 6 ∧ (∀ i, i < K → sm_mg (m 77) (24 * S) z N i) ∧ ¬ sm_mg (m 77) (24 * S) z N K ∧ sm_ms (m 77) (24 * S) N K (m 66) s' ∧ ∀ res, mz_Ex 100 mz_k223 (170, [some (.ref 65), some (.int (nI S)), some (.int (nI K)), some (.int (nI (24 * S))), o'], [], mz_set m 66 s') res → mz_Ex 100 mz_k223 (35, [some (.ref 65), some (.int (nI S)), some (.int (nI k)), some (.int (nI (24 * S))), o], [], mz_set m 66 s) res := by
  intro j
  induction j with
  | zero =>
    intro k hk hA s o hs
    have hNk : N + k ≤ 6 := by
      rcases Nat.eq_zero_or_pos k with e | e
      · omega
      · have h := (hA (k - 1) (by omega)).2.1
        omega
    have hG : ¬ sm_mg (m 77) (24 * S) z N k := fun h => absurd h.2.1 (by omega)
    by_cases q1 : z ≤ ((4 * k) + 3)
    · exact ⟨k, s, o, by omega, hA, hG, hs, fun res hr => by
        refine mz_go 8 (c' := (45, [some (.ref 65), some (.int (nI S)), some (.int (nI k)), some (.int (nI (24 * S))), o], [.int (nI S), .ref 76, .int ((4 * (nI k)) + 3)], mz_set m 66 s)) rfl ?_
        refine mz_arr (c' := (46, [some (.ref 65), some (.int (nI S)), some (.int (nI k)), some (.int (nI (24 * S))), o], [.int (m 76 ((nI S).toNatClampNeg)), .int ((4 * (nI k)) + 3)], mz_set m 66 s)) rfl (show mz_in (nI S) 4 = true from sm_inN rfl (show S < 4 by omega) (by decide)) ?_
        rw [show (nI S : Int32).toNatClampNeg = S from sm_clN rfl (show S < 2 ^ 31 by omega)]
        rw [e1]
        refine mz_go 1 (c' := (if (nI z) ≤ ((4 * (nI k)) + 3) then 170 else 49, [some (.ref 65), some (.int (nI S)), some (.int (nI k)), some (.int (nI (24 * S))), o], [], mz_set m 66 s)) rfl ?_
        refine mz_ifT (show ((nI z) ≤ ((4 * (nI k)) + 3)) from (sm_leN rfl (sm_addN (sm_mulN rfl rfl) rfl) (show z ≤ ((4 * k) + 3) by omega) (show ((4 * k) + 3) < 2 ^ 31 by omega))) ?_
        exact hr⟩
    · by_cases q2 : 6 ≤ (N + k)
      · exact ⟨k, s, o, by omega, hA, hG, hs, fun res hr => by
          refine mz_go 8 (c' := (45, [some (.ref 65), some (.int (nI S)), some (.int (nI k)), some (.int (nI (24 * S))), o], [.int (nI S), .ref 76, .int ((4 * (nI k)) + 3)], mz_set m 66 s)) rfl ?_
          refine mz_arr (c' := (46, [some (.ref 65), some (.int (nI S)), some (.int (nI k)), some (.int (nI (24 * S))), o], [.int (m 76 ((nI S).toNatClampNeg)), .int ((4 * (nI k)) + 3)], mz_set m 66 s)) rfl (show mz_in (nI S) 4 = true from sm_inN rfl (show S < 4 by omega) (by decide)) ?_
          rw [show (nI S : Int32).toNatClampNeg = S from sm_clN rfl (show S < 2 ^ 31 by omega)]
          rw [e1]
          refine mz_go 1 (c' := (if (nI z) ≤ ((4 * (nI k)) + 3) then 170 else 49, [some (.ref 65), some (.int (nI S)), some (.int (nI k)), some (.int (nI (24 * S))), o], [], mz_set m 66 s)) rfl ?_
          refine mz_ifF (show ¬ ((nI z) ≤ ((4 * (nI k)) + 3)) from (sm_nleN rfl (sm_addN (sm_mulN rfl rfl) rfl) (show ((4 * k) + 3) < z by omega) (show z < 2 ^ 31 by omega))) ?_
          refine mz_go 4 (c' := (55, [some (.ref 65), some (.int (nI S)), some (.int (nI k)), some (.int (nI (24 * S))), o], [.int (s 0)], mz_set m 66 s)) rfl ?_
          rw [hs.1]
          refine mz_go 2 (c' := (if 6 ≤ (nI (N + k)) then 170 else 60, [some (.ref 65), some (.int (nI S)), some (.int (nI k)), some (.int (nI (24 * S))), o], [], mz_set m 66 s)) rfl ?_
          refine mz_ifT (show (6 ≤ (nI (N + k))) from (sm_leN rfl rfl (show 6 ≤ (N + k) by omega) (show (N + k) < 2 ^ 31 by omega))) ?_
          exact hr⟩
      · by_cases q3 : (sm_bI (sm_in (m 77 (24 * S + 4 * k)) 0 6)) = 0
        · exact ⟨k, s, o, by omega, hA, hG, hs, fun res hr => by
            refine mz_go 8 (c' := (45, [some (.ref 65), some (.int (nI S)), some (.int (nI k)), some (.int (nI (24 * S))), o], [.int (nI S), .ref 76, .int ((4 * (nI k)) + 3)], mz_set m 66 s)) rfl ?_
            refine mz_arr (c' := (46, [some (.ref 65), some (.int (nI S)), some (.int (nI k)), some (.int (nI (24 * S))), o], [.int (m 76 ((nI S).toNatClampNeg)), .int ((4 * (nI k)) + 3)], mz_set m 66 s)) rfl (show mz_in (nI S) 4 = true from sm_inN rfl (show S < 4 by omega) (by decide)) ?_
            rw [show (nI S : Int32).toNatClampNeg = S from sm_clN rfl (show S < 2 ^ 31 by omega)]
            rw [e1]
            refine mz_go 1 (c' := (if (nI z) ≤ ((4 * (nI k)) + 3) then 170 else 49, [some (.ref 65), some (.int (nI S)), some (.int (nI k)), some (.int (nI (24 * S))), o], [], mz_set m 66 s)) rfl ?_
            refine mz_ifF (show ¬ ((nI z) ≤ ((4 * (nI k)) + 3)) from (sm_nleN rfl (sm_addN (sm_mulN rfl rfl) rfl) (show ((4 * k) + 3) < z by omega) (show z < 2 ^ 31 by omega))) ?_
            refine mz_go 4 (c' := (55, [some (.ref 65), some (.int (nI S)), some (.int (nI k)), some (.int (nI (24 * S))), o], [.int (s 0)], mz_set m 66 s)) rfl ?_
            rw [hs.1]
            refine mz_go 2 (c' := (if 6 ≤ (nI (N + k)) then 170 else 60, [some (.ref 65), some (.int (nI S)), some (.int (nI k)), some (.int (nI (24 * S))), o], [], mz_set m 66 s)) rfl ?_
            refine mz_ifF (show ¬ (6 ≤ (nI (N + k))) from (sm_nleN rfl rfl (show (N + k) < 6 by omega) (show 6 < 2 ^ 31 by omega))) ?_
            refine mz_go 7 (c' := (69, [some (.ref 65), some (.int (nI S)), some (.int (nI k)), some (.int (nI (24 * S))), o], [.int ((nI (24 * S)) + (4 * (nI k))), .ref 77], mz_set m 66 s)) rfl ?_
            refine mz_arr (c' := (70, [some (.ref 65), some (.int (nI S)), some (.int (nI k)), some (.int (nI (24 * S))), o], [.int (m 77 (((nI (24 * S)) + (4 * (nI k))).toNatClampNeg))], mz_set m 66 s)) rfl (show mz_in ((nI (24 * S)) + (4 * (nI k))) 96 = true from sm_inN (sm_addN rfl (sm_mulN rfl rfl)) (show ((24 * S) + (4 * k)) < 96 by omega) (by decide)) ?_
            rw [show ((nI (24 * S)) + (4 * (nI k)) : Int32).toNatClampNeg = ((24 * S) + (4 * k)) from sm_clN (sm_addN rfl (sm_mulN rfl rfl)) (show ((24 * S) + (4 * k)) < 2 ^ 31 by omega)]
            rw [show m 77 ((24 * S) + (4 * k)) = m 77 (24 * S + 4 * k) from rfl]
            refine mz_go 9 (c' := (81, [some (.ref 65), some (.int (nI S)), some (.int (nI k)), some (.int (nI (24 * S))), o], [.int (((nI (24 * S)) + (4 * (nI k))) + 1), .ref 77, .int (m 77 (24 * S + 4 * k))], mz_set m 66 s)) rfl ?_
            refine mz_arr (c' := (82, [some (.ref 65), some (.int (nI S)), some (.int (nI k)), some (.int (nI (24 * S))), o], [.int (m 77 ((((nI (24 * S)) + (4 * (nI k))) + 1).toNatClampNeg)), .int (m 77 (24 * S + 4 * k))], mz_set m 66 s)) rfl (show mz_in (((nI (24 * S)) + (4 * (nI k))) + 1) 96 = true from sm_inN (sm_addN (sm_addN rfl (sm_mulN rfl rfl)) rfl) (show (((24 * S) + (4 * k)) + 1) < 96 by omega) (by decide)) ?_
            rw [show (((nI (24 * S)) + (4 * (nI k))) + 1 : Int32).toNatClampNeg = (((24 * S) + (4 * k)) + 1) from sm_clN (sm_addN (sm_addN rfl (sm_mulN rfl rfl)) rfl) (show (((24 * S) + (4 * k)) + 1) < 2 ^ 31 by omega)]
            rw [show m 77 (((24 * S) + (4 * k)) + 1) = m 77 (24 * S + 4 * k + 1) from rfl]
            refine mz_go 9 (c' := (93, [some (.ref 65), some (.int (nI S)), some (.int (nI k)), some (.int (nI (24 * S))), o], [.int (((nI (24 * S)) + (4 * (nI k))) + 2), .ref 77, .int (m 77 (24 * S + 4 * k + 1)), .int (m 77 (24 * S + 4 * k))], mz_set m 66 s)) rfl ?_
            refine mz_arr (c' := (94, [some (.ref 65), some (.int (nI S)), some (.int (nI k)), some (.int (nI (24 * S))), o], [.int (m 77 ((((nI (24 * S)) + (4 * (nI k))) + 2).toNatClampNeg)), .int (m 77 (24 * S + 4 * k + 1)), .int (m 77 (24 * S + 4 * k))], mz_set m 66 s)) rfl (show mz_in (((nI (24 * S)) + (4 * (nI k))) + 2) 96 = true from sm_inN (sm_addN (sm_addN rfl (sm_mulN rfl rfl)) rfl) (show (((24 * S) + (4 * k)) + 2) < 96 by omega) (by decide)) ?_
            rw [show (((nI (24 * S)) + (4 * (nI k))) + 2 : Int32).toNatClampNeg = (((24 * S) + (4 * k)) + 2) from sm_clN (sm_addN (sm_addN rfl (sm_mulN rfl rfl)) rfl) (show (((24 * S) + (4 * k)) + 2) < 2 ^ 31 by omega)]
            rw [show m 77 (((24 * S) + (4 * k)) + 2) = m 77 (24 * S + 4 * k + 2) from rfl]
            refine mz_go 9 (c' := (105, [some (.ref 65), some (.int (nI S)), some (.int (nI k)), some (.int (nI (24 * S))), o], [.int (((nI (24 * S)) + (4 * (nI k))) + 3), .ref 77, .int (m 77 (24 * S + 4 * k + 2)), .int (m 77 (24 * S + 4 * k + 1)), .int (m 77 (24 * S + 4 * k))], mz_set m 66 s)) rfl ?_
            refine mz_arr (c' := (106, [some (.ref 65), some (.int (nI S)), some (.int (nI k)), some (.int (nI (24 * S))), o], [.int (m 77 ((((nI (24 * S)) + (4 * (nI k))) + 3).toNatClampNeg)), .int (m 77 (24 * S + 4 * k + 2)), .int (m 77 (24 * S + 4 * k + 1)), .int (m 77 (24 * S + 4 * k))], mz_set m 66 s)) rfl (show mz_in (((nI (24 * S)) + (4 * (nI k))) + 3) 96 = true from sm_inN (sm_addN (sm_addN rfl (sm_mulN rfl rfl)) rfl) (show (((24 * S) + (4 * k)) + 3) < 96 by omega) (by decide)) ?_
            rw [show (((nI (24 * S)) + (4 * (nI k))) + 3 : Int32).toNatClampNeg = (((24 * S) + (4 * k)) + 3) from sm_clN (sm_addN (sm_addN rfl (sm_mulN rfl rfl)) rfl) (show (((24 * S) + (4 * k)) + 3) < 2 ^ 31 by omega)]
            rw [show m 77 (((24 * S) + (4 * k)) + 3) = m 77 (24 * S + 4 * k + 3) from rfl]
            refine mz_doQ (R := mz_r135) (as := [.int (m 77 (24 * S + 4 * k)), .int (m 77 (24 * S + 4 * k + 1)), .int (m 77 (24 * S + 4 * k + 2)), .int (m 77 (24 * S + 4 * k + 3))]) (rest := []) (r1 := some (.int 0)) (m1 := mz_set m 66 s) mz_t135 mz_v135 rfl rfl rfl rfl rfl ⟨?_, rfl⟩ ?_
            · refine mz_go 3 (c' := (4, [some (.int (m 77 (24 * S + 4 * k))), some (.int (m 77 (24 * S + 4 * k + 1))), some (.int (m 77 (24 * S + 4 * k + 2))), some (.int (m 77 (24 * S + 4 * k + 3)))], [.int 6, .int 0, .int (m 77 (24 * S + 4 * k))], mz_set m 66 s)) rfl ?_
              refine mz_doQ (R := mz_r128) (as := [.int (m 77 (24 * S + 4 * k)), .int 0, .int 6]) (rest := []) (r1 := some (.int (sm_bI (sm_in (m 77 (24 * S + 4 * k)) 0 6)))) (m1 := mz_set m 66 s) mz_t128 mz_v128 rfl rfl rfl rfl rfl ((ct_in (m := mz_set m 66 s) (m 77 (24 * S + 4 * k)) 0 6).deep (by decide)) ?_
              refine mz_go 1 (c' := (if (sm_bI (sm_in (m 77 (24 * S + 4 * k)) 0 6)) = 0 then 32 else 10, [some (.int (m 77 (24 * S + 4 * k))), some (.int (m 77 (24 * S + 4 * k + 1))), some (.int (m 77 (24 * S + 4 * k + 2))), some (.int (m 77 (24 * S + 4 * k + 3)))], [], mz_set m 66 s)) rfl ?_
              refine mz_ifT q3 ?_
              refine mz_go 1 (c' := (33, [some (.int (m 77 (24 * S + 4 * k))), some (.int (m 77 (24 * S + 4 * k + 1))), some (.int (m 77 (24 * S + 4 * k + 2))), some (.int (m 77 (24 * S + 4 * k + 3)))], [.int 0], mz_set m 66 s)) rfl ?_
              exact mz_ret rfl
            refine mz_go 1 (c' := (170, [some (.ref 65), some (.int (nI S)), some (.int (nI k)), some (.int (nI (24 * S))), o], [], mz_set m 66 s)) rfl ?_
            exact hr⟩
        · by_cases q4 : (sm_bI (sm_plc (m 77 (24 * S + 4 * k + 1)) (m 77 (24 * S + 4 * k + 2)))) = 0
          · exact ⟨k, s, o, by omega, hA, hG, hs, fun res hr => by
              refine mz_go 8 (c' := (45, [some (.ref 65), some (.int (nI S)), some (.int (nI k)), some (.int (nI (24 * S))), o], [.int (nI S), .ref 76, .int ((4 * (nI k)) + 3)], mz_set m 66 s)) rfl ?_
              refine mz_arr (c' := (46, [some (.ref 65), some (.int (nI S)), some (.int (nI k)), some (.int (nI (24 * S))), o], [.int (m 76 ((nI S).toNatClampNeg)), .int ((4 * (nI k)) + 3)], mz_set m 66 s)) rfl (show mz_in (nI S) 4 = true from sm_inN rfl (show S < 4 by omega) (by decide)) ?_
              rw [show (nI S : Int32).toNatClampNeg = S from sm_clN rfl (show S < 2 ^ 31 by omega)]
              rw [e1]
              refine mz_go 1 (c' := (if (nI z) ≤ ((4 * (nI k)) + 3) then 170 else 49, [some (.ref 65), some (.int (nI S)), some (.int (nI k)), some (.int (nI (24 * S))), o], [], mz_set m 66 s)) rfl ?_
              refine mz_ifF (show ¬ ((nI z) ≤ ((4 * (nI k)) + 3)) from (sm_nleN rfl (sm_addN (sm_mulN rfl rfl) rfl) (show ((4 * k) + 3) < z by omega) (show z < 2 ^ 31 by omega))) ?_
              refine mz_go 4 (c' := (55, [some (.ref 65), some (.int (nI S)), some (.int (nI k)), some (.int (nI (24 * S))), o], [.int (s 0)], mz_set m 66 s)) rfl ?_
              rw [hs.1]
              refine mz_go 2 (c' := (if 6 ≤ (nI (N + k)) then 170 else 60, [some (.ref 65), some (.int (nI S)), some (.int (nI k)), some (.int (nI (24 * S))), o], [], mz_set m 66 s)) rfl ?_
              refine mz_ifF (show ¬ (6 ≤ (nI (N + k))) from (sm_nleN rfl rfl (show (N + k) < 6 by omega) (show 6 < 2 ^ 31 by omega))) ?_
              refine mz_go 7 (c' := (69, [some (.ref 65), some (.int (nI S)), some (.int (nI k)), some (.int (nI (24 * S))), o], [.int ((nI (24 * S)) + (4 * (nI k))), .ref 77], mz_set m 66 s)) rfl ?_
              refine mz_arr (c' := (70, [some (.ref 65), some (.int (nI S)), some (.int (nI k)), some (.int (nI (24 * S))), o], [.int (m 77 (((nI (24 * S)) + (4 * (nI k))).toNatClampNeg))], mz_set m 66 s)) rfl (show mz_in ((nI (24 * S)) + (4 * (nI k))) 96 = true from sm_inN (sm_addN rfl (sm_mulN rfl rfl)) (show ((24 * S) + (4 * k)) < 96 by omega) (by decide)) ?_
              rw [show ((nI (24 * S)) + (4 * (nI k)) : Int32).toNatClampNeg = ((24 * S) + (4 * k)) from sm_clN (sm_addN rfl (sm_mulN rfl rfl)) (show ((24 * S) + (4 * k)) < 2 ^ 31 by omega)]
              rw [show m 77 ((24 * S) + (4 * k)) = m 77 (24 * S + 4 * k) from rfl]
              refine mz_go 9 (c' := (81, [some (.ref 65), some (.int (nI S)), some (.int (nI k)), some (.int (nI (24 * S))), o], [.int (((nI (24 * S)) + (4 * (nI k))) + 1), .ref 77, .int (m 77 (24 * S + 4 * k))], mz_set m 66 s)) rfl ?_
              refine mz_arr (c' := (82, [some (.ref 65), some (.int (nI S)), some (.int (nI k)), some (.int (nI (24 * S))), o], [.int (m 77 ((((nI (24 * S)) + (4 * (nI k))) + 1).toNatClampNeg)), .int (m 77 (24 * S + 4 * k))], mz_set m 66 s)) rfl (show mz_in (((nI (24 * S)) + (4 * (nI k))) + 1) 96 = true from sm_inN (sm_addN (sm_addN rfl (sm_mulN rfl rfl)) rfl) (show (((24 * S) + (4 * k)) + 1) < 96 by omega) (by decide)) ?_
              rw [show (((nI (24 * S)) + (4 * (nI k))) + 1 : Int32).toNatClampNeg = (((24 * S) + (4 * k)) + 1) from sm_clN (sm_addN (sm_addN rfl (sm_mulN rfl rfl)) rfl) (show (((24 * S) + (4 * k)) + 1) < 2 ^ 31 by omega)]
              rw [show m 77 (((24 * S) + (4 * k)) + 1) = m 77 (24 * S + 4 * k + 1) from rfl]
              refine mz_go 9 (c' := (93, [some (.ref 65), some (.int (nI S)), some (.int (nI k)), some (.int (nI (24 * S))), o], [.int (((nI (24 * S)) + (4 * (nI k))) + 2), .ref 77, .int (m 77 (24 * S + 4 * k + 1)), .int (m 77 (24 * S + 4 * k))], mz_set m 66 s)) rfl ?_
              refine mz_arr (c' := (94, [some (.ref 65), some (.int (nI S)), some (.int (nI k)), some (.int (nI (24 * S))), o], [.int (m 77 ((((nI (24 * S)) + (4 * (nI k))) + 2).toNatClampNeg)), .int (m 77 (24 * S + 4 * k + 1)), .int (m 77 (24 * S + 4 * k))], mz_set m 66 s)) rfl (show mz_in (((nI (24 * S)) + (4 * (nI k))) + 2) 96 = true from sm_inN (sm_addN (sm_addN rfl (sm_mulN rfl rfl)) rfl) (show (((24 * S) + (4 * k)) + 2) < 96 by omega) (by decide)) ?_
              rw [show (((nI (24 * S)) + (4 * (nI k))) + 2 : Int32).toNatClampNeg = (((24 * S) + (4 * k)) + 2) from sm_clN (sm_addN (sm_addN rfl (sm_mulN rfl rfl)) rfl) (show (((24 * S) + (4 * k)) + 2) < 2 ^ 31 by omega)]
              rw [show m 77 (((24 * S) + (4 * k)) + 2) = m 77 (24 * S + 4 * k + 2) from rfl]
              refine mz_go 9 (c' := (105, [some (.ref 65), some (.int (nI S)), some (.int (nI k)), some (.int (nI (24 * S))), o], [.int (((nI (24 * S)) + (4 * (nI k))) + 3), .ref 77, .int (m 77 (24 * S + 4 * k + 2)), .int (m 77 (24 * S + 4 * k + 1)), .int (m 77 (24 * S + 4 * k))], mz_set m 66 s)) rfl ?_
              refine mz_arr (c' := (106, [some (.ref 65), some (.int (nI S)), some (.int (nI k)), some (.int (nI (24 * S))), o], [.int (m 77 ((((nI (24 * S)) + (4 * (nI k))) + 3).toNatClampNeg)), .int (m 77 (24 * S + 4 * k + 2)), .int (m 77 (24 * S + 4 * k + 1)), .int (m 77 (24 * S + 4 * k))], mz_set m 66 s)) rfl (show mz_in (((nI (24 * S)) + (4 * (nI k))) + 3) 96 = true from sm_inN (sm_addN (sm_addN rfl (sm_mulN rfl rfl)) rfl) (show (((24 * S) + (4 * k)) + 3) < 96 by omega) (by decide)) ?_
              rw [show (((nI (24 * S)) + (4 * (nI k))) + 3 : Int32).toNatClampNeg = (((24 * S) + (4 * k)) + 3) from sm_clN (sm_addN (sm_addN rfl (sm_mulN rfl rfl)) rfl) (show (((24 * S) + (4 * k)) + 3) < 2 ^ 31 by omega)]
              rw [show m 77 (((24 * S) + (4 * k)) + 3) = m 77 (24 * S + 4 * k + 3) from rfl]
              refine mz_doQ (R := mz_r135) (as := [.int (m 77 (24 * S + 4 * k)), .int (m 77 (24 * S + 4 * k + 1)), .int (m 77 (24 * S + 4 * k + 2)), .int (m 77 (24 * S + 4 * k + 3))]) (rest := []) (r1 := some (.int 0)) (m1 := mz_set m 66 s) mz_t135 mz_v135 rfl rfl rfl rfl rfl ⟨?_, rfl⟩ ?_
              · refine mz_go 3 (c' := (4, [some (.int (m 77 (24 * S + 4 * k))), some (.int (m 77 (24 * S + 4 * k + 1))), some (.int (m 77 (24 * S + 4 * k + 2))), some (.int (m 77 (24 * S + 4 * k + 3)))], [.int 6, .int 0, .int (m 77 (24 * S + 4 * k))], mz_set m 66 s)) rfl ?_
                refine mz_doQ (R := mz_r128) (as := [.int (m 77 (24 * S + 4 * k)), .int 0, .int 6]) (rest := []) (r1 := some (.int 1)) (m1 := mz_set m 66 s) mz_t128 mz_v128 rfl rfl rfl rfl rfl ((ct_in1 (m := mz_set m 66 s) (v := m 77 (24 * S + 4 * k)) (a := 0) (b := 6) (show ¬ ((m 77 (24 * S + 4 * k)) < 0) from (sm_in_lo q3)) (show ¬ (6 < (m 77 (24 * S + 4 * k))) from (sm_in_hi q3))).deep (by decide)) ?_
                refine mz_go 3 (c' := (12, [some (.int (m 77 (24 * S + 4 * k))), some (.int (m 77 (24 * S + 4 * k + 1))), some (.int (m 77 (24 * S + 4 * k + 2))), some (.int (m 77 (24 * S + 4 * k + 3)))], [.int (m 77 (24 * S + 4 * k + 2)), .int (m 77 (24 * S + 4 * k + 1))], mz_set m 66 s)) rfl ?_
                refine mz_doQ (R := mz_r131) (as := [.int (m 77 (24 * S + 4 * k + 1)), .int (m 77 (24 * S + 4 * k + 2))]) (rest := []) (r1 := some (.int (sm_bI (sm_plc (m 77 (24 * S + 4 * k + 1)) (m 77 (24 * S + 4 * k + 2)))))) (m1 := mz_set m 66 s) mz_t131 mz_v131 rfl rfl rfl rfl rfl ((ct_plc (m := mz_set m 66 s) (m 77 (24 * S + 4 * k + 1)) (m 77 (24 * S + 4 * k + 2))).deep (by decide)) ?_
                refine mz_go 1 (c' := (if (sm_bI (sm_plc (m 77 (24 * S + 4 * k + 1)) (m 77 (24 * S + 4 * k + 2)))) = 0 then 32 else 18, [some (.int (m 77 (24 * S + 4 * k))), some (.int (m 77 (24 * S + 4 * k + 1))), some (.int (m 77 (24 * S + 4 * k + 2))), some (.int (m 77 (24 * S + 4 * k + 3)))], [], mz_set m 66 s)) rfl ?_
                refine mz_ifT q4 ?_
                refine mz_go 1 (c' := (33, [some (.int (m 77 (24 * S + 4 * k))), some (.int (m 77 (24 * S + 4 * k + 1))), some (.int (m 77 (24 * S + 4 * k + 2))), some (.int (m 77 (24 * S + 4 * k + 3)))], [.int 0], mz_set m 66 s)) rfl ?_
                exact mz_ret rfl
              refine mz_go 1 (c' := (170, [some (.ref 65), some (.int (nI S)), some (.int (nI k)), some (.int (nI (24 * S))), o], [], mz_set m 66 s)) rfl ?_
              exact hr⟩
          · by_cases q5 : (sm_bI (sm_in (m 77 (24 * S + 4 * k + 3)) 0 99)) = 0
            · exact ⟨k, s, o, by omega, hA, hG, hs, fun res hr => by
                refine mz_go 8 (c' := (45, [some (.ref 65), some (.int (nI S)), some (.int (nI k)), some (.int (nI (24 * S))), o], [.int (nI S), .ref 76, .int ((4 * (nI k)) + 3)], mz_set m 66 s)) rfl ?_
                refine mz_arr (c' := (46, [some (.ref 65), some (.int (nI S)), some (.int (nI k)), some (.int (nI (24 * S))), o], [.int (m 76 ((nI S).toNatClampNeg)), .int ((4 * (nI k)) + 3)], mz_set m 66 s)) rfl (show mz_in (nI S) 4 = true from sm_inN rfl (show S < 4 by omega) (by decide)) ?_
                rw [show (nI S : Int32).toNatClampNeg = S from sm_clN rfl (show S < 2 ^ 31 by omega)]
                rw [e1]
                refine mz_go 1 (c' := (if (nI z) ≤ ((4 * (nI k)) + 3) then 170 else 49, [some (.ref 65), some (.int (nI S)), some (.int (nI k)), some (.int (nI (24 * S))), o], [], mz_set m 66 s)) rfl ?_
                refine mz_ifF (show ¬ ((nI z) ≤ ((4 * (nI k)) + 3)) from (sm_nleN rfl (sm_addN (sm_mulN rfl rfl) rfl) (show ((4 * k) + 3) < z by omega) (show z < 2 ^ 31 by omega))) ?_
                refine mz_go 4 (c' := (55, [some (.ref 65), some (.int (nI S)), some (.int (nI k)), some (.int (nI (24 * S))), o], [.int (s 0)], mz_set m 66 s)) rfl ?_
                rw [hs.1]
                refine mz_go 2 (c' := (if 6 ≤ (nI (N + k)) then 170 else 60, [some (.ref 65), some (.int (nI S)), some (.int (nI k)), some (.int (nI (24 * S))), o], [], mz_set m 66 s)) rfl ?_
                refine mz_ifF (show ¬ (6 ≤ (nI (N + k))) from (sm_nleN rfl rfl (show (N + k) < 6 by omega) (show 6 < 2 ^ 31 by omega))) ?_
                refine mz_go 7 (c' := (69, [some (.ref 65), some (.int (nI S)), some (.int (nI k)), some (.int (nI (24 * S))), o], [.int ((nI (24 * S)) + (4 * (nI k))), .ref 77], mz_set m 66 s)) rfl ?_
                refine mz_arr (c' := (70, [some (.ref 65), some (.int (nI S)), some (.int (nI k)), some (.int (nI (24 * S))), o], [.int (m 77 (((nI (24 * S)) + (4 * (nI k))).toNatClampNeg))], mz_set m 66 s)) rfl (show mz_in ((nI (24 * S)) + (4 * (nI k))) 96 = true from sm_inN (sm_addN rfl (sm_mulN rfl rfl)) (show ((24 * S) + (4 * k)) < 96 by omega) (by decide)) ?_
                rw [show ((nI (24 * S)) + (4 * (nI k)) : Int32).toNatClampNeg = ((24 * S) + (4 * k)) from sm_clN (sm_addN rfl (sm_mulN rfl rfl)) (show ((24 * S) + (4 * k)) < 2 ^ 31 by omega)]
                rw [show m 77 ((24 * S) + (4 * k)) = m 77 (24 * S + 4 * k) from rfl]
                refine mz_go 9 (c' := (81, [some (.ref 65), some (.int (nI S)), some (.int (nI k)), some (.int (nI (24 * S))), o], [.int (((nI (24 * S)) + (4 * (nI k))) + 1), .ref 77, .int (m 77 (24 * S + 4 * k))], mz_set m 66 s)) rfl ?_
                refine mz_arr (c' := (82, [some (.ref 65), some (.int (nI S)), some (.int (nI k)), some (.int (nI (24 * S))), o], [.int (m 77 ((((nI (24 * S)) + (4 * (nI k))) + 1).toNatClampNeg)), .int (m 77 (24 * S + 4 * k))], mz_set m 66 s)) rfl (show mz_in (((nI (24 * S)) + (4 * (nI k))) + 1) 96 = true from sm_inN (sm_addN (sm_addN rfl (sm_mulN rfl rfl)) rfl) (show (((24 * S) + (4 * k)) + 1) < 96 by omega) (by decide)) ?_
                rw [show (((nI (24 * S)) + (4 * (nI k))) + 1 : Int32).toNatClampNeg = (((24 * S) + (4 * k)) + 1) from sm_clN (sm_addN (sm_addN rfl (sm_mulN rfl rfl)) rfl) (show (((24 * S) + (4 * k)) + 1) < 2 ^ 31 by omega)]
                rw [show m 77 (((24 * S) + (4 * k)) + 1) = m 77 (24 * S + 4 * k + 1) from rfl]
                refine mz_go 9 (c' := (93, [some (.ref 65), some (.int (nI S)), some (.int (nI k)), some (.int (nI (24 * S))), o], [.int (((nI (24 * S)) + (4 * (nI k))) + 2), .ref 77, .int (m 77 (24 * S + 4 * k + 1)), .int (m 77 (24 * S + 4 * k))], mz_set m 66 s)) rfl ?_
                refine mz_arr (c' := (94, [some (.ref 65), some (.int (nI S)), some (.int (nI k)), some (.int (nI (24 * S))), o], [.int (m 77 ((((nI (24 * S)) + (4 * (nI k))) + 2).toNatClampNeg)), .int (m 77 (24 * S + 4 * k + 1)), .int (m 77 (24 * S + 4 * k))], mz_set m 66 s)) rfl (show mz_in (((nI (24 * S)) + (4 * (nI k))) + 2) 96 = true from sm_inN (sm_addN (sm_addN rfl (sm_mulN rfl rfl)) rfl) (show (((24 * S) + (4 * k)) + 2) < 96 by omega) (by decide)) ?_
                rw [show (((nI (24 * S)) + (4 * (nI k))) + 2 : Int32).toNatClampNeg = (((24 * S) + (4 * k)) + 2) from sm_clN (sm_addN (sm_addN rfl (sm_mulN rfl rfl)) rfl) (show (((24 * S) + (4 * k)) + 2) < 2 ^ 31 by omega)]
                rw [show m 77 (((24 * S) + (4 * k)) + 2) = m 77 (24 * S + 4 * k + 2) from rfl]
                refine mz_go 9 (c' := (105, [some (.ref 65), some (.int (nI S)), some (.int (nI k)), some (.int (nI (24 * S))), o], [.int (((nI (24 * S)) + (4 * (nI k))) + 3), .ref 77, .int (m 77 (24 * S + 4 * k + 2)), .int (m 77 (24 * S + 4 * k + 1)), .int (m 77 (24 * S + 4 * k))], mz_set m 66 s)) rfl ?_
                refine mz_arr (c' := (106, [some (.ref 65), some (.int (nI S)), some (.int (nI k)), some (.int (nI (24 * S))), o], [.int (m 77 ((((nI (24 * S)) + (4 * (nI k))) + 3).toNatClampNeg)), .int (m 77 (24 * S + 4 * k + 2)), .int (m 77 (24 * S + 4 * k + 1)), .int (m 77 (24 * S + 4 * k))], mz_set m 66 s)) rfl (show mz_in (((nI (24 * S)) + (4 * (nI k))) + 3) 96 = true from sm_inN (sm_addN (sm_addN rfl (sm_mulN rfl rfl)) rfl) (show (((24 * S) + (4 * k)) + 3) < 96 by omega) (by decide)) ?_
                rw [show (((nI (24 * S)) + (4 * (nI k))) + 3 : Int32).toNatClampNeg = (((24 * S) + (4 * k)) + 3) from sm_clN (sm_addN (sm_addN rfl (sm_mulN rfl rfl)) rfl) (show (((24 * S) + (4 * k)) + 3) < 2 ^ 31 by omega)]
                rw [show m 77 (((24 * S) + (4 * k)) + 3) = m 77 (24 * S + 4 * k + 3) from rfl]
                refine mz_doQ (R := mz_r135) (as := [.int (m 77 (24 * S + 4 * k)), .int (m 77 (24 * S + 4 * k + 1)), .int (m 77 (24 * S + 4 * k + 2)), .int (m 77 (24 * S + 4 * k + 3))]) (rest := []) (r1 := some (.int 0)) (m1 := mz_set m 66 s) mz_t135 mz_v135 rfl rfl rfl rfl rfl ⟨?_, rfl⟩ ?_
                · refine mz_go 3 (c' := (4, [some (.int (m 77 (24 * S + 4 * k))), some (.int (m 77 (24 * S + 4 * k + 1))), some (.int (m 77 (24 * S + 4 * k + 2))), some (.int (m 77 (24 * S + 4 * k + 3)))], [.int 6, .int 0, .int (m 77 (24 * S + 4 * k))], mz_set m 66 s)) rfl ?_
                  refine mz_doQ (R := mz_r128) (as := [.int (m 77 (24 * S + 4 * k)), .int 0, .int 6]) (rest := []) (r1 := some (.int 1)) (m1 := mz_set m 66 s) mz_t128 mz_v128 rfl rfl rfl rfl rfl ((ct_in1 (m := mz_set m 66 s) (v := m 77 (24 * S + 4 * k)) (a := 0) (b := 6) (show ¬ ((m 77 (24 * S + 4 * k)) < 0) from (sm_in_lo q3)) (show ¬ (6 < (m 77 (24 * S + 4 * k))) from (sm_in_hi q3))).deep (by decide)) ?_
                  refine mz_go 3 (c' := (12, [some (.int (m 77 (24 * S + 4 * k))), some (.int (m 77 (24 * S + 4 * k + 1))), some (.int (m 77 (24 * S + 4 * k + 2))), some (.int (m 77 (24 * S + 4 * k + 3)))], [.int (m 77 (24 * S + 4 * k + 2)), .int (m 77 (24 * S + 4 * k + 1))], mz_set m 66 s)) rfl ?_
                  refine mz_doQ (R := mz_r131) (as := [.int (m 77 (24 * S + 4 * k + 1)), .int (m 77 (24 * S + 4 * k + 2))]) (rest := []) (r1 := some (.int 1)) (m1 := mz_set m 66 s) mz_t131 mz_v131 rfl rfl rfl rfl rfl ⟨?_, rfl⟩ ?_
                  · refine mz_go 3 (c' := (5, [some (.int (m 77 (24 * S + 4 * k + 1))), some (.int (m 77 (24 * S + 4 * k + 2)))], [.int 100, .int (-100), .int (m 77 (24 * S + 4 * k + 1))], mz_set m 66 s)) rfl ?_
                    refine mz_doQ (R := mz_r128) (as := [.int (m 77 (24 * S + 4 * k + 1)), .int (-100), .int 100]) (rest := []) (r1 := some (.int 1)) (m1 := mz_set m 66 s) mz_t128 mz_v128 rfl rfl rfl rfl rfl ((ct_in1 (m := mz_set m 66 s) (v := m 77 (24 * S + 4 * k + 1)) (a := (-100)) (b := 100) (show ¬ ((m 77 (24 * S + 4 * k + 1)) < (-100)) from (sm_plc_of q4).1.1) (show ¬ (100 < (m 77 (24 * S + 4 * k + 1))) from (sm_plc_of q4).1.2)).deep (by decide)) ?_
                    refine mz_go 4 (c' := (16, [some (.int (m 77 (24 * S + 4 * k + 1))), some (.int (m 77 (24 * S + 4 * k + 2)))], [.int 100, .int (-100), .int (m 77 (24 * S + 4 * k + 2))], mz_set m 66 s)) rfl ?_
                    refine mz_doQ (R := mz_r128) (as := [.int (m 77 (24 * S + 4 * k + 2)), .int (-100), .int 100]) (rest := []) (r1 := some (.int 1)) (m1 := mz_set m 66 s) mz_t128 mz_v128 rfl rfl rfl rfl rfl ((ct_in1 (m := mz_set m 66 s) (v := m 77 (24 * S + 4 * k + 2)) (a := (-100)) (b := 100) (show ¬ ((m 77 (24 * S + 4 * k + 2)) < (-100)) from (sm_plc_of q4).2.1) (show ¬ (100 < (m 77 (24 * S + 4 * k + 2))) from (sm_plc_of q4).2.2)).deep (by decide)) ?_
                    refine mz_go 3 (c' := (27, [some (.int (m 77 (24 * S + 4 * k + 1))), some (.int (m 77 (24 * S + 4 * k + 2)))], [.int 1], mz_set m 66 s)) rfl ?_
                    exact mz_ret rfl
                  refine mz_go 4 (c' := (22, [some (.int (m 77 (24 * S + 4 * k))), some (.int (m 77 (24 * S + 4 * k + 1))), some (.int (m 77 (24 * S + 4 * k + 2))), some (.int (m 77 (24 * S + 4 * k + 3)))], [.int 99, .int 0, .int (m 77 (24 * S + 4 * k + 3))], mz_set m 66 s)) rfl ?_
                  refine mz_doQ (R := mz_r128) (as := [.int (m 77 (24 * S + 4 * k + 3)), .int 0, .int 99]) (rest := []) (r1 := some (.int (sm_bI (sm_in (m 77 (24 * S + 4 * k + 3)) 0 99)))) (m1 := mz_set m 66 s) mz_t128 mz_v128 rfl rfl rfl rfl rfl ((ct_in (m := mz_set m 66 s) (m 77 (24 * S + 4 * k + 3)) 0 99).deep (by decide)) ?_
                  refine mz_go 1 (c' := (if (sm_bI (sm_in (m 77 (24 * S + 4 * k + 3)) 0 99)) = 0 then 32 else 28, [some (.int (m 77 (24 * S + 4 * k))), some (.int (m 77 (24 * S + 4 * k + 1))), some (.int (m 77 (24 * S + 4 * k + 2))), some (.int (m 77 (24 * S + 4 * k + 3)))], [], mz_set m 66 s)) rfl ?_
                  refine mz_ifT q5 ?_
                  refine mz_go 1 (c' := (33, [some (.int (m 77 (24 * S + 4 * k))), some (.int (m 77 (24 * S + 4 * k + 1))), some (.int (m 77 (24 * S + 4 * k + 2))), some (.int (m 77 (24 * S + 4 * k + 3)))], [.int 0], mz_set m 66 s)) rfl ?_
                  exact mz_ret rfl
                refine mz_go 1 (c' := (170, [some (.ref 65), some (.int (nI S)), some (.int (nI k)), some (.int (nI (24 * S))), o], [], mz_set m 66 s)) rfl ?_
                exact hr⟩
            · exact absurd ⟨by omega, by omega, ⟨⟨(sm_in_lo q3), (sm_in_hi q3)⟩, ⟨(sm_plc_of q4).1.1, (sm_plc_of q4).1.2⟩, ⟨(sm_plc_of q4).2.1, (sm_plc_of q4).2.2⟩, (sm_in_lo q5), (sm_in_hi q5)⟩⟩ hG
  | succ j ih =>
    intro k hk hA s o hs
    have hNk : N + k ≤ 6 := by
      rcases Nat.eq_zero_or_pos k with e | e
      · omega
      · have h := (hA (k - 1) (by omega)).2.1
        omega
    by_cases hG : sm_mg (m 77) (24 * S) z N k
    · have hGa := hG.1
      have hGb := hG.2.1
      obtain ⟨⟨g1, g2⟩, ⟨g3, g4⟩, ⟨g5, g6⟩, g7, g8⟩ := hG.2.2
      have e66 : ∀ i, ((mz_up (mz_up (mz_up (mz_up (mz_up (mz_set m 66 s) 66 ((30 + (4 * (N + k))) + 0) (m 77 (24 * S + 4 * k))) 66 ((30 + (4 * (N + k))) + 1) (m 77 (24 * S + 4 * k + 1))) 66 ((30 + (4 * (N + k))) + 2) (m 77 (24 * S + 4 * k + 2))) 66 ((30 + (4 * (N + k))) + 3) (m 77 (24 * S + 4 * k + 3))) 66 0 ((nI (N + k)) + 1)) 66) i = if i = 0 then nI (N + k) + 1 else if i = 30 + 4 * (N + k) + 3 then (m 77 (24 * S + 4 * k + 3)) else if i = 30 + 4 * (N + k) + 2 then (m 77 (24 * S + 4 * k + 2)) else if i = 30 + 4 * (N + k) + 1 then (m 77 (24 * S + 4 * k + 1)) else if i = 30 + 4 * (N + k) + 0 then (m 77 (24 * S + 4 * k)) else s i := fun i => by
        rw [mz_up_eq, mz_up_eq, mz_up_eq, mz_up_eq, mz_up_eq, mz_set_eq]
      have hm : mz_up (mz_up (mz_up (mz_up (mz_up (mz_set m 66 s) 66 ((30 + (4 * (N + k))) + 0) (m 77 (24 * S + 4 * k))) 66 ((30 + (4 * (N + k))) + 1) (m 77 (24 * S + 4 * k + 1))) 66 ((30 + (4 * (N + k))) + 2) (m 77 (24 * S + 4 * k + 2))) 66 ((30 + (4 * (N + k))) + 3) (m 77 (24 * S + 4 * k + 3))) 66 0 ((nI (N + k)) + 1) = mz_set m 66 ((mz_up (mz_up (mz_up (mz_up (mz_up (mz_set m 66 s) 66 ((30 + (4 * (N + k))) + 0) (m 77 (24 * S + 4 * k))) 66 ((30 + (4 * (N + k))) + 1) (m 77 (24 * S + 4 * k + 1))) 66 ((30 + (4 * (N + k))) + 2) (m 77 (24 * S + 4 * k + 2))) 66 ((30 + (4 * (N + k))) + 3) (m 77 (24 * S + 4 * k + 3))) 66 0 ((nI (N + k)) + 1)) 66) := sm_of1 (fun i h1 => by simp only [mz_up_ne h1, mz_set_ne h1])
      obtain ⟨K, s', o', hK, h1, h2, h3, E⟩ := ih (k + 1) (by omega) (fun i hi => (Nat.lt_succ_iff_lt_or_eq.mp hi).elim (hA i) (fun e => e ▸ hG)) ((mz_up (mz_up (mz_up (mz_up (mz_up (mz_set m 66 s) 66 ((30 + (4 * (N + k))) + 0) (m 77 (24 * S + 4 * k))) 66 ((30 + (4 * (N + k))) + 1) (m 77 (24 * S + 4 * k + 1))) 66 ((30 + (4 * (N + k))) + 2) (m 77 (24 * S + 4 * k + 2))) 66 ((30 + (4 * (N + k))) + 3) (m 77 (24 * S + 4 * k + 3))) 66 0 ((nI (N + k)) + 1)) 66) (some (.int (((nI (N + k)) + 1) - 1))) (sm_ms_step hG.2.1 hs rfl rfl rfl rfl e66)
      refine ⟨K, s', o', hK, h1, h2, h3, fun res hr0 => ?_⟩
      have hr := E res hr0
      rw [nI_succ k, ← hm] at hr
      refine mz_go 8 (c' := (45, [some (.ref 65), some (.int (nI S)), some (.int (nI k)), some (.int (nI (24 * S))), o], [.int (nI S), .ref 76, .int ((4 * (nI k)) + 3)], mz_set m 66 s)) rfl ?_
      refine mz_arr (c' := (46, [some (.ref 65), some (.int (nI S)), some (.int (nI k)), some (.int (nI (24 * S))), o], [.int (m 76 ((nI S).toNatClampNeg)), .int ((4 * (nI k)) + 3)], mz_set m 66 s)) rfl (show mz_in (nI S) 4 = true from sm_inN rfl (show S < 4 by omega) (by decide)) ?_
      rw [show (nI S : Int32).toNatClampNeg = S from sm_clN rfl (show S < 2 ^ 31 by omega)]
      rw [e1]
      refine mz_go 1 (c' := (if (nI z) ≤ ((4 * (nI k)) + 3) then 170 else 49, [some (.ref 65), some (.int (nI S)), some (.int (nI k)), some (.int (nI (24 * S))), o], [], mz_set m 66 s)) rfl ?_
      refine mz_ifF (show ¬ ((nI z) ≤ ((4 * (nI k)) + 3)) from (sm_nleN rfl (sm_addN (sm_mulN rfl rfl) rfl) (show ((4 * k) + 3) < z by omega) (show z < 2 ^ 31 by omega))) ?_
      refine mz_go 4 (c' := (55, [some (.ref 65), some (.int (nI S)), some (.int (nI k)), some (.int (nI (24 * S))), o], [.int (s 0)], mz_set m 66 s)) rfl ?_
      rw [hs.1]
      refine mz_go 2 (c' := (if 6 ≤ (nI (N + k)) then 170 else 60, [some (.ref 65), some (.int (nI S)), some (.int (nI k)), some (.int (nI (24 * S))), o], [], mz_set m 66 s)) rfl ?_
      refine mz_ifF (show ¬ (6 ≤ (nI (N + k))) from (sm_nleN rfl rfl (show (N + k) < 6 by omega) (show 6 < 2 ^ 31 by omega))) ?_
      refine mz_go 7 (c' := (69, [some (.ref 65), some (.int (nI S)), some (.int (nI k)), some (.int (nI (24 * S))), o], [.int ((nI (24 * S)) + (4 * (nI k))), .ref 77], mz_set m 66 s)) rfl ?_
      refine mz_arr (c' := (70, [some (.ref 65), some (.int (nI S)), some (.int (nI k)), some (.int (nI (24 * S))), o], [.int (m 77 (((nI (24 * S)) + (4 * (nI k))).toNatClampNeg))], mz_set m 66 s)) rfl (show mz_in ((nI (24 * S)) + (4 * (nI k))) 96 = true from sm_inN (sm_addN rfl (sm_mulN rfl rfl)) (show ((24 * S) + (4 * k)) < 96 by omega) (by decide)) ?_
      rw [show ((nI (24 * S)) + (4 * (nI k)) : Int32).toNatClampNeg = ((24 * S) + (4 * k)) from sm_clN (sm_addN rfl (sm_mulN rfl rfl)) (show ((24 * S) + (4 * k)) < 2 ^ 31 by omega)]
      rw [show m 77 ((24 * S) + (4 * k)) = m 77 (24 * S + 4 * k) from rfl]
      refine mz_go 9 (c' := (81, [some (.ref 65), some (.int (nI S)), some (.int (nI k)), some (.int (nI (24 * S))), o], [.int (((nI (24 * S)) + (4 * (nI k))) + 1), .ref 77, .int (m 77 (24 * S + 4 * k))], mz_set m 66 s)) rfl ?_
      refine mz_arr (c' := (82, [some (.ref 65), some (.int (nI S)), some (.int (nI k)), some (.int (nI (24 * S))), o], [.int (m 77 ((((nI (24 * S)) + (4 * (nI k))) + 1).toNatClampNeg)), .int (m 77 (24 * S + 4 * k))], mz_set m 66 s)) rfl (show mz_in (((nI (24 * S)) + (4 * (nI k))) + 1) 96 = true from sm_inN (sm_addN (sm_addN rfl (sm_mulN rfl rfl)) rfl) (show (((24 * S) + (4 * k)) + 1) < 96 by omega) (by decide)) ?_
      rw [show (((nI (24 * S)) + (4 * (nI k))) + 1 : Int32).toNatClampNeg = (((24 * S) + (4 * k)) + 1) from sm_clN (sm_addN (sm_addN rfl (sm_mulN rfl rfl)) rfl) (show (((24 * S) + (4 * k)) + 1) < 2 ^ 31 by omega)]
      rw [show m 77 (((24 * S) + (4 * k)) + 1) = m 77 (24 * S + 4 * k + 1) from rfl]
      refine mz_go 9 (c' := (93, [some (.ref 65), some (.int (nI S)), some (.int (nI k)), some (.int (nI (24 * S))), o], [.int (((nI (24 * S)) + (4 * (nI k))) + 2), .ref 77, .int (m 77 (24 * S + 4 * k + 1)), .int (m 77 (24 * S + 4 * k))], mz_set m 66 s)) rfl ?_
      refine mz_arr (c' := (94, [some (.ref 65), some (.int (nI S)), some (.int (nI k)), some (.int (nI (24 * S))), o], [.int (m 77 ((((nI (24 * S)) + (4 * (nI k))) + 2).toNatClampNeg)), .int (m 77 (24 * S + 4 * k + 1)), .int (m 77 (24 * S + 4 * k))], mz_set m 66 s)) rfl (show mz_in (((nI (24 * S)) + (4 * (nI k))) + 2) 96 = true from sm_inN (sm_addN (sm_addN rfl (sm_mulN rfl rfl)) rfl) (show (((24 * S) + (4 * k)) + 2) < 96 by omega) (by decide)) ?_
      rw [show (((nI (24 * S)) + (4 * (nI k))) + 2 : Int32).toNatClampNeg = (((24 * S) + (4 * k)) + 2) from sm_clN (sm_addN (sm_addN rfl (sm_mulN rfl rfl)) rfl) (show (((24 * S) + (4 * k)) + 2) < 2 ^ 31 by omega)]
      rw [show m 77 (((24 * S) + (4 * k)) + 2) = m 77 (24 * S + 4 * k + 2) from rfl]
      refine mz_go 9 (c' := (105, [some (.ref 65), some (.int (nI S)), some (.int (nI k)), some (.int (nI (24 * S))), o], [.int (((nI (24 * S)) + (4 * (nI k))) + 3), .ref 77, .int (m 77 (24 * S + 4 * k + 2)), .int (m 77 (24 * S + 4 * k + 1)), .int (m 77 (24 * S + 4 * k))], mz_set m 66 s)) rfl ?_
      refine mz_arr (c' := (106, [some (.ref 65), some (.int (nI S)), some (.int (nI k)), some (.int (nI (24 * S))), o], [.int (m 77 ((((nI (24 * S)) + (4 * (nI k))) + 3).toNatClampNeg)), .int (m 77 (24 * S + 4 * k + 2)), .int (m 77 (24 * S + 4 * k + 1)), .int (m 77 (24 * S + 4 * k))], mz_set m 66 s)) rfl (show mz_in (((nI (24 * S)) + (4 * (nI k))) + 3) 96 = true from sm_inN (sm_addN (sm_addN rfl (sm_mulN rfl rfl)) rfl) (show (((24 * S) + (4 * k)) + 3) < 96 by omega) (by decide)) ?_
      rw [show (((nI (24 * S)) + (4 * (nI k))) + 3 : Int32).toNatClampNeg = (((24 * S) + (4 * k)) + 3) from sm_clN (sm_addN (sm_addN rfl (sm_mulN rfl rfl)) rfl) (show (((24 * S) + (4 * k)) + 3) < 2 ^ 31 by omega)]
      rw [show m 77 (((24 * S) + (4 * k)) + 3) = m 77 (24 * S + 4 * k + 3) from rfl]
      refine mz_doQ (R := mz_r135) (as := [.int (m 77 (24 * S + 4 * k)), .int (m 77 (24 * S + 4 * k + 1)), .int (m 77 (24 * S + 4 * k + 2)), .int (m 77 (24 * S + 4 * k + 3))]) (rest := []) (r1 := some (.int 1)) (m1 := mz_set m 66 s) mz_t135 mz_v135 rfl rfl rfl rfl rfl ⟨?_, rfl⟩ ?_
      · refine mz_go 3 (c' := (4, [some (.int (m 77 (24 * S + 4 * k))), some (.int (m 77 (24 * S + 4 * k + 1))), some (.int (m 77 (24 * S + 4 * k + 2))), some (.int (m 77 (24 * S + 4 * k + 3)))], [.int 6, .int 0, .int (m 77 (24 * S + 4 * k))], mz_set m 66 s)) rfl ?_
        refine mz_doQ (R := mz_r128) (as := [.int (m 77 (24 * S + 4 * k)), .int 0, .int 6]) (rest := []) (r1 := some (.int 1)) (m1 := mz_set m 66 s) mz_t128 mz_v128 rfl rfl rfl rfl rfl ((ct_in1 (m := mz_set m 66 s) (v := m 77 (24 * S + 4 * k)) (a := 0) (b := 6) g1 g2).deep (by decide)) ?_
        refine mz_go 3 (c' := (12, [some (.int (m 77 (24 * S + 4 * k))), some (.int (m 77 (24 * S + 4 * k + 1))), some (.int (m 77 (24 * S + 4 * k + 2))), some (.int (m 77 (24 * S + 4 * k + 3)))], [.int (m 77 (24 * S + 4 * k + 2)), .int (m 77 (24 * S + 4 * k + 1))], mz_set m 66 s)) rfl ?_
        refine mz_doQ (R := mz_r131) (as := [.int (m 77 (24 * S + 4 * k + 1)), .int (m 77 (24 * S + 4 * k + 2))]) (rest := []) (r1 := some (.int 1)) (m1 := mz_set m 66 s) mz_t131 mz_v131 rfl rfl rfl rfl rfl ⟨?_, rfl⟩ ?_
        · refine mz_go 3 (c' := (5, [some (.int (m 77 (24 * S + 4 * k + 1))), some (.int (m 77 (24 * S + 4 * k + 2)))], [.int 100, .int (-100), .int (m 77 (24 * S + 4 * k + 1))], mz_set m 66 s)) rfl ?_
          refine mz_doQ (R := mz_r128) (as := [.int (m 77 (24 * S + 4 * k + 1)), .int (-100), .int 100]) (rest := []) (r1 := some (.int 1)) (m1 := mz_set m 66 s) mz_t128 mz_v128 rfl rfl rfl rfl rfl ((ct_in1 (m := mz_set m 66 s) (v := m 77 (24 * S + 4 * k + 1)) (a := (-100)) (b := 100) g3 g4).deep (by decide)) ?_
          refine mz_go 4 (c' := (16, [some (.int (m 77 (24 * S + 4 * k + 1))), some (.int (m 77 (24 * S + 4 * k + 2)))], [.int 100, .int (-100), .int (m 77 (24 * S + 4 * k + 2))], mz_set m 66 s)) rfl ?_
          refine mz_doQ (R := mz_r128) (as := [.int (m 77 (24 * S + 4 * k + 2)), .int (-100), .int 100]) (rest := []) (r1 := some (.int 1)) (m1 := mz_set m 66 s) mz_t128 mz_v128 rfl rfl rfl rfl rfl ((ct_in1 (m := mz_set m 66 s) (v := m 77 (24 * S + 4 * k + 2)) (a := (-100)) (b := 100) g5 g6).deep (by decide)) ?_
          refine mz_go 3 (c' := (27, [some (.int (m 77 (24 * S + 4 * k + 1))), some (.int (m 77 (24 * S + 4 * k + 2)))], [.int 1], mz_set m 66 s)) rfl ?_
          exact mz_ret rfl
        refine mz_go 4 (c' := (22, [some (.int (m 77 (24 * S + 4 * k))), some (.int (m 77 (24 * S + 4 * k + 1))), some (.int (m 77 (24 * S + 4 * k + 2))), some (.int (m 77 (24 * S + 4 * k + 3)))], [.int 99, .int 0, .int (m 77 (24 * S + 4 * k + 3))], mz_set m 66 s)) rfl ?_
        refine mz_doQ (R := mz_r128) (as := [.int (m 77 (24 * S + 4 * k + 3)), .int 0, .int 99]) (rest := []) (r1 := some (.int 1)) (m1 := mz_set m 66 s) mz_t128 mz_v128 rfl rfl rfl rfl rfl ((ct_in1 (m := mz_set m 66 s) (v := m 77 (24 * S + 4 * k + 3)) (a := 0) (b := 99) g7 g8).deep (by decide)) ?_
        refine mz_go 3 (c' := (33, [some (.int (m 77 (24 * S + 4 * k))), some (.int (m 77 (24 * S + 4 * k + 1))), some (.int (m 77 (24 * S + 4 * k + 2))), some (.int (m 77 (24 * S + 4 * k + 3)))], [.int 1], mz_set m 66 s)) rfl ?_
        exact mz_ret rfl
      refine mz_go 9 (c' := (122, [some (.ref 65), some (.int (nI S)), some (.int (nI k)), some (.int (nI (24 * S))), o], [.int ((nI (24 * S)) + (4 * (nI k))), .ref 77, .ref 65], mz_set m 66 s)) rfl ?_
      refine mz_arr (c' := (123, [some (.ref 65), some (.int (nI S)), some (.int (nI k)), some (.int (nI (24 * S))), o], [.int (m 77 (((nI (24 * S)) + (4 * (nI k))).toNatClampNeg)), .ref 65], mz_set m 66 s)) rfl (show mz_in ((nI (24 * S)) + (4 * (nI k))) 96 = true from sm_inN (sm_addN rfl (sm_mulN rfl rfl)) (show ((24 * S) + (4 * k)) < 96 by omega) (by decide)) ?_
      rw [show ((nI (24 * S)) + (4 * (nI k)) : Int32).toNatClampNeg = ((24 * S) + (4 * k)) from sm_clN (sm_addN rfl (sm_mulN rfl rfl)) (show ((24 * S) + (4 * k)) < 2 ^ 31 by omega)]
      rw [show m 77 ((24 * S) + (4 * k)) = m 77 (24 * S + 4 * k) from rfl]
      refine mz_go 9 (c' := (134, [some (.ref 65), some (.int (nI S)), some (.int (nI k)), some (.int (nI (24 * S))), o], [.int (((nI (24 * S)) + (4 * (nI k))) + 1), .ref 77, .int (m 77 (24 * S + 4 * k)), .ref 65], mz_set m 66 s)) rfl ?_
      refine mz_arr (c' := (135, [some (.ref 65), some (.int (nI S)), some (.int (nI k)), some (.int (nI (24 * S))), o], [.int (m 77 ((((nI (24 * S)) + (4 * (nI k))) + 1).toNatClampNeg)), .int (m 77 (24 * S + 4 * k)), .ref 65], mz_set m 66 s)) rfl (show mz_in (((nI (24 * S)) + (4 * (nI k))) + 1) 96 = true from sm_inN (sm_addN (sm_addN rfl (sm_mulN rfl rfl)) rfl) (show (((24 * S) + (4 * k)) + 1) < 96 by omega) (by decide)) ?_
      rw [show (((nI (24 * S)) + (4 * (nI k))) + 1 : Int32).toNatClampNeg = (((24 * S) + (4 * k)) + 1) from sm_clN (sm_addN (sm_addN rfl (sm_mulN rfl rfl)) rfl) (show (((24 * S) + (4 * k)) + 1) < 2 ^ 31 by omega)]
      rw [show m 77 (((24 * S) + (4 * k)) + 1) = m 77 (24 * S + 4 * k + 1) from rfl]
      refine mz_go 9 (c' := (146, [some (.ref 65), some (.int (nI S)), some (.int (nI k)), some (.int (nI (24 * S))), o], [.int (((nI (24 * S)) + (4 * (nI k))) + 2), .ref 77, .int (m 77 (24 * S + 4 * k + 1)), .int (m 77 (24 * S + 4 * k)), .ref 65], mz_set m 66 s)) rfl ?_
      refine mz_arr (c' := (147, [some (.ref 65), some (.int (nI S)), some (.int (nI k)), some (.int (nI (24 * S))), o], [.int (m 77 ((((nI (24 * S)) + (4 * (nI k))) + 2).toNatClampNeg)), .int (m 77 (24 * S + 4 * k + 1)), .int (m 77 (24 * S + 4 * k)), .ref 65], mz_set m 66 s)) rfl (show mz_in (((nI (24 * S)) + (4 * (nI k))) + 2) 96 = true from sm_inN (sm_addN (sm_addN rfl (sm_mulN rfl rfl)) rfl) (show (((24 * S) + (4 * k)) + 2) < 96 by omega) (by decide)) ?_
      rw [show (((nI (24 * S)) + (4 * (nI k))) + 2 : Int32).toNatClampNeg = (((24 * S) + (4 * k)) + 2) from sm_clN (sm_addN (sm_addN rfl (sm_mulN rfl rfl)) rfl) (show (((24 * S) + (4 * k)) + 2) < 2 ^ 31 by omega)]
      rw [show m 77 (((24 * S) + (4 * k)) + 2) = m 77 (24 * S + 4 * k + 2) from rfl]
      refine mz_go 9 (c' := (158, [some (.ref 65), some (.int (nI S)), some (.int (nI k)), some (.int (nI (24 * S))), o], [.int (((nI (24 * S)) + (4 * (nI k))) + 3), .ref 77, .int (m 77 (24 * S + 4 * k + 2)), .int (m 77 (24 * S + 4 * k + 1)), .int (m 77 (24 * S + 4 * k)), .ref 65], mz_set m 66 s)) rfl ?_
      refine mz_arr (c' := (159, [some (.ref 65), some (.int (nI S)), some (.int (nI k)), some (.int (nI (24 * S))), o], [.int (m 77 ((((nI (24 * S)) + (4 * (nI k))) + 3).toNatClampNeg)), .int (m 77 (24 * S + 4 * k + 2)), .int (m 77 (24 * S + 4 * k + 1)), .int (m 77 (24 * S + 4 * k)), .ref 65], mz_set m 66 s)) rfl (show mz_in (((nI (24 * S)) + (4 * (nI k))) + 3) 96 = true from sm_inN (sm_addN (sm_addN rfl (sm_mulN rfl rfl)) rfl) (show (((24 * S) + (4 * k)) + 3) < 96 by omega) (by decide)) ?_
      rw [show (((nI (24 * S)) + (4 * (nI k))) + 3 : Int32).toNatClampNeg = (((24 * S) + (4 * k)) + 3) from sm_clN (sm_addN (sm_addN rfl (sm_mulN rfl rfl)) rfl) (show (((24 * S) + (4 * k)) + 3) < 2 ^ 31 by omega)]
      rw [show m 77 (((24 * S) + (4 * k)) + 3) = m 77 (24 * S + 4 * k + 3) from rfl]
      refine mz_doQ (R := mz_r136) (as := [.ref 65, .int (m 77 (24 * S + 4 * k)), .int (m 77 (24 * S + 4 * k + 1)), .int (m 77 (24 * S + 4 * k + 2)), .int (m 77 (24 * S + 4 * k + 3))]) (rest := []) (r1 := some (.int (((nI (N + k)) + 1) - 1))) (m1 := mz_up (mz_up (mz_up (mz_up (mz_up (mz_set m 66 s) 66 ((30 + (4 * (N + k))) + 0) (m 77 (24 * S + 4 * k))) 66 ((30 + (4 * (N + k))) + 1) (m 77 (24 * S + 4 * k + 1))) 66 ((30 + (4 * (N + k))) + 2) (m 77 (24 * S + 4 * k + 2))) 66 ((30 + (4 * (N + k))) + 3) (m 77 (24 * S + 4 * k + 3))) 66 0 ((nI (N + k)) + 1)) mz_t136 mz_v136_65 rfl rfl rfl rfl rfl ⟨?_, rfl⟩ ?_
      · refine mz_go 6 (c' := (9, [some (.ref 65), some (.int (m 77 (24 * S + 4 * k))), some (.int (m 77 (24 * S + 4 * k + 1))), some (.int (m 77 (24 * S + 4 * k + 2))), some (.int (m 77 (24 * S + 4 * k + 3))), none], [.int (s 0), .int 4, .int 30], mz_set m 66 s)) rfl ?_
        rw [hs.1]
        refine mz_go 9 (c' := (22, [some (.ref 65), some (.int (m 77 (24 * S + 4 * k))), some (.int (m 77 (24 * S + 4 * k + 1))), some (.int (m 77 (24 * S + 4 * k + 2))), some (.int (m 77 (24 * S + 4 * k + 3))), some (.int (30 + (4 * (nI (N + k)))))], [.int (m 77 (24 * S + 4 * k)), .int ((30 + (4 * (nI (N + k)))) + 0), .ref 66], mz_set m 66 s)) rfl ?_
        refine mz_arr (c' := (23, [some (.ref 65), some (.int (m 77 (24 * S + 4 * k))), some (.int (m 77 (24 * S + 4 * k + 1))), some (.int (m 77 (24 * S + 4 * k + 2))), some (.int (m 77 (24 * S + 4 * k + 3))), some (.int (30 + (4 * (nI (N + k)))))], [], mz_up (mz_set m 66 s) 66 (((30 + (4 * (nI (N + k)))) + 0).toNatClampNeg) (m 77 (24 * S + 4 * k)))) rfl (show mz_in ((30 + (4 * (nI (N + k)))) + 0) 650 = true from sm_inN (sm_addN (sm_addN rfl (sm_mulN rfl rfl)) rfl) (show ((30 + (4 * (N + k))) + 0) < 650 by omega) (by decide)) ?_
        rw [show ((30 + (4 * (nI (N + k)))) + 0 : Int32).toNatClampNeg = ((30 + (4 * (N + k))) + 0) from sm_clN (sm_addN (sm_addN rfl (sm_mulN rfl rfl)) rfl) (show ((30 + (4 * (N + k))) + 0) < 2 ^ 31 by omega)]
        refine mz_go 6 (c' := (32, [some (.ref 65), some (.int (m 77 (24 * S + 4 * k))), some (.int (m 77 (24 * S + 4 * k + 1))), some (.int (m 77 (24 * S + 4 * k + 2))), some (.int (m 77 (24 * S + 4 * k + 3))), some (.int (30 + (4 * (nI (N + k)))))], [.int (m 77 (24 * S + 4 * k + 1)), .int ((30 + (4 * (nI (N + k)))) + 1), .ref 66], mz_up (mz_set m 66 s) 66 ((30 + (4 * (N + k))) + 0) (m 77 (24 * S + 4 * k)))) rfl ?_
        refine mz_arr (c' := (33, [some (.ref 65), some (.int (m 77 (24 * S + 4 * k))), some (.int (m 77 (24 * S + 4 * k + 1))), some (.int (m 77 (24 * S + 4 * k + 2))), some (.int (m 77 (24 * S + 4 * k + 3))), some (.int (30 + (4 * (nI (N + k)))))], [], mz_up (mz_up (mz_set m 66 s) 66 ((30 + (4 * (N + k))) + 0) (m 77 (24 * S + 4 * k))) 66 (((30 + (4 * (nI (N + k)))) + 1).toNatClampNeg) (m 77 (24 * S + 4 * k + 1)))) rfl (show mz_in ((30 + (4 * (nI (N + k)))) + 1) 650 = true from sm_inN (sm_addN (sm_addN rfl (sm_mulN rfl rfl)) rfl) (show ((30 + (4 * (N + k))) + 1) < 650 by omega) (by decide)) ?_
        rw [show ((30 + (4 * (nI (N + k)))) + 1 : Int32).toNatClampNeg = ((30 + (4 * (N + k))) + 1) from sm_clN (sm_addN (sm_addN rfl (sm_mulN rfl rfl)) rfl) (show ((30 + (4 * (N + k))) + 1) < 2 ^ 31 by omega)]
        refine mz_go 6 (c' := (42, [some (.ref 65), some (.int (m 77 (24 * S + 4 * k))), some (.int (m 77 (24 * S + 4 * k + 1))), some (.int (m 77 (24 * S + 4 * k + 2))), some (.int (m 77 (24 * S + 4 * k + 3))), some (.int (30 + (4 * (nI (N + k)))))], [.int (m 77 (24 * S + 4 * k + 2)), .int ((30 + (4 * (nI (N + k)))) + 2), .ref 66], mz_up (mz_up (mz_set m 66 s) 66 ((30 + (4 * (N + k))) + 0) (m 77 (24 * S + 4 * k))) 66 ((30 + (4 * (N + k))) + 1) (m 77 (24 * S + 4 * k + 1)))) rfl ?_
        refine mz_arr (c' := (43, [some (.ref 65), some (.int (m 77 (24 * S + 4 * k))), some (.int (m 77 (24 * S + 4 * k + 1))), some (.int (m 77 (24 * S + 4 * k + 2))), some (.int (m 77 (24 * S + 4 * k + 3))), some (.int (30 + (4 * (nI (N + k)))))], [], mz_up (mz_up (mz_up (mz_set m 66 s) 66 ((30 + (4 * (N + k))) + 0) (m 77 (24 * S + 4 * k))) 66 ((30 + (4 * (N + k))) + 1) (m 77 (24 * S + 4 * k + 1))) 66 (((30 + (4 * (nI (N + k)))) + 2).toNatClampNeg) (m 77 (24 * S + 4 * k + 2)))) rfl (show mz_in ((30 + (4 * (nI (N + k)))) + 2) 650 = true from sm_inN (sm_addN (sm_addN rfl (sm_mulN rfl rfl)) rfl) (show ((30 + (4 * (N + k))) + 2) < 650 by omega) (by decide)) ?_
        rw [show ((30 + (4 * (nI (N + k)))) + 2 : Int32).toNatClampNeg = ((30 + (4 * (N + k))) + 2) from sm_clN (sm_addN (sm_addN rfl (sm_mulN rfl rfl)) rfl) (show ((30 + (4 * (N + k))) + 2) < 2 ^ 31 by omega)]
        refine mz_go 6 (c' := (53, [some (.ref 65), some (.int (m 77 (24 * S + 4 * k))), some (.int (m 77 (24 * S + 4 * k + 1))), some (.int (m 77 (24 * S + 4 * k + 2))), some (.int (m 77 (24 * S + 4 * k + 3))), some (.int (30 + (4 * (nI (N + k)))))], [.int (m 77 (24 * S + 4 * k + 3)), .int ((30 + (4 * (nI (N + k)))) + 3), .ref 66], mz_up (mz_up (mz_up (mz_set m 66 s) 66 ((30 + (4 * (N + k))) + 0) (m 77 (24 * S + 4 * k))) 66 ((30 + (4 * (N + k))) + 1) (m 77 (24 * S + 4 * k + 1))) 66 ((30 + (4 * (N + k))) + 2) (m 77 (24 * S + 4 * k + 2)))) rfl ?_
        refine mz_arr (c' := (54, [some (.ref 65), some (.int (m 77 (24 * S + 4 * k))), some (.int (m 77 (24 * S + 4 * k + 1))), some (.int (m 77 (24 * S + 4 * k + 2))), some (.int (m 77 (24 * S + 4 * k + 3))), some (.int (30 + (4 * (nI (N + k)))))], [], mz_up (mz_up (mz_up (mz_up (mz_set m 66 s) 66 ((30 + (4 * (N + k))) + 0) (m 77 (24 * S + 4 * k))) 66 ((30 + (4 * (N + k))) + 1) (m 77 (24 * S + 4 * k + 1))) 66 ((30 + (4 * (N + k))) + 2) (m 77 (24 * S + 4 * k + 2))) 66 (((30 + (4 * (nI (N + k)))) + 3).toNatClampNeg) (m 77 (24 * S + 4 * k + 3)))) rfl (show mz_in ((30 + (4 * (nI (N + k)))) + 3) 650 = true from sm_inN (sm_addN (sm_addN rfl (sm_mulN rfl rfl)) rfl) (show ((30 + (4 * (N + k))) + 3) < 650 by omega) (by decide)) ?_
        rw [show ((30 + (4 * (nI (N + k)))) + 3 : Int32).toNatClampNeg = ((30 + (4 * (N + k))) + 3) from sm_clN (sm_addN (sm_addN rfl (sm_mulN rfl rfl)) rfl) (show ((30 + (4 * (N + k))) + 3) < 2 ^ 31 by omega)]
        refine mz_go 5 (c' := (61, [some (.ref 65), some (.int (m 77 (24 * S + 4 * k))), some (.int (m 77 (24 * S + 4 * k + 1))), some (.int (m 77 (24 * S + 4 * k + 2))), some (.int (m 77 (24 * S + 4 * k + 3))), some (.int (30 + (4 * (nI (N + k)))))], [.int ((mz_up (mz_up (mz_up (mz_up (mz_set m 66 s) 66 ((30 + (4 * (N + k))) + 0) (m 77 (24 * S + 4 * k))) 66 ((30 + (4 * (N + k))) + 1) (m 77 (24 * S + 4 * k + 1))) 66 ((30 + (4 * (N + k))) + 2) (m 77 (24 * S + 4 * k + 2))) 66 ((30 + (4 * (N + k))) + 3) (m 77 (24 * S + 4 * k + 3))) 66 0), .int 0, .ref 66], mz_up (mz_up (mz_up (mz_up (mz_set m 66 s) 66 ((30 + (4 * (N + k))) + 0) (m 77 (24 * S + 4 * k))) 66 ((30 + (4 * (N + k))) + 1) (m 77 (24 * S + 4 * k + 1))) 66 ((30 + (4 * (N + k))) + 2) (m 77 (24 * S + 4 * k + 2))) 66 ((30 + (4 * (N + k))) + 3) (m 77 (24 * S + 4 * k + 3)))) rfl ?_
        rw [show (mz_up (mz_up (mz_up (mz_up (mz_set m 66 s) 66 ((30 + (4 * (N + k))) + 0) (m 77 (24 * S + 4 * k))) 66 ((30 + (4 * (N + k))) + 1) (m 77 (24 * S + 4 * k + 1))) 66 ((30 + (4 * (N + k))) + 2) (m 77 (24 * S + 4 * k + 2))) 66 ((30 + (4 * (N + k))) + 3) (m 77 (24 * S + 4 * k + 3))) 66 0 = s 0 from by rw [mz_up_eq, if_neg (show ¬ 0 = ((30 + (4 * (N + k))) + 3) by omega), mz_up_eq, if_neg (show ¬ 0 = ((30 + (4 * (N + k))) + 2) by omega), mz_up_eq, if_neg (show ¬ 0 = ((30 + (4 * (N + k))) + 1) by omega), mz_up_eq, if_neg (show ¬ 0 = ((30 + (4 * (N + k))) + 0) by omega), mz_set_eq]]
        rw [hs.1]
        refine mz_go 9 (c' := (72, [some (.ref 65), some (.int (m 77 (24 * S + 4 * k))), some (.int (m 77 (24 * S + 4 * k + 1))), some (.int (m 77 (24 * S + 4 * k + 2))), some (.int (m 77 (24 * S + 4 * k + 3))), some (.int (30 + (4 * (nI (N + k)))))], [.int (((nI (N + k)) + 1) - 1)], mz_up (mz_up (mz_up (mz_up (mz_up (mz_set m 66 s) 66 ((30 + (4 * (N + k))) + 0) (m 77 (24 * S + 4 * k))) 66 ((30 + (4 * (N + k))) + 1) (m 77 (24 * S + 4 * k + 1))) 66 ((30 + (4 * (N + k))) + 2) (m 77 (24 * S + 4 * k + 2))) 66 ((30 + (4 * (N + k))) + 3) (m 77 (24 * S + 4 * k + 3))) 66 0 ((nI (N + k)) + 1))) rfl ?_
        exact mz_ret rfl
      refine mz_go 3 (c' := (35, [some (.ref 65), some (.int (nI S)), some (.int ((nI k) + 1)), some (.int (nI (24 * S))), some (.int (((nI (N + k)) + 1) - 1))], [], mz_up (mz_up (mz_up (mz_up (mz_up (mz_set m 66 s) 66 ((30 + (4 * (N + k))) + 0) (m 77 (24 * S + 4 * k))) 66 ((30 + (4 * (N + k))) + 1) (m 77 (24 * S + 4 * k + 1))) 66 ((30 + (4 * (N + k))) + 2) (m 77 (24 * S + 4 * k + 2))) 66 ((30 + (4 * (N + k))) + 3) (m 77 (24 * S + 4 * k + 3))) 66 0 ((nI (N + k)) + 1))) rfl ?_
      exact hr
    · skip
      by_cases q1 : z ≤ ((4 * k) + 3)
      · exact ⟨k, s, o, by omega, hA, hG, hs, fun res hr => by
          refine mz_go 8 (c' := (45, [some (.ref 65), some (.int (nI S)), some (.int (nI k)), some (.int (nI (24 * S))), o], [.int (nI S), .ref 76, .int ((4 * (nI k)) + 3)], mz_set m 66 s)) rfl ?_
          refine mz_arr (c' := (46, [some (.ref 65), some (.int (nI S)), some (.int (nI k)), some (.int (nI (24 * S))), o], [.int (m 76 ((nI S).toNatClampNeg)), .int ((4 * (nI k)) + 3)], mz_set m 66 s)) rfl (show mz_in (nI S) 4 = true from sm_inN rfl (show S < 4 by omega) (by decide)) ?_
          rw [show (nI S : Int32).toNatClampNeg = S from sm_clN rfl (show S < 2 ^ 31 by omega)]
          rw [e1]
          refine mz_go 1 (c' := (if (nI z) ≤ ((4 * (nI k)) + 3) then 170 else 49, [some (.ref 65), some (.int (nI S)), some (.int (nI k)), some (.int (nI (24 * S))), o], [], mz_set m 66 s)) rfl ?_
          refine mz_ifT (show ((nI z) ≤ ((4 * (nI k)) + 3)) from (sm_leN rfl (sm_addN (sm_mulN rfl rfl) rfl) (show z ≤ ((4 * k) + 3) by omega) (show ((4 * k) + 3) < 2 ^ 31 by omega))) ?_
          exact hr⟩
      · by_cases q2 : 6 ≤ (N + k)
        · exact ⟨k, s, o, by omega, hA, hG, hs, fun res hr => by
            refine mz_go 8 (c' := (45, [some (.ref 65), some (.int (nI S)), some (.int (nI k)), some (.int (nI (24 * S))), o], [.int (nI S), .ref 76, .int ((4 * (nI k)) + 3)], mz_set m 66 s)) rfl ?_
            refine mz_arr (c' := (46, [some (.ref 65), some (.int (nI S)), some (.int (nI k)), some (.int (nI (24 * S))), o], [.int (m 76 ((nI S).toNatClampNeg)), .int ((4 * (nI k)) + 3)], mz_set m 66 s)) rfl (show mz_in (nI S) 4 = true from sm_inN rfl (show S < 4 by omega) (by decide)) ?_
            rw [show (nI S : Int32).toNatClampNeg = S from sm_clN rfl (show S < 2 ^ 31 by omega)]
            rw [e1]
            refine mz_go 1 (c' := (if (nI z) ≤ ((4 * (nI k)) + 3) then 170 else 49, [some (.ref 65), some (.int (nI S)), some (.int (nI k)), some (.int (nI (24 * S))), o], [], mz_set m 66 s)) rfl ?_
            refine mz_ifF (show ¬ ((nI z) ≤ ((4 * (nI k)) + 3)) from (sm_nleN rfl (sm_addN (sm_mulN rfl rfl) rfl) (show ((4 * k) + 3) < z by omega) (show z < 2 ^ 31 by omega))) ?_
            refine mz_go 4 (c' := (55, [some (.ref 65), some (.int (nI S)), some (.int (nI k)), some (.int (nI (24 * S))), o], [.int (s 0)], mz_set m 66 s)) rfl ?_
            rw [hs.1]
            refine mz_go 2 (c' := (if 6 ≤ (nI (N + k)) then 170 else 60, [some (.ref 65), some (.int (nI S)), some (.int (nI k)), some (.int (nI (24 * S))), o], [], mz_set m 66 s)) rfl ?_
            refine mz_ifT (show (6 ≤ (nI (N + k))) from (sm_leN rfl rfl (show 6 ≤ (N + k) by omega) (show (N + k) < 2 ^ 31 by omega))) ?_
            exact hr⟩
        · by_cases q3 : (sm_bI (sm_in (m 77 (24 * S + 4 * k)) 0 6)) = 0
          · exact ⟨k, s, o, by omega, hA, hG, hs, fun res hr => by
              refine mz_go 8 (c' := (45, [some (.ref 65), some (.int (nI S)), some (.int (nI k)), some (.int (nI (24 * S))), o], [.int (nI S), .ref 76, .int ((4 * (nI k)) + 3)], mz_set m 66 s)) rfl ?_
              refine mz_arr (c' := (46, [some (.ref 65), some (.int (nI S)), some (.int (nI k)), some (.int (nI (24 * S))), o], [.int (m 76 ((nI S).toNatClampNeg)), .int ((4 * (nI k)) + 3)], mz_set m 66 s)) rfl (show mz_in (nI S) 4 = true from sm_inN rfl (show S < 4 by omega) (by decide)) ?_
              rw [show (nI S : Int32).toNatClampNeg = S from sm_clN rfl (show S < 2 ^ 31 by omega)]
              rw [e1]
              refine mz_go 1 (c' := (if (nI z) ≤ ((4 * (nI k)) + 3) then 170 else 49, [some (.ref 65), some (.int (nI S)), some (.int (nI k)), some (.int (nI (24 * S))), o], [], mz_set m 66 s)) rfl ?_
              refine mz_ifF (show ¬ ((nI z) ≤ ((4 * (nI k)) + 3)) from (sm_nleN rfl (sm_addN (sm_mulN rfl rfl) rfl) (show ((4 * k) + 3) < z by omega) (show z < 2 ^ 31 by omega))) ?_
              refine mz_go 4 (c' := (55, [some (.ref 65), some (.int (nI S)), some (.int (nI k)), some (.int (nI (24 * S))), o], [.int (s 0)], mz_set m 66 s)) rfl ?_
              rw [hs.1]
              refine mz_go 2 (c' := (if 6 ≤ (nI (N + k)) then 170 else 60, [some (.ref 65), some (.int (nI S)), some (.int (nI k)), some (.int (nI (24 * S))), o], [], mz_set m 66 s)) rfl ?_
              refine mz_ifF (show ¬ (6 ≤ (nI (N + k))) from (sm_nleN rfl rfl (show (N + k) < 6 by omega) (show 6 < 2 ^ 31 by omega))) ?_
              refine mz_go 7 (c' := (69, [some (.ref 65), some (.int (nI S)), some (.int (nI k)), some (.int (nI (24 * S))), o], [.int ((nI (24 * S)) + (4 * (nI k))), .ref 77], mz_set m 66 s)) rfl ?_
              refine mz_arr (c' := (70, [some (.ref 65), some (.int (nI S)), some (.int (nI k)), some (.int (nI (24 * S))), o], [.int (m 77 (((nI (24 * S)) + (4 * (nI k))).toNatClampNeg))], mz_set m 66 s)) rfl (show mz_in ((nI (24 * S)) + (4 * (nI k))) 96 = true from sm_inN (sm_addN rfl (sm_mulN rfl rfl)) (show ((24 * S) + (4 * k)) < 96 by omega) (by decide)) ?_
              rw [show ((nI (24 * S)) + (4 * (nI k)) : Int32).toNatClampNeg = ((24 * S) + (4 * k)) from sm_clN (sm_addN rfl (sm_mulN rfl rfl)) (show ((24 * S) + (4 * k)) < 2 ^ 31 by omega)]
              rw [show m 77 ((24 * S) + (4 * k)) = m 77 (24 * S + 4 * k) from rfl]
              refine mz_go 9 (c' := (81, [some (.ref 65), some (.int (nI S)), some (.int (nI k)), some (.int (nI (24 * S))), o], [.int (((nI (24 * S)) + (4 * (nI k))) + 1), .ref 77, .int (m 77 (24 * S + 4 * k))], mz_set m 66 s)) rfl ?_
              refine mz_arr (c' := (82, [some (.ref 65), some (.int (nI S)), some (.int (nI k)), some (.int (nI (24 * S))), o], [.int (m 77 ((((nI (24 * S)) + (4 * (nI k))) + 1).toNatClampNeg)), .int (m 77 (24 * S + 4 * k))], mz_set m 66 s)) rfl (show mz_in (((nI (24 * S)) + (4 * (nI k))) + 1) 96 = true from sm_inN (sm_addN (sm_addN rfl (sm_mulN rfl rfl)) rfl) (show (((24 * S) + (4 * k)) + 1) < 96 by omega) (by decide)) ?_
              rw [show (((nI (24 * S)) + (4 * (nI k))) + 1 : Int32).toNatClampNeg = (((24 * S) + (4 * k)) + 1) from sm_clN (sm_addN (sm_addN rfl (sm_mulN rfl rfl)) rfl) (show (((24 * S) + (4 * k)) + 1) < 2 ^ 31 by omega)]
              rw [show m 77 (((24 * S) + (4 * k)) + 1) = m 77 (24 * S + 4 * k + 1) from rfl]
              refine mz_go 9 (c' := (93, [some (.ref 65), some (.int (nI S)), some (.int (nI k)), some (.int (nI (24 * S))), o], [.int (((nI (24 * S)) + (4 * (nI k))) + 2), .ref 77, .int (m 77 (24 * S + 4 * k + 1)), .int (m 77 (24 * S + 4 * k))], mz_set m 66 s)) rfl ?_
              refine mz_arr (c' := (94, [some (.ref 65), some (.int (nI S)), some (.int (nI k)), some (.int (nI (24 * S))), o], [.int (m 77 ((((nI (24 * S)) + (4 * (nI k))) + 2).toNatClampNeg)), .int (m 77 (24 * S + 4 * k + 1)), .int (m 77 (24 * S + 4 * k))], mz_set m 66 s)) rfl (show mz_in (((nI (24 * S)) + (4 * (nI k))) + 2) 96 = true from sm_inN (sm_addN (sm_addN rfl (sm_mulN rfl rfl)) rfl) (show (((24 * S) + (4 * k)) + 2) < 96 by omega) (by decide)) ?_
              rw [show (((nI (24 * S)) + (4 * (nI k))) + 2 : Int32).toNatClampNeg = (((24 * S) + (4 * k)) + 2) from sm_clN (sm_addN (sm_addN rfl (sm_mulN rfl rfl)) rfl) (show (((24 * S) + (4 * k)) + 2) < 2 ^ 31 by omega)]
              rw [show m 77 (((24 * S) + (4 * k)) + 2) = m 77 (24 * S + 4 * k + 2) from rfl]
              refine mz_go 9 (c' := (105, [some (.ref 65), some (.int (nI S)), some (.int (nI k)), some (.int (nI (24 * S))), o], [.int (((nI (24 * S)) + (4 * (nI k))) + 3), .ref 77, .int (m 77 (24 * S + 4 * k + 2)), .int (m 77 (24 * S + 4 * k + 1)), .int (m 77 (24 * S + 4 * k))], mz_set m 66 s)) rfl ?_
              refine mz_arr (c' := (106, [some (.ref 65), some (.int (nI S)), some (.int (nI k)), some (.int (nI (24 * S))), o], [.int (m 77 ((((nI (24 * S)) + (4 * (nI k))) + 3).toNatClampNeg)), .int (m 77 (24 * S + 4 * k + 2)), .int (m 77 (24 * S + 4 * k + 1)), .int (m 77 (24 * S + 4 * k))], mz_set m 66 s)) rfl (show mz_in (((nI (24 * S)) + (4 * (nI k))) + 3) 96 = true from sm_inN (sm_addN (sm_addN rfl (sm_mulN rfl rfl)) rfl) (show (((24 * S) + (4 * k)) + 3) < 96 by omega) (by decide)) ?_
              rw [show (((nI (24 * S)) + (4 * (nI k))) + 3 : Int32).toNatClampNeg = (((24 * S) + (4 * k)) + 3) from sm_clN (sm_addN (sm_addN rfl (sm_mulN rfl rfl)) rfl) (show (((24 * S) + (4 * k)) + 3) < 2 ^ 31 by omega)]
              rw [show m 77 (((24 * S) + (4 * k)) + 3) = m 77 (24 * S + 4 * k + 3) from rfl]
              refine mz_doQ (R := mz_r135) (as := [.int (m 77 (24 * S + 4 * k)), .int (m 77 (24 * S + 4 * k + 1)), .int (m 77 (24 * S + 4 * k + 2)), .int (m 77 (24 * S + 4 * k + 3))]) (rest := []) (r1 := some (.int 0)) (m1 := mz_set m 66 s) mz_t135 mz_v135 rfl rfl rfl rfl rfl ⟨?_, rfl⟩ ?_
              · refine mz_go 3 (c' := (4, [some (.int (m 77 (24 * S + 4 * k))), some (.int (m 77 (24 * S + 4 * k + 1))), some (.int (m 77 (24 * S + 4 * k + 2))), some (.int (m 77 (24 * S + 4 * k + 3)))], [.int 6, .int 0, .int (m 77 (24 * S + 4 * k))], mz_set m 66 s)) rfl ?_
                refine mz_doQ (R := mz_r128) (as := [.int (m 77 (24 * S + 4 * k)), .int 0, .int 6]) (rest := []) (r1 := some (.int (sm_bI (sm_in (m 77 (24 * S + 4 * k)) 0 6)))) (m1 := mz_set m 66 s) mz_t128 mz_v128 rfl rfl rfl rfl rfl ((ct_in (m := mz_set m 66 s) (m 77 (24 * S + 4 * k)) 0 6).deep (by decide)) ?_
                refine mz_go 1 (c' := (if (sm_bI (sm_in (m 77 (24 * S + 4 * k)) 0 6)) = 0 then 32 else 10, [some (.int (m 77 (24 * S + 4 * k))), some (.int (m 77 (24 * S + 4 * k + 1))), some (.int (m 77 (24 * S + 4 * k + 2))), some (.int (m 77 (24 * S + 4 * k + 3)))], [], mz_set m 66 s)) rfl ?_
                refine mz_ifT q3 ?_
                refine mz_go 1 (c' := (33, [some (.int (m 77 (24 * S + 4 * k))), some (.int (m 77 (24 * S + 4 * k + 1))), some (.int (m 77 (24 * S + 4 * k + 2))), some (.int (m 77 (24 * S + 4 * k + 3)))], [.int 0], mz_set m 66 s)) rfl ?_
                exact mz_ret rfl
              refine mz_go 1 (c' := (170, [some (.ref 65), some (.int (nI S)), some (.int (nI k)), some (.int (nI (24 * S))), o], [], mz_set m 66 s)) rfl ?_
              exact hr⟩
          · by_cases q4 : (sm_bI (sm_plc (m 77 (24 * S + 4 * k + 1)) (m 77 (24 * S + 4 * k + 2)))) = 0
            · exact ⟨k, s, o, by omega, hA, hG, hs, fun res hr => by
                refine mz_go 8 (c' := (45, [some (.ref 65), some (.int (nI S)), some (.int (nI k)), some (.int (nI (24 * S))), o], [.int (nI S), .ref 76, .int ((4 * (nI k)) + 3)], mz_set m 66 s)) rfl ?_
                refine mz_arr (c' := (46, [some (.ref 65), some (.int (nI S)), some (.int (nI k)), some (.int (nI (24 * S))), o], [.int (m 76 ((nI S).toNatClampNeg)), .int ((4 * (nI k)) + 3)], mz_set m 66 s)) rfl (show mz_in (nI S) 4 = true from sm_inN rfl (show S < 4 by omega) (by decide)) ?_
                rw [show (nI S : Int32).toNatClampNeg = S from sm_clN rfl (show S < 2 ^ 31 by omega)]
                rw [e1]
                refine mz_go 1 (c' := (if (nI z) ≤ ((4 * (nI k)) + 3) then 170 else 49, [some (.ref 65), some (.int (nI S)), some (.int (nI k)), some (.int (nI (24 * S))), o], [], mz_set m 66 s)) rfl ?_
                refine mz_ifF (show ¬ ((nI z) ≤ ((4 * (nI k)) + 3)) from (sm_nleN rfl (sm_addN (sm_mulN rfl rfl) rfl) (show ((4 * k) + 3) < z by omega) (show z < 2 ^ 31 by omega))) ?_
                refine mz_go 4 (c' := (55, [some (.ref 65), some (.int (nI S)), some (.int (nI k)), some (.int (nI (24 * S))), o], [.int (s 0)], mz_set m 66 s)) rfl ?_
                rw [hs.1]
                refine mz_go 2 (c' := (if 6 ≤ (nI (N + k)) then 170 else 60, [some (.ref 65), some (.int (nI S)), some (.int (nI k)), some (.int (nI (24 * S))), o], [], mz_set m 66 s)) rfl ?_
                refine mz_ifF (show ¬ (6 ≤ (nI (N + k))) from (sm_nleN rfl rfl (show (N + k) < 6 by omega) (show 6 < 2 ^ 31 by omega))) ?_
                refine mz_go 7 (c' := (69, [some (.ref 65), some (.int (nI S)), some (.int (nI k)), some (.int (nI (24 * S))), o], [.int ((nI (24 * S)) + (4 * (nI k))), .ref 77], mz_set m 66 s)) rfl ?_
                refine mz_arr (c' := (70, [some (.ref 65), some (.int (nI S)), some (.int (nI k)), some (.int (nI (24 * S))), o], [.int (m 77 (((nI (24 * S)) + (4 * (nI k))).toNatClampNeg))], mz_set m 66 s)) rfl (show mz_in ((nI (24 * S)) + (4 * (nI k))) 96 = true from sm_inN (sm_addN rfl (sm_mulN rfl rfl)) (show ((24 * S) + (4 * k)) < 96 by omega) (by decide)) ?_
                rw [show ((nI (24 * S)) + (4 * (nI k)) : Int32).toNatClampNeg = ((24 * S) + (4 * k)) from sm_clN (sm_addN rfl (sm_mulN rfl rfl)) (show ((24 * S) + (4 * k)) < 2 ^ 31 by omega)]
                rw [show m 77 ((24 * S) + (4 * k)) = m 77 (24 * S + 4 * k) from rfl]
                refine mz_go 9 (c' := (81, [some (.ref 65), some (.int (nI S)), some (.int (nI k)), some (.int (nI (24 * S))), o], [.int (((nI (24 * S)) + (4 * (nI k))) + 1), .ref 77, .int (m 77 (24 * S + 4 * k))], mz_set m 66 s)) rfl ?_
                refine mz_arr (c' := (82, [some (.ref 65), some (.int (nI S)), some (.int (nI k)), some (.int (nI (24 * S))), o], [.int (m 77 ((((nI (24 * S)) + (4 * (nI k))) + 1).toNatClampNeg)), .int (m 77 (24 * S + 4 * k))], mz_set m 66 s)) rfl (show mz_in (((nI (24 * S)) + (4 * (nI k))) + 1) 96 = true from sm_inN (sm_addN (sm_addN rfl (sm_mulN rfl rfl)) rfl) (show (((24 * S) + (4 * k)) + 1) < 96 by omega) (by decide)) ?_
                rw [show (((nI (24 * S)) + (4 * (nI k))) + 1 : Int32).toNatClampNeg = (((24 * S) + (4 * k)) + 1) from sm_clN (sm_addN (sm_addN rfl (sm_mulN rfl rfl)) rfl) (show (((24 * S) + (4 * k)) + 1) < 2 ^ 31 by omega)]
                rw [show m 77 (((24 * S) + (4 * k)) + 1) = m 77 (24 * S + 4 * k + 1) from rfl]
                refine mz_go 9 (c' := (93, [some (.ref 65), some (.int (nI S)), some (.int (nI k)), some (.int (nI (24 * S))), o], [.int (((nI (24 * S)) + (4 * (nI k))) + 2), .ref 77, .int (m 77 (24 * S + 4 * k + 1)), .int (m 77 (24 * S + 4 * k))], mz_set m 66 s)) rfl ?_
                refine mz_arr (c' := (94, [some (.ref 65), some (.int (nI S)), some (.int (nI k)), some (.int (nI (24 * S))), o], [.int (m 77 ((((nI (24 * S)) + (4 * (nI k))) + 2).toNatClampNeg)), .int (m 77 (24 * S + 4 * k + 1)), .int (m 77 (24 * S + 4 * k))], mz_set m 66 s)) rfl (show mz_in (((nI (24 * S)) + (4 * (nI k))) + 2) 96 = true from sm_inN (sm_addN (sm_addN rfl (sm_mulN rfl rfl)) rfl) (show (((24 * S) + (4 * k)) + 2) < 96 by omega) (by decide)) ?_
                rw [show (((nI (24 * S)) + (4 * (nI k))) + 2 : Int32).toNatClampNeg = (((24 * S) + (4 * k)) + 2) from sm_clN (sm_addN (sm_addN rfl (sm_mulN rfl rfl)) rfl) (show (((24 * S) + (4 * k)) + 2) < 2 ^ 31 by omega)]
                rw [show m 77 (((24 * S) + (4 * k)) + 2) = m 77 (24 * S + 4 * k + 2) from rfl]
                refine mz_go 9 (c' := (105, [some (.ref 65), some (.int (nI S)), some (.int (nI k)), some (.int (nI (24 * S))), o], [.int (((nI (24 * S)) + (4 * (nI k))) + 3), .ref 77, .int (m 77 (24 * S + 4 * k + 2)), .int (m 77 (24 * S + 4 * k + 1)), .int (m 77 (24 * S + 4 * k))], mz_set m 66 s)) rfl ?_
                refine mz_arr (c' := (106, [some (.ref 65), some (.int (nI S)), some (.int (nI k)), some (.int (nI (24 * S))), o], [.int (m 77 ((((nI (24 * S)) + (4 * (nI k))) + 3).toNatClampNeg)), .int (m 77 (24 * S + 4 * k + 2)), .int (m 77 (24 * S + 4 * k + 1)), .int (m 77 (24 * S + 4 * k))], mz_set m 66 s)) rfl (show mz_in (((nI (24 * S)) + (4 * (nI k))) + 3) 96 = true from sm_inN (sm_addN (sm_addN rfl (sm_mulN rfl rfl)) rfl) (show (((24 * S) + (4 * k)) + 3) < 96 by omega) (by decide)) ?_
                rw [show (((nI (24 * S)) + (4 * (nI k))) + 3 : Int32).toNatClampNeg = (((24 * S) + (4 * k)) + 3) from sm_clN (sm_addN (sm_addN rfl (sm_mulN rfl rfl)) rfl) (show (((24 * S) + (4 * k)) + 3) < 2 ^ 31 by omega)]
                rw [show m 77 (((24 * S) + (4 * k)) + 3) = m 77 (24 * S + 4 * k + 3) from rfl]
                refine mz_doQ (R := mz_r135) (as := [.int (m 77 (24 * S + 4 * k)), .int (m 77 (24 * S + 4 * k + 1)), .int (m 77 (24 * S + 4 * k + 2)), .int (m 77 (24 * S + 4 * k + 3))]) (rest := []) (r1 := some (.int 0)) (m1 := mz_set m 66 s) mz_t135 mz_v135 rfl rfl rfl rfl rfl ⟨?_, rfl⟩ ?_
                · refine mz_go 3 (c' := (4, [some (.int (m 77 (24 * S + 4 * k))), some (.int (m 77 (24 * S + 4 * k + 1))), some (.int (m 77 (24 * S + 4 * k + 2))), some (.int (m 77 (24 * S + 4 * k + 3)))], [.int 6, .int 0, .int (m 77 (24 * S + 4 * k))], mz_set m 66 s)) rfl ?_
                  refine mz_doQ (R := mz_r128) (as := [.int (m 77 (24 * S + 4 * k)), .int 0, .int 6]) (rest := []) (r1 := some (.int 1)) (m1 := mz_set m 66 s) mz_t128 mz_v128 rfl rfl rfl rfl rfl ((ct_in1 (m := mz_set m 66 s) (v := m 77 (24 * S + 4 * k)) (a := 0) (b := 6) (show ¬ ((m 77 (24 * S + 4 * k)) < 0) from (sm_in_lo q3)) (show ¬ (6 < (m 77 (24 * S + 4 * k))) from (sm_in_hi q3))).deep (by decide)) ?_
                  refine mz_go 3 (c' := (12, [some (.int (m 77 (24 * S + 4 * k))), some (.int (m 77 (24 * S + 4 * k + 1))), some (.int (m 77 (24 * S + 4 * k + 2))), some (.int (m 77 (24 * S + 4 * k + 3)))], [.int (m 77 (24 * S + 4 * k + 2)), .int (m 77 (24 * S + 4 * k + 1))], mz_set m 66 s)) rfl ?_
                  refine mz_doQ (R := mz_r131) (as := [.int (m 77 (24 * S + 4 * k + 1)), .int (m 77 (24 * S + 4 * k + 2))]) (rest := []) (r1 := some (.int (sm_bI (sm_plc (m 77 (24 * S + 4 * k + 1)) (m 77 (24 * S + 4 * k + 2)))))) (m1 := mz_set m 66 s) mz_t131 mz_v131 rfl rfl rfl rfl rfl ((ct_plc (m := mz_set m 66 s) (m 77 (24 * S + 4 * k + 1)) (m 77 (24 * S + 4 * k + 2))).deep (by decide)) ?_
                  refine mz_go 1 (c' := (if (sm_bI (sm_plc (m 77 (24 * S + 4 * k + 1)) (m 77 (24 * S + 4 * k + 2)))) = 0 then 32 else 18, [some (.int (m 77 (24 * S + 4 * k))), some (.int (m 77 (24 * S + 4 * k + 1))), some (.int (m 77 (24 * S + 4 * k + 2))), some (.int (m 77 (24 * S + 4 * k + 3)))], [], mz_set m 66 s)) rfl ?_
                  refine mz_ifT q4 ?_
                  refine mz_go 1 (c' := (33, [some (.int (m 77 (24 * S + 4 * k))), some (.int (m 77 (24 * S + 4 * k + 1))), some (.int (m 77 (24 * S + 4 * k + 2))), some (.int (m 77 (24 * S + 4 * k + 3)))], [.int 0], mz_set m 66 s)) rfl ?_
                  exact mz_ret rfl
                refine mz_go 1 (c' := (170, [some (.ref 65), some (.int (nI S)), some (.int (nI k)), some (.int (nI (24 * S))), o], [], mz_set m 66 s)) rfl ?_
                exact hr⟩
            · by_cases q5 : (sm_bI (sm_in (m 77 (24 * S + 4 * k + 3)) 0 99)) = 0
              · exact ⟨k, s, o, by omega, hA, hG, hs, fun res hr => by
                  refine mz_go 8 (c' := (45, [some (.ref 65), some (.int (nI S)), some (.int (nI k)), some (.int (nI (24 * S))), o], [.int (nI S), .ref 76, .int ((4 * (nI k)) + 3)], mz_set m 66 s)) rfl ?_
                  refine mz_arr (c' := (46, [some (.ref 65), some (.int (nI S)), some (.int (nI k)), some (.int (nI (24 * S))), o], [.int (m 76 ((nI S).toNatClampNeg)), .int ((4 * (nI k)) + 3)], mz_set m 66 s)) rfl (show mz_in (nI S) 4 = true from sm_inN rfl (show S < 4 by omega) (by decide)) ?_
                  rw [show (nI S : Int32).toNatClampNeg = S from sm_clN rfl (show S < 2 ^ 31 by omega)]
                  rw [e1]
                  refine mz_go 1 (c' := (if (nI z) ≤ ((4 * (nI k)) + 3) then 170 else 49, [some (.ref 65), some (.int (nI S)), some (.int (nI k)), some (.int (nI (24 * S))), o], [], mz_set m 66 s)) rfl ?_
                  refine mz_ifF (show ¬ ((nI z) ≤ ((4 * (nI k)) + 3)) from (sm_nleN rfl (sm_addN (sm_mulN rfl rfl) rfl) (show ((4 * k) + 3) < z by omega) (show z < 2 ^ 31 by omega))) ?_
                  refine mz_go 4 (c' := (55, [some (.ref 65), some (.int (nI S)), some (.int (nI k)), some (.int (nI (24 * S))), o], [.int (s 0)], mz_set m 66 s)) rfl ?_
                  rw [hs.1]
                  refine mz_go 2 (c' := (if 6 ≤ (nI (N + k)) then 170 else 60, [some (.ref 65), some (.int (nI S)), some (.int (nI k)), some (.int (nI (24 * S))), o], [], mz_set m 66 s)) rfl ?_
                  refine mz_ifF (show ¬ (6 ≤ (nI (N + k))) from (sm_nleN rfl rfl (show (N + k) < 6 by omega) (show 6 < 2 ^ 31 by omega))) ?_
                  refine mz_go 7 (c' := (69, [some (.ref 65), some (.int (nI S)), some (.int (nI k)), some (.int (nI (24 * S))), o], [.int ((nI (24 * S)) + (4 * (nI k))), .ref 77], mz_set m 66 s)) rfl ?_
                  refine mz_arr (c' := (70, [some (.ref 65), some (.int (nI S)), some (.int (nI k)), some (.int (nI (24 * S))), o], [.int (m 77 (((nI (24 * S)) + (4 * (nI k))).toNatClampNeg))], mz_set m 66 s)) rfl (show mz_in ((nI (24 * S)) + (4 * (nI k))) 96 = true from sm_inN (sm_addN rfl (sm_mulN rfl rfl)) (show ((24 * S) + (4 * k)) < 96 by omega) (by decide)) ?_
                  rw [show ((nI (24 * S)) + (4 * (nI k)) : Int32).toNatClampNeg = ((24 * S) + (4 * k)) from sm_clN (sm_addN rfl (sm_mulN rfl rfl)) (show ((24 * S) + (4 * k)) < 2 ^ 31 by omega)]
                  rw [show m 77 ((24 * S) + (4 * k)) = m 77 (24 * S + 4 * k) from rfl]
                  refine mz_go 9 (c' := (81, [some (.ref 65), some (.int (nI S)), some (.int (nI k)), some (.int (nI (24 * S))), o], [.int (((nI (24 * S)) + (4 * (nI k))) + 1), .ref 77, .int (m 77 (24 * S + 4 * k))], mz_set m 66 s)) rfl ?_
                  refine mz_arr (c' := (82, [some (.ref 65), some (.int (nI S)), some (.int (nI k)), some (.int (nI (24 * S))), o], [.int (m 77 ((((nI (24 * S)) + (4 * (nI k))) + 1).toNatClampNeg)), .int (m 77 (24 * S + 4 * k))], mz_set m 66 s)) rfl (show mz_in (((nI (24 * S)) + (4 * (nI k))) + 1) 96 = true from sm_inN (sm_addN (sm_addN rfl (sm_mulN rfl rfl)) rfl) (show (((24 * S) + (4 * k)) + 1) < 96 by omega) (by decide)) ?_
                  rw [show (((nI (24 * S)) + (4 * (nI k))) + 1 : Int32).toNatClampNeg = (((24 * S) + (4 * k)) + 1) from sm_clN (sm_addN (sm_addN rfl (sm_mulN rfl rfl)) rfl) (show (((24 * S) + (4 * k)) + 1) < 2 ^ 31 by omega)]
                  rw [show m 77 (((24 * S) + (4 * k)) + 1) = m 77 (24 * S + 4 * k + 1) from rfl]
                  refine mz_go 9 (c' := (93, [some (.ref 65), some (.int (nI S)), some (.int (nI k)), some (.int (nI (24 * S))), o], [.int (((nI (24 * S)) + (4 * (nI k))) + 2), .ref 77, .int (m 77 (24 * S + 4 * k + 1)), .int (m 77 (24 * S + 4 * k))], mz_set m 66 s)) rfl ?_
                  refine mz_arr (c' := (94, [some (.ref 65), some (.int (nI S)), some (.int (nI k)), some (.int (nI (24 * S))), o], [.int (m 77 ((((nI (24 * S)) + (4 * (nI k))) + 2).toNatClampNeg)), .int (m 77 (24 * S + 4 * k + 1)), .int (m 77 (24 * S + 4 * k))], mz_set m 66 s)) rfl (show mz_in (((nI (24 * S)) + (4 * (nI k))) + 2) 96 = true from sm_inN (sm_addN (sm_addN rfl (sm_mulN rfl rfl)) rfl) (show (((24 * S) + (4 * k)) + 2) < 96 by omega) (by decide)) ?_
                  rw [show (((nI (24 * S)) + (4 * (nI k))) + 2 : Int32).toNatClampNeg = (((24 * S) + (4 * k)) + 2) from sm_clN (sm_addN (sm_addN rfl (sm_mulN rfl rfl)) rfl) (show (((24 * S) + (4 * k)) + 2) < 2 ^ 31 by omega)]
                  rw [show m 77 (((24 * S) + (4 * k)) + 2) = m 77 (24 * S + 4 * k + 2) from rfl]
                  refine mz_go 9 (c' := (105, [some (.ref 65), some (.int (nI S)), some (.int (nI k)), some (.int (nI (24 * S))), o], [.int (((nI (24 * S)) + (4 * (nI k))) + 3), .ref 77, .int (m 77 (24 * S + 4 * k + 2)), .int (m 77 (24 * S + 4 * k + 1)), .int (m 77 (24 * S + 4 * k))], mz_set m 66 s)) rfl ?_
                  refine mz_arr (c' := (106, [some (.ref 65), some (.int (nI S)), some (.int (nI k)), some (.int (nI (24 * S))), o], [.int (m 77 ((((nI (24 * S)) + (4 * (nI k))) + 3).toNatClampNeg)), .int (m 77 (24 * S + 4 * k + 2)), .int (m 77 (24 * S + 4 * k + 1)), .int (m 77 (24 * S + 4 * k))], mz_set m 66 s)) rfl (show mz_in (((nI (24 * S)) + (4 * (nI k))) + 3) 96 = true from sm_inN (sm_addN (sm_addN rfl (sm_mulN rfl rfl)) rfl) (show (((24 * S) + (4 * k)) + 3) < 96 by omega) (by decide)) ?_
                  rw [show (((nI (24 * S)) + (4 * (nI k))) + 3 : Int32).toNatClampNeg = (((24 * S) + (4 * k)) + 3) from sm_clN (sm_addN (sm_addN rfl (sm_mulN rfl rfl)) rfl) (show (((24 * S) + (4 * k)) + 3) < 2 ^ 31 by omega)]
                  rw [show m 77 (((24 * S) + (4 * k)) + 3) = m 77 (24 * S + 4 * k + 3) from rfl]
                  refine mz_doQ (R := mz_r135) (as := [.int (m 77 (24 * S + 4 * k)), .int (m 77 (24 * S + 4 * k + 1)), .int (m 77 (24 * S + 4 * k + 2)), .int (m 77 (24 * S + 4 * k + 3))]) (rest := []) (r1 := some (.int 0)) (m1 := mz_set m 66 s) mz_t135 mz_v135 rfl rfl rfl rfl rfl ⟨?_, rfl⟩ ?_
                  · refine mz_go 3 (c' := (4, [some (.int (m 77 (24 * S + 4 * k))), some (.int (m 77 (24 * S + 4 * k + 1))), some (.int (m 77 (24 * S + 4 * k + 2))), some (.int (m 77 (24 * S + 4 * k + 3)))], [.int 6, .int 0, .int (m 77 (24 * S + 4 * k))], mz_set m 66 s)) rfl ?_
                    refine mz_doQ (R := mz_r128) (as := [.int (m 77 (24 * S + 4 * k)), .int 0, .int 6]) (rest := []) (r1 := some (.int 1)) (m1 := mz_set m 66 s) mz_t128 mz_v128 rfl rfl rfl rfl rfl ((ct_in1 (m := mz_set m 66 s) (v := m 77 (24 * S + 4 * k)) (a := 0) (b := 6) (show ¬ ((m 77 (24 * S + 4 * k)) < 0) from (sm_in_lo q3)) (show ¬ (6 < (m 77 (24 * S + 4 * k))) from (sm_in_hi q3))).deep (by decide)) ?_
                    refine mz_go 3 (c' := (12, [some (.int (m 77 (24 * S + 4 * k))), some (.int (m 77 (24 * S + 4 * k + 1))), some (.int (m 77 (24 * S + 4 * k + 2))), some (.int (m 77 (24 * S + 4 * k + 3)))], [.int (m 77 (24 * S + 4 * k + 2)), .int (m 77 (24 * S + 4 * k + 1))], mz_set m 66 s)) rfl ?_
                    refine mz_doQ (R := mz_r131) (as := [.int (m 77 (24 * S + 4 * k + 1)), .int (m 77 (24 * S + 4 * k + 2))]) (rest := []) (r1 := some (.int 1)) (m1 := mz_set m 66 s) mz_t131 mz_v131 rfl rfl rfl rfl rfl ⟨?_, rfl⟩ ?_
                    · refine mz_go 3 (c' := (5, [some (.int (m 77 (24 * S + 4 * k + 1))), some (.int (m 77 (24 * S + 4 * k + 2)))], [.int 100, .int (-100), .int (m 77 (24 * S + 4 * k + 1))], mz_set m 66 s)) rfl ?_
                      refine mz_doQ (R := mz_r128) (as := [.int (m 77 (24 * S + 4 * k + 1)), .int (-100), .int 100]) (rest := []) (r1 := some (.int 1)) (m1 := mz_set m 66 s) mz_t128 mz_v128 rfl rfl rfl rfl rfl ((ct_in1 (m := mz_set m 66 s) (v := m 77 (24 * S + 4 * k + 1)) (a := (-100)) (b := 100) (show ¬ ((m 77 (24 * S + 4 * k + 1)) < (-100)) from (sm_plc_of q4).1.1) (show ¬ (100 < (m 77 (24 * S + 4 * k + 1))) from (sm_plc_of q4).1.2)).deep (by decide)) ?_
                      refine mz_go 4 (c' := (16, [some (.int (m 77 (24 * S + 4 * k + 1))), some (.int (m 77 (24 * S + 4 * k + 2)))], [.int 100, .int (-100), .int (m 77 (24 * S + 4 * k + 2))], mz_set m 66 s)) rfl ?_
                      refine mz_doQ (R := mz_r128) (as := [.int (m 77 (24 * S + 4 * k + 2)), .int (-100), .int 100]) (rest := []) (r1 := some (.int 1)) (m1 := mz_set m 66 s) mz_t128 mz_v128 rfl rfl rfl rfl rfl ((ct_in1 (m := mz_set m 66 s) (v := m 77 (24 * S + 4 * k + 2)) (a := (-100)) (b := 100) (show ¬ ((m 77 (24 * S + 4 * k + 2)) < (-100)) from (sm_plc_of q4).2.1) (show ¬ (100 < (m 77 (24 * S + 4 * k + 2))) from (sm_plc_of q4).2.2)).deep (by decide)) ?_
                      refine mz_go 3 (c' := (27, [some (.int (m 77 (24 * S + 4 * k + 1))), some (.int (m 77 (24 * S + 4 * k + 2)))], [.int 1], mz_set m 66 s)) rfl ?_
                      exact mz_ret rfl
                    refine mz_go 4 (c' := (22, [some (.int (m 77 (24 * S + 4 * k))), some (.int (m 77 (24 * S + 4 * k + 1))), some (.int (m 77 (24 * S + 4 * k + 2))), some (.int (m 77 (24 * S + 4 * k + 3)))], [.int 99, .int 0, .int (m 77 (24 * S + 4 * k + 3))], mz_set m 66 s)) rfl ?_
                    refine mz_doQ (R := mz_r128) (as := [.int (m 77 (24 * S + 4 * k + 3)), .int 0, .int 99]) (rest := []) (r1 := some (.int (sm_bI (sm_in (m 77 (24 * S + 4 * k + 3)) 0 99)))) (m1 := mz_set m 66 s) mz_t128 mz_v128 rfl rfl rfl rfl rfl ((ct_in (m := mz_set m 66 s) (m 77 (24 * S + 4 * k + 3)) 0 99).deep (by decide)) ?_
                    refine mz_go 1 (c' := (if (sm_bI (sm_in (m 77 (24 * S + 4 * k + 3)) 0 99)) = 0 then 32 else 28, [some (.int (m 77 (24 * S + 4 * k))), some (.int (m 77 (24 * S + 4 * k + 1))), some (.int (m 77 (24 * S + 4 * k + 2))), some (.int (m 77 (24 * S + 4 * k + 3)))], [], mz_set m 66 s)) rfl ?_
                    refine mz_ifT q5 ?_
                    refine mz_go 1 (c' := (33, [some (.int (m 77 (24 * S + 4 * k))), some (.int (m 77 (24 * S + 4 * k + 1))), some (.int (m 77 (24 * S + 4 * k + 2))), some (.int (m 77 (24 * S + 4 * k + 3)))], [.int 0], mz_set m 66 s)) rfl ?_
                    exact mz_ret rfl
                  refine mz_go 1 (c' := (170, [some (.ref 65), some (.int (nI S)), some (.int (nI k)), some (.int (nI (24 * S))), o], [], mz_set m 66 s)) rfl ?_
                  exact hr⟩
              · exact absurd ⟨by omega, by omega, ⟨⟨(sm_in_lo q3), (sm_in_hi q3)⟩, ⟨(sm_plc_of q4).1.1, (sm_plc_of q4).1.2⟩, ⟨(sm_plc_of q4).2.1, (sm_plc_of q4).2.2⟩, (sm_in_lo q5), (sm_in_hi q5)⟩⟩ hG
set_option maxHeartbeats 4000000 in
set_option maxRecDepth 100000 in
theorem sc_magnets {n : Nat} (hn : n < 64) {w : mz_M} (hI : sm_I n w) (xa : Int32) : ∃ v1 v2 m1 m2, mz_Me 100 mz_r102 [.ref 0, .int xa] w (some (.int v1)) m1 ∧ mz_Me 100 mz_r223 [.ref 65, .int xa] m1 (some (.int v2)) m2 ∧ sm_I (n + 1) m2 ∧ v1 = v2 := by
  have hI2 := hI
  obtain ⟨hn0, ⟨-, ⟨hr80, hr5, hrr⟩, ⟨⟨TT, hTT, h81, h661⟩, htp⟩, ⟨⟨T0, hT0, hU0, hV0, -⟩, ⟨T1, hT1, hU1, hV1, -⟩, ⟨T2, hT2, hU2, hV2, -⟩⟩, ⟨hbx, hby, hbl⟩, ⟨⟨WW, HH, hWW, hHH, hWH, h202, h203, h6660, h6661⟩, h6662, h6663, h6664, hpc⟩, ⟨hth, h66160, hthr⟩, ⟨⟨AA, hAA, h111, h662⟩, h663, hwt⟩⟩, ⟨hsh, hsn⟩, ⟨hcb1, hcb2⟩, ⟨JJ, hJJ, h07, h652, hkept⟩⟩ := hI
  obtain ⟨N, hw, hr2, h660, -, -, h6615⟩ := sm_world hI2
  have hw2 := hw
  obtain ⟨hN, h4, hpb, -, -⟩ := hw2
  have hT60a := sm_T60 hV0
  have hT60b := sm_T60 hV1
  have hT60c := sm_T60 hV2
  obtain ⟨B1, hB1, e571⟩ := sm_Nof (by decide) hcb1
  obtain ⟨B2, hB2, e6519⟩ := sm_Nof (by decide) hcb2
  refine mz_two (fun _ => rfl) (fun _ => rfl) ?_
  by_cases q1 : xa < 0
  · refine mz_goP 3 (c' := (5, [some (.ref 0), some (.int xa), none], [.int xa, .ref 60], w)) rfl ?_
    refine mz_doPQ (R := mz_r45) (as := [.ref 60, .int xa]) (rest := []) (r1 := some (.int 0)) (m1 := w) mz_t45 mz_v45_60 rfl rfl rfl rfl rfl ⟨?_, rfl⟩ ?_
    · refine mz_go 2 (c' := (if xa < 0 then 13 else 4, [some (.ref 60), some (.int xa)], [], w)) rfl ?_
      refine mz_ifT q1 ?_
      refine mz_go 1 (c' := (14, [some (.ref 60), some (.int xa)], [.int 0], w)) rfl ?_
      exact mz_ret rfl
    refine mz_goP 3 (c' := (13, [some (.ref 0), some (.int xa), none], [.int 1, .ref 0], w)) rfl ?_
    refine mz_doPQ (R := mz_r109) (as := [.ref 0, .int 1]) (rest := []) (r1 := some (.int (-1000001))) (m1 := mz_up w 64 1 ((w 64 1) + 1)) mz_t109 mz_v109_0 rfl rfl rfl rfl rfl ((cs_err1 (m := w)).deep (by decide)) ?_
    refine mz_retP (r := (some (.int ((-1000001))), mz_up w 64 1 ((w 64 1) + 1))) rfl ⟨(-1000001), rfl, ?_⟩
    refine mz_goP 1 (c' := (1, [some (.ref 65), some (.int xa), none, none, none], [.int xa], mz_up w 64 1 ((w 64 1) + 1))) rfl ?_
    refine mz_doPQ (R := mz_r219) (as := [.int xa]) (rest := []) (r1 := some (.int 0)) (m1 := mz_up w 64 1 ((w 64 1) + 1)) mz_t219 mz_v219 rfl rfl rfl rfl rfl ⟨?_, rfl⟩ ?_
    · refine mz_go 3 (c' := (3, [some (.int xa)], [.int 3, .int 0, .int xa], mz_up w 64 1 ((w 64 1) + 1))) rfl ?_
      refine mz_doQ (R := mz_r128) (as := [.int xa, .int 0, .int 3]) (rest := []) (r1 := some (.int 0)) (m1 := mz_up w 64 1 ((w 64 1) + 1)) mz_t128 mz_v128 rfl rfl rfl rfl rfl ((ct_inL (m := mz_up w 64 1 ((w 64 1) + 1)) (v := xa) (a := 0) (b := 3) q1).deep (by decide)) ?_
      exact mz_ret rfl
    refine mz_goP 3 (c' := (9, [some (.ref 65), some (.int xa), none, none, none], [.int 1, .ref 65], mz_up w 64 1 ((w 64 1) + 1))) rfl ?_
    refine mz_doPQ (R := mz_r127) (as := [.ref 65, .int 1]) (rest := []) (r1 := some (.int (-1000001))) (m1 := mz_up (mz_up w 64 1 ((w 64 1) + 1)) 68 1 ((w 68 1) + 1)) mz_t127 mz_v127_65 rfl rfl rfl rfl rfl ((ct_err1 (m := mz_up w 64 1 ((w 64 1) + 1))).deep (by decide)) ?_
    refine mz_retP (r := (some (.int ((-1000001))), mz_up (mz_up w 64 1 ((w 64 1) + 1)) 68 1 ((w 68 1) + 1))) rfl ⟨(-1000001), rfl, ?_, rfl⟩
    show sm_I (n + 1) (mz_up (mz_up w 64 1 ((w 64 1) + 1)) 68 1 ((w 68 1) + 1))
    exact sm_I_scr hn hI2 (fun i hi => by
      have hne : ∀ r, sm_scr r = true → i ≠ r := fun r hr e => by
        rw [e, hr] at hi
        cases hi
      simp only [mz_up_ne (hne 64 rfl), mz_up_ne (hne 68 rfl)]) rfl rfl
  · by_cases q2 : 4 ≤ xa
    · refine mz_goP 3 (c' := (5, [some (.ref 0), some (.int xa), none], [.int xa, .ref 60], w)) rfl ?_
      refine mz_doPQ (R := mz_r45) (as := [.ref 60, .int xa]) (rest := []) (r1 := some (.int 0)) (m1 := w) mz_t45 mz_v45_60 rfl rfl rfl rfl rfl ⟨?_, rfl⟩ ?_
      · refine mz_go 2 (c' := (if xa < 0 then 13 else 4, [some (.ref 60), some (.int xa)], [], w)) rfl ?_
        refine mz_ifF q1 ?_
        refine mz_go 3 (c' := (if 4 ≤ xa then 13 else 9, [some (.ref 60), some (.int xa)], [], w)) rfl ?_
        refine mz_ifT q2 ?_
        refine mz_go 1 (c' := (14, [some (.ref 60), some (.int xa)], [.int 0], w)) rfl ?_
        exact mz_ret rfl
      refine mz_goP 3 (c' := (13, [some (.ref 0), some (.int xa), none], [.int 1, .ref 0], w)) rfl ?_
      refine mz_doPQ (R := mz_r109) (as := [.ref 0, .int 1]) (rest := []) (r1 := some (.int (-1000001))) (m1 := mz_up w 64 1 ((w 64 1) + 1)) mz_t109 mz_v109_0 rfl rfl rfl rfl rfl ((cs_err1 (m := w)).deep (by decide)) ?_
      refine mz_retP (r := (some (.int ((-1000001))), mz_up w 64 1 ((w 64 1) + 1))) rfl ⟨(-1000001), rfl, ?_⟩
      refine mz_goP 1 (c' := (1, [some (.ref 65), some (.int xa), none, none, none], [.int xa], mz_up w 64 1 ((w 64 1) + 1))) rfl ?_
      refine mz_doPQ (R := mz_r219) (as := [.int xa]) (rest := []) (r1 := some (.int 0)) (m1 := mz_up w 64 1 ((w 64 1) + 1)) mz_t219 mz_v219 rfl rfl rfl rfl rfl ⟨?_, rfl⟩ ?_
      · refine mz_go 3 (c' := (3, [some (.int xa)], [.int 3, .int 0, .int xa], mz_up w 64 1 ((w 64 1) + 1))) rfl ?_
        refine mz_doQ (R := mz_r128) (as := [.int xa, .int 0, .int 3]) (rest := []) (r1 := some (.int 0)) (m1 := mz_up w 64 1 ((w 64 1) + 1)) mz_t128 mz_v128 rfl rfl rfl rfl rfl ((ct_inG (m := mz_up w 64 1 ((w 64 1) + 1)) (v := xa) (a := 0) (b := 3) q1 (by have hl : (4 : Int) ≤ (xa).toInt := Int32.le_iff_toInt_le.mp q2; exact Int32.lt_iff_toInt_lt.mpr (show (3 : Int) < (xa).toInt by omega))).deep (by decide)) ?_
        exact mz_ret rfl
      refine mz_goP 3 (c' := (9, [some (.ref 65), some (.int xa), none, none, none], [.int 1, .ref 65], mz_up w 64 1 ((w 64 1) + 1))) rfl ?_
      refine mz_doPQ (R := mz_r127) (as := [.ref 65, .int 1]) (rest := []) (r1 := some (.int (-1000001))) (m1 := mz_up (mz_up w 64 1 ((w 64 1) + 1)) 68 1 ((w 68 1) + 1)) mz_t127 mz_v127_65 rfl rfl rfl rfl rfl ((ct_err1 (m := mz_up w 64 1 ((w 64 1) + 1))).deep (by decide)) ?_
      refine mz_retP (r := (some (.int ((-1000001))), mz_up (mz_up w 64 1 ((w 64 1) + 1)) 68 1 ((w 68 1) + 1))) rfl ⟨(-1000001), rfl, ?_, rfl⟩
      show sm_I (n + 1) (mz_up (mz_up w 64 1 ((w 64 1) + 1)) 68 1 ((w 68 1) + 1))
      exact sm_I_scr hn hI2 (fun i hi => by
        have hne : ∀ r, sm_scr r = true → i ≠ r := fun r hr e => by
          rw [e, hr] at hi
          cases hi
        simp only [mz_up_ne (hne 64 rfl), mz_up_ne (hne 68 rfl)]) rfl rfl
    · obtain ⟨jxa, hjxa, rfl⟩ := nI_of q1
      have zxa0 : ¬ 4 ≤ jxa := fun z => q2 ((nI_leI (by decide) hjxa).mpr z)
      rcases (hsh jxa (by omega)).1 with o3 | o3 | o3 | o3
      · refine mz_goP 3 (c' := (5, [some (.ref 0), some (.int (nI jxa)), none], [.int (nI jxa), .ref 60], w)) rfl ?_
        refine mz_doPQ (R := mz_r45) (as := [.ref 60, .int (nI jxa)]) (rest := []) (r1 := some (.int 1)) (m1 := w) mz_t45 mz_v45_60 rfl rfl rfl rfl rfl ⟨?_, rfl⟩ ?_
        · refine mz_go 2 (c' := (if (nI jxa) < 0 then 13 else 4, [some (.ref 60), some (.int (nI jxa))], [], w)) rfl ?_
          refine mz_ifF q1 ?_
          refine mz_go 3 (c' := (if 4 ≤ (nI jxa) then 13 else 9, [some (.ref 60), some (.int (nI jxa))], [], w)) rfl ?_
          refine mz_ifF q2 ?_
          refine mz_go 2 (c' := (14, [some (.ref 60), some (.int (nI jxa))], [.int 1], w)) rfl ?_
          exact mz_ret rfl
        refine mz_goP 4 (c' := (22, [some (.ref 0), some (.int (nI jxa)), none], [.int (nI jxa), .ref 60], w)) rfl ?_
        refine mz_doPQ (R := mz_r46) (as := [.ref 60, .int (nI jxa)]) (rest := []) (r1 := some (.int 1)) (m1 := w) mz_t46 mz_v46_60 rfl rfl rfl rfl rfl ⟨?_, rfl⟩ ?_
        · refine mz_go 2 (c' := (2, [some (.ref 60), some (.int (nI jxa))], [.int (nI jxa), .ref 60], w)) rfl ?_
          refine mz_doQ (R := mz_r45) (as := [.ref 60, .int (nI jxa)]) (rest := []) (r1 := some (.int 1)) (m1 := w) mz_t45 mz_v45_60 rfl rfl rfl rfl rfl ⟨?_, rfl⟩ ?_
          · refine mz_go 2 (c' := (if (nI jxa) < 0 then 13 else 4, [some (.ref 60), some (.int (nI jxa))], [], w)) rfl ?_
            refine mz_ifF q1 ?_
            refine mz_go 3 (c' := (if 4 ≤ (nI jxa) then 13 else 9, [some (.ref 60), some (.int (nI jxa))], [], w)) rfl ?_
            refine mz_ifF q2 ?_
            refine mz_go 2 (c' := (14, [some (.ref 60), some (.int (nI jxa))], [.int 1], w)) rfl ?_
            exact mz_ret rfl
          refine mz_go 4 (c' := (13, [some (.ref 60), some (.int (nI jxa))], [.int (nI jxa), .ref 61], w)) rfl ?_
          refine mz_arr (c' := (14, [some (.ref 60), some (.int (nI jxa))], [.int (w 61 ((nI jxa).toNatClampNeg))], w)) rfl (show mz_in (nI jxa) 4 = true from sm_inN rfl (show jxa < 4 by omega) (by decide)) ?_
          rw [show (nI jxa : Int32).toNatClampNeg = jxa from sm_clN rfl (show jxa < 2 ^ 31 by omega)]
          rw [o3]
          refine mz_go 3 (c' := (22, [some (.ref 60), some (.int (nI jxa))], [.int 1], w)) rfl ?_
          exact mz_ret rfl
        refine mz_goP 3 (c' := (30, [some (.ref 0), some (.int (nI jxa)), none], [.int 2, .ref 0], w)) rfl ?_
        refine mz_doPQ (R := mz_r109) (as := [.ref 0, .int 2]) (rest := []) (r1 := some (.int (-1000002))) (m1 := mz_up w 64 2 ((w 64 2) + 1)) mz_t109 mz_v109_0 rfl rfl rfl rfl rfl ((cs_err2 (m := w)).deep (by decide)) ?_
        refine mz_retP (r := (some (.int ((-1000002))), mz_up w 64 2 ((w 64 2) + 1))) rfl ⟨(-1000002), rfl, ?_⟩
        refine mz_goP 1 (c' := (1, [some (.ref 65), some (.int (nI jxa)), none, none, none], [.int (nI jxa)], mz_up w 64 2 ((w 64 2) + 1))) rfl ?_
        refine mz_doPQ (R := mz_r219) (as := [.int (nI jxa)]) (rest := []) (r1 := some (.int 1)) (m1 := mz_up w 64 2 ((w 64 2) + 1)) mz_t219 mz_v219 rfl rfl rfl rfl rfl ⟨?_, rfl⟩ ?_
        · refine mz_go 3 (c' := (3, [some (.int (nI jxa))], [.int 3, .int 0, .int (nI jxa)], mz_up w 64 2 ((w 64 2) + 1))) rfl ?_
          refine mz_doQ (R := mz_r128) (as := [.int (nI jxa), .int 0, .int 3]) (rest := []) (r1 := some (.int 1)) (m1 := mz_up w 64 2 ((w 64 2) + 1)) mz_t128 mz_v128 rfl rfl rfl rfl rfl ((ct_in1 (m := mz_up w 64 2 ((w 64 2) + 1)) (v := nI jxa) (a := 0) (b := 3) q1 (show ¬ (3 < (nI jxa)) from (sm_nltN rfl rfl (show jxa ≤ 3 by omega) (show 3 < 2 ^ 31 by omega)))).deep (by decide)) ?_
          exact mz_ret rfl
        refine mz_goP 4 (c' := (18, [some (.ref 65), some (.int (nI jxa)), none, none, none], [.int (nI jxa), .ref 75], mz_up w 64 2 ((w 64 2) + 1))) rfl ?_
        refine mz_arrP (c' := (19, [some (.ref 65), some (.int (nI jxa)), none, none, none], [.int (w 75 ((nI jxa).toNatClampNeg))], mz_up w 64 2 ((w 64 2) + 1))) rfl (show mz_in (nI jxa) 4 = true from sm_inN rfl (show jxa < 4 by omega) (by decide)) ?_
        rw [show (nI jxa : Int32).toNatClampNeg = jxa from sm_clN rfl (show jxa < 2 ^ 31 by omega)]
        rw [show w 75 jxa = w 61 jxa from (hsh jxa (by omega)).2.2.1]
        rw [o3]
        refine mz_goP 3 (c' := (24, [some (.ref 65), some (.int (nI jxa)), none, none, none], [.int 2, .ref 65], mz_up w 64 2 ((w 64 2) + 1))) rfl ?_
        refine mz_doPQ (R := mz_r127) (as := [.ref 65, .int 2]) (rest := []) (r1 := some (.int (-1000002))) (m1 := mz_up (mz_up w 64 2 ((w 64 2) + 1)) 68 2 ((w 68 2) + 1)) mz_t127 mz_v127_65 rfl rfl rfl rfl rfl ((ct_err2 (m := mz_up w 64 2 ((w 64 2) + 1))).deep (by decide)) ?_
        refine mz_retP (r := (some (.int ((-1000002))), mz_up (mz_up w 64 2 ((w 64 2) + 1)) 68 2 ((w 68 2) + 1))) rfl ⟨(-1000002), rfl, ?_, rfl⟩
        show sm_I (n + 1) (mz_up (mz_up w 64 2 ((w 64 2) + 1)) 68 2 ((w 68 2) + 1))
        exact sm_I_scr hn hI2 (fun i hi => by
          have hne : ∀ r, sm_scr r = true → i ≠ r := fun r hr e => by
            rw [e, hr] at hi
            cases hi
          simp only [mz_up_ne (hne 64 rfl), mz_up_ne (hne 68 rfl)]) rfl rfl
      · obtain ⟨zz4, hzz4, ezz4⟩ := sm_Nof (by decide) (hsh jxa (by omega)).2.1
        refine mz_goP 3 (c' := (5, [some (.ref 0), some (.int (nI jxa)), none], [.int (nI jxa), .ref 60], w)) rfl ?_
        refine mz_doPQ (R := mz_r45) (as := [.ref 60, .int (nI jxa)]) (rest := []) (r1 := some (.int 1)) (m1 := w) mz_t45 mz_v45_60 rfl rfl rfl rfl rfl ⟨?_, rfl⟩ ?_
        · refine mz_go 2 (c' := (if (nI jxa) < 0 then 13 else 4, [some (.ref 60), some (.int (nI jxa))], [], w)) rfl ?_
          refine mz_ifF q1 ?_
          refine mz_go 3 (c' := (if 4 ≤ (nI jxa) then 13 else 9, [some (.ref 60), some (.int (nI jxa))], [], w)) rfl ?_
          refine mz_ifF q2 ?_
          refine mz_go 2 (c' := (14, [some (.ref 60), some (.int (nI jxa))], [.int 1], w)) rfl ?_
          exact mz_ret rfl
        refine mz_goP 4 (c' := (22, [some (.ref 0), some (.int (nI jxa)), none], [.int (nI jxa), .ref 60], w)) rfl ?_
        refine mz_doPQ (R := mz_r46) (as := [.ref 60, .int (nI jxa)]) (rest := []) (r1 := some (.int 0)) (m1 := w) mz_t46 mz_v46_60 rfl rfl rfl rfl rfl ⟨?_, rfl⟩ ?_
        · refine mz_go 2 (c' := (2, [some (.ref 60), some (.int (nI jxa))], [.int (nI jxa), .ref 60], w)) rfl ?_
          refine mz_doQ (R := mz_r45) (as := [.ref 60, .int (nI jxa)]) (rest := []) (r1 := some (.int 1)) (m1 := w) mz_t45 mz_v45_60 rfl rfl rfl rfl rfl ⟨?_, rfl⟩ ?_
          · refine mz_go 2 (c' := (if (nI jxa) < 0 then 13 else 4, [some (.ref 60), some (.int (nI jxa))], [], w)) rfl ?_
            refine mz_ifF q1 ?_
            refine mz_go 3 (c' := (if 4 ≤ (nI jxa) then 13 else 9, [some (.ref 60), some (.int (nI jxa))], [], w)) rfl ?_
            refine mz_ifF q2 ?_
            refine mz_go 2 (c' := (14, [some (.ref 60), some (.int (nI jxa))], [.int 1], w)) rfl ?_
            exact mz_ret rfl
          refine mz_go 4 (c' := (13, [some (.ref 60), some (.int (nI jxa))], [.int (nI jxa), .ref 61], w)) rfl ?_
          refine mz_arr (c' := (14, [some (.ref 60), some (.int (nI jxa))], [.int (w 61 ((nI jxa).toNatClampNeg))], w)) rfl (show mz_in (nI jxa) 4 = true from sm_inN rfl (show jxa < 4 by omega) (by decide)) ?_
          rw [show (nI jxa : Int32).toNatClampNeg = jxa from sm_clN rfl (show jxa < 2 ^ 31 by omega)]
          rw [o3]
          refine mz_go 2 (c' := (22, [some (.ref 60), some (.int (nI jxa))], [.int 0], w)) rfl ?_
          exact mz_ret rfl
        refine mz_goP 3 (c' := (36, [some (.ref 0), some (.int (nI jxa)), some (.int 0)], [], w)) rfl ?_
        obtain ⟨K1, pM, aM, bM, cM, dM, hK1, hG1, hG2, hpM, haM, hbM, hcM, hdM, EM⟩ := cs_magl (m := w) (S := jxa) (z := zz4) (N := N) (by omega) (by omega) hN ezz4 6 0 (by omega) (fun i hi => absurd hi (Nat.not_lt_zero i)) (w 2) (w 3) (w 4) (w 5) (w 6) h4 sm_ml_0 sm_ml_0 sm_ml_0 sm_ml_0
        rw [show mz_set (mz_set (mz_set (mz_set (mz_set w 2 (w 2)) 3 (w 3)) 4 (w 4)) 5 (w 5)) 6 (w 6) = w from (sm_of5 (fun i _ _ _ _ _ => rfl)).symm] at EM
        refine mz_hkP EM ?_
        refine mz_goP 1 (c' := (60, [some (.ref 0), some (.int (nI jxa)), some (.int (nI K1))], [.int (nI K1)], mz_set (mz_set (mz_set (mz_set (mz_set w 2 pM) 3 aM) 4 bM) 5 cM) 6 dM)) rfl ?_
        refine mz_retP (r := (some (.int (nI K1)), mz_set (mz_set (mz_set (mz_set (mz_set w 2 pM) 3 aM) 4 bM) 5 cM) 6 dM)) rfl ⟨nI K1, rfl, ?_⟩
        refine mz_goP 1 (c' := (1, [some (.ref 65), some (.int (nI jxa)), none, none, none], [.int (nI jxa)], mz_set (mz_set (mz_set (mz_set (mz_set w 2 pM) 3 aM) 4 bM) 5 cM) 6 dM)) rfl ?_
        refine mz_doPQ (R := mz_r219) (as := [.int (nI jxa)]) (rest := []) (r1 := some (.int 1)) (m1 := mz_set (mz_set (mz_set (mz_set (mz_set w 2 pM) 3 aM) 4 bM) 5 cM) 6 dM) mz_t219 mz_v219 rfl rfl rfl rfl rfl ⟨?_, rfl⟩ ?_
        · refine mz_go 3 (c' := (3, [some (.int (nI jxa))], [.int 3, .int 0, .int (nI jxa)], mz_set (mz_set (mz_set (mz_set (mz_set w 2 pM) 3 aM) 4 bM) 5 cM) 6 dM)) rfl ?_
          refine mz_doQ (R := mz_r128) (as := [.int (nI jxa), .int 0, .int 3]) (rest := []) (r1 := some (.int 1)) (m1 := mz_set (mz_set (mz_set (mz_set (mz_set w 2 pM) 3 aM) 4 bM) 5 cM) 6 dM) mz_t128 mz_v128 rfl rfl rfl rfl rfl ((ct_in1 (m := mz_set (mz_set (mz_set (mz_set (mz_set w 2 pM) 3 aM) 4 bM) 5 cM) 6 dM) (v := nI jxa) (a := 0) (b := 3) q1 (show ¬ (3 < (nI jxa)) from (sm_nltN rfl rfl (show jxa ≤ 3 by omega) (show 3 < 2 ^ 31 by omega)))).deep (by decide)) ?_
          exact mz_ret rfl
        refine mz_goP 4 (c' := (18, [some (.ref 65), some (.int (nI jxa)), none, none, none], [.int (nI jxa), .ref 75], mz_set (mz_set (mz_set (mz_set (mz_set w 2 pM) 3 aM) 4 bM) 5 cM) 6 dM)) rfl ?_
        refine mz_arrP (c' := (19, [some (.ref 65), some (.int (nI jxa)), none, none, none], [.int (w 75 ((nI jxa).toNatClampNeg))], mz_set (mz_set (mz_set (mz_set (mz_set w 2 pM) 3 aM) 4 bM) 5 cM) 6 dM)) rfl (show mz_in (nI jxa) 4 = true from sm_inN rfl (show jxa < 4 by omega) (by decide)) ?_
        rw [show (nI jxa : Int32).toNatClampNeg = jxa from sm_clN rfl (show jxa < 2 ^ 31 by omega)]
        rw [show w 75 jxa = w 61 jxa from (hsh jxa (by omega)).2.2.1]
        rw [o3]
        refine mz_goP 7 (c' := (35, [some (.ref 65), some (.int (nI jxa)), some (.int 0), some (.int (24 * (nI jxa))), none], [], mz_set (mz_set (mz_set (mz_set (mz_set w 2 pM) 3 aM) 4 bM) 5 cM) 6 dM)) rfl ?_
        obtain ⟨K2, sM, oM, hK2, hG3, hG4, hsM, EN⟩ := ct_magl (m := mz_set (mz_set (mz_set (mz_set (mz_set w 2 pM) 3 aM) 4 bM) 5 cM) 6 dM) (S := jxa) (z := zz4) (N := N) (by omega) (by omega) hN ((hsh jxa (by omega)).2.2.2.trans ezz4) 6 0 (by omega) (fun i hi => absurd hi (Nat.not_lt_zero i)) (w 66) none (sm_ms_0 h660)
        rw [show mz_set (mz_set (mz_set (mz_set (mz_set (mz_set w 2 pM) 3 aM) 4 bM) 5 cM) 6 dM) 66 (w 66) = mz_set (mz_set (mz_set (mz_set (mz_set w 2 pM) 3 aM) 4 bM) 5 cM) 6 dM from (sm_of1 (fun i _ => rfl)).symm] at EN
        have hmu : ∀ i, sm_mg (w 77) (24 * jxa) zz4 N i ↔ sm_mg (w 63) (24 * jxa) zz4 N i := fun i => sm_mg_of (by omega) (by omega) hsn
        obtain rfl : K1 = K2 := (sm_mg_uniq hG1 hG2 (fun i hi => (hmu i).mp (hG3 i hi)) (fun h => hG4 ((hmu K2).mpr h))).symm
        rw [show 24 * (nI jxa) = nI (24 * jxa) from sm_mulN rfl rfl]
        refine mz_hkP EN ?_
        refine mz_goP 1 (c' := (171, [some (.ref 65), some (.int (nI jxa)), some (.int (nI K1)), some (.int (nI (24 * jxa))), oM], [.int (nI K1)], mz_set (mz_set (mz_set (mz_set (mz_set (mz_set w 2 pM) 3 aM) 4 bM) 5 cM) 6 dM) 66 sM)) rfl ?_
        refine mz_retP (r := (some (.int (nI K1)), mz_set (mz_set (mz_set (mz_set (mz_set (mz_set w 2 pM) 3 aM) 4 bM) 5 cM) 6 dM) 66 sM)) rfl ⟨nI K1, rfl, ?_, rfl⟩
        show sm_I (n + 1) (mz_set (mz_set (mz_set (mz_set (mz_set (mz_set w 2 pM) 3 aM) 4 bM) 5 cM) 6 dM) 66 sM)
        obtain ⟨-, ⟨d1, d2, d3, ⟨d4, d4b, d4c⟩, d5, d6, d7, d8⟩, da, db, dc⟩ := hI2
        have hs : ∀ i, i ≠ 0 ∧ (i < 30 ∨ 54 ≤ i) → sM i = w 66 i := fun i h => hsM.2.2 i h.1 h.2
        exact ⟨hn, ⟨sm_mag1 (S := jxa) hN (by omega) (by omega) hsn hG1 d1.2 hpM haM hbM hcM hdM hsM, sm_k2 (fun i h1 h2 => hs i (by omega)) d2, sm_k3 (hs 1 (by omega)) (fun i h1 h2 => hs i (by omega)) d3, ⟨sm_k4 (fun i h1 h2 => hs i (by omega)) d4, sm_k4 (fun i h1 h2 => hs i (by omega)) d4b, sm_k4 (fun i h1 h2 => hs i (by omega)) d4c⟩, sm_k5 (fun i h1 h2 => hs i (by omega)) d5, sm_k6 (fun i h1 h2 => hs i (by omega)) d6, sm_k7 (fun i h1 h2 => hs i (by omega)) d7, sm_k8 (hs 2 (by omega)) (hs 3 (by omega)) (fun i h1 h2 => hs i (by omega)) d8⟩, da, db, sm_cc_of (fun i h1 h2 => by simp only [mz_set_ne (show i ≠ 2 by omega), mz_set_ne (show i ≠ 3 by omega), mz_set_ne (show i ≠ 4 by omega), mz_set_ne (show i ≠ 5 by omega), mz_set_ne (show i ≠ 6 by omega), mz_set_ne (show i ≠ 66 by omega)]) dc⟩
      · obtain ⟨zz5, hzz5, ezz5⟩ := sm_Nof (by decide) (hsh jxa (by omega)).2.1
        refine mz_goP 3 (c' := (5, [some (.ref 0), some (.int (nI jxa)), none], [.int (nI jxa), .ref 60], w)) rfl ?_
        refine mz_doPQ (R := mz_r45) (as := [.ref 60, .int (nI jxa)]) (rest := []) (r1 := some (.int 1)) (m1 := w) mz_t45 mz_v45_60 rfl rfl rfl rfl rfl ⟨?_, rfl⟩ ?_
        · refine mz_go 2 (c' := (if (nI jxa) < 0 then 13 else 4, [some (.ref 60), some (.int (nI jxa))], [], w)) rfl ?_
          refine mz_ifF q1 ?_
          refine mz_go 3 (c' := (if 4 ≤ (nI jxa) then 13 else 9, [some (.ref 60), some (.int (nI jxa))], [], w)) rfl ?_
          refine mz_ifF q2 ?_
          refine mz_go 2 (c' := (14, [some (.ref 60), some (.int (nI jxa))], [.int 1], w)) rfl ?_
          exact mz_ret rfl
        refine mz_goP 4 (c' := (22, [some (.ref 0), some (.int (nI jxa)), none], [.int (nI jxa), .ref 60], w)) rfl ?_
        refine mz_doPQ (R := mz_r46) (as := [.ref 60, .int (nI jxa)]) (rest := []) (r1 := some (.int 0)) (m1 := w) mz_t46 mz_v46_60 rfl rfl rfl rfl rfl ⟨?_, rfl⟩ ?_
        · refine mz_go 2 (c' := (2, [some (.ref 60), some (.int (nI jxa))], [.int (nI jxa), .ref 60], w)) rfl ?_
          refine mz_doQ (R := mz_r45) (as := [.ref 60, .int (nI jxa)]) (rest := []) (r1 := some (.int 1)) (m1 := w) mz_t45 mz_v45_60 rfl rfl rfl rfl rfl ⟨?_, rfl⟩ ?_
          · refine mz_go 2 (c' := (if (nI jxa) < 0 then 13 else 4, [some (.ref 60), some (.int (nI jxa))], [], w)) rfl ?_
            refine mz_ifF q1 ?_
            refine mz_go 3 (c' := (if 4 ≤ (nI jxa) then 13 else 9, [some (.ref 60), some (.int (nI jxa))], [], w)) rfl ?_
            refine mz_ifF q2 ?_
            refine mz_go 2 (c' := (14, [some (.ref 60), some (.int (nI jxa))], [.int 1], w)) rfl ?_
            exact mz_ret rfl
          refine mz_go 4 (c' := (13, [some (.ref 60), some (.int (nI jxa))], [.int (nI jxa), .ref 61], w)) rfl ?_
          refine mz_arr (c' := (14, [some (.ref 60), some (.int (nI jxa))], [.int (w 61 ((nI jxa).toNatClampNeg))], w)) rfl (show mz_in (nI jxa) 4 = true from sm_inN rfl (show jxa < 4 by omega) (by decide)) ?_
          rw [show (nI jxa : Int32).toNatClampNeg = jxa from sm_clN rfl (show jxa < 2 ^ 31 by omega)]
          rw [o3]
          refine mz_go 2 (c' := (22, [some (.ref 60), some (.int (nI jxa))], [.int 0], w)) rfl ?_
          exact mz_ret rfl
        refine mz_goP 3 (c' := (36, [some (.ref 0), some (.int (nI jxa)), some (.int 0)], [], w)) rfl ?_
        obtain ⟨K1, pM, aM, bM, cM, dM, hK1, hG1, hG2, hpM, haM, hbM, hcM, hdM, EM⟩ := cs_magl (m := w) (S := jxa) (z := zz5) (N := N) (by omega) (by omega) hN ezz5 6 0 (by omega) (fun i hi => absurd hi (Nat.not_lt_zero i)) (w 2) (w 3) (w 4) (w 5) (w 6) h4 sm_ml_0 sm_ml_0 sm_ml_0 sm_ml_0
        rw [show mz_set (mz_set (mz_set (mz_set (mz_set w 2 (w 2)) 3 (w 3)) 4 (w 4)) 5 (w 5)) 6 (w 6) = w from (sm_of5 (fun i _ _ _ _ _ => rfl)).symm] at EM
        refine mz_hkP EM ?_
        refine mz_goP 1 (c' := (60, [some (.ref 0), some (.int (nI jxa)), some (.int (nI K1))], [.int (nI K1)], mz_set (mz_set (mz_set (mz_set (mz_set w 2 pM) 3 aM) 4 bM) 5 cM) 6 dM)) rfl ?_
        refine mz_retP (r := (some (.int (nI K1)), mz_set (mz_set (mz_set (mz_set (mz_set w 2 pM) 3 aM) 4 bM) 5 cM) 6 dM)) rfl ⟨nI K1, rfl, ?_⟩
        refine mz_goP 1 (c' := (1, [some (.ref 65), some (.int (nI jxa)), none, none, none], [.int (nI jxa)], mz_set (mz_set (mz_set (mz_set (mz_set w 2 pM) 3 aM) 4 bM) 5 cM) 6 dM)) rfl ?_
        refine mz_doPQ (R := mz_r219) (as := [.int (nI jxa)]) (rest := []) (r1 := some (.int 1)) (m1 := mz_set (mz_set (mz_set (mz_set (mz_set w 2 pM) 3 aM) 4 bM) 5 cM) 6 dM) mz_t219 mz_v219 rfl rfl rfl rfl rfl ⟨?_, rfl⟩ ?_
        · refine mz_go 3 (c' := (3, [some (.int (nI jxa))], [.int 3, .int 0, .int (nI jxa)], mz_set (mz_set (mz_set (mz_set (mz_set w 2 pM) 3 aM) 4 bM) 5 cM) 6 dM)) rfl ?_
          refine mz_doQ (R := mz_r128) (as := [.int (nI jxa), .int 0, .int 3]) (rest := []) (r1 := some (.int 1)) (m1 := mz_set (mz_set (mz_set (mz_set (mz_set w 2 pM) 3 aM) 4 bM) 5 cM) 6 dM) mz_t128 mz_v128 rfl rfl rfl rfl rfl ((ct_in1 (m := mz_set (mz_set (mz_set (mz_set (mz_set w 2 pM) 3 aM) 4 bM) 5 cM) 6 dM) (v := nI jxa) (a := 0) (b := 3) q1 (show ¬ (3 < (nI jxa)) from (sm_nltN rfl rfl (show jxa ≤ 3 by omega) (show 3 < 2 ^ 31 by omega)))).deep (by decide)) ?_
          exact mz_ret rfl
        refine mz_goP 4 (c' := (18, [some (.ref 65), some (.int (nI jxa)), none, none, none], [.int (nI jxa), .ref 75], mz_set (mz_set (mz_set (mz_set (mz_set w 2 pM) 3 aM) 4 bM) 5 cM) 6 dM)) rfl ?_
        refine mz_arrP (c' := (19, [some (.ref 65), some (.int (nI jxa)), none, none, none], [.int (w 75 ((nI jxa).toNatClampNeg))], mz_set (mz_set (mz_set (mz_set (mz_set w 2 pM) 3 aM) 4 bM) 5 cM) 6 dM)) rfl (show mz_in (nI jxa) 4 = true from sm_inN rfl (show jxa < 4 by omega) (by decide)) ?_
        rw [show (nI jxa : Int32).toNatClampNeg = jxa from sm_clN rfl (show jxa < 2 ^ 31 by omega)]
        rw [show w 75 jxa = w 61 jxa from (hsh jxa (by omega)).2.2.1]
        rw [o3]
        refine mz_goP 7 (c' := (35, [some (.ref 65), some (.int (nI jxa)), some (.int 0), some (.int (24 * (nI jxa))), none], [], mz_set (mz_set (mz_set (mz_set (mz_set w 2 pM) 3 aM) 4 bM) 5 cM) 6 dM)) rfl ?_
        obtain ⟨K2, sM, oM, hK2, hG3, hG4, hsM, EN⟩ := ct_magl (m := mz_set (mz_set (mz_set (mz_set (mz_set w 2 pM) 3 aM) 4 bM) 5 cM) 6 dM) (S := jxa) (z := zz5) (N := N) (by omega) (by omega) hN ((hsh jxa (by omega)).2.2.2.trans ezz5) 6 0 (by omega) (fun i hi => absurd hi (Nat.not_lt_zero i)) (w 66) none (sm_ms_0 h660)
        rw [show mz_set (mz_set (mz_set (mz_set (mz_set (mz_set w 2 pM) 3 aM) 4 bM) 5 cM) 6 dM) 66 (w 66) = mz_set (mz_set (mz_set (mz_set (mz_set w 2 pM) 3 aM) 4 bM) 5 cM) 6 dM from (sm_of1 (fun i _ => rfl)).symm] at EN
        have hmu : ∀ i, sm_mg (w 77) (24 * jxa) zz5 N i ↔ sm_mg (w 63) (24 * jxa) zz5 N i := fun i => sm_mg_of (by omega) (by omega) hsn
        obtain rfl : K1 = K2 := (sm_mg_uniq hG1 hG2 (fun i hi => (hmu i).mp (hG3 i hi)) (fun h => hG4 ((hmu K2).mpr h))).symm
        rw [show 24 * (nI jxa) = nI (24 * jxa) from sm_mulN rfl rfl]
        refine mz_hkP EN ?_
        refine mz_goP 1 (c' := (171, [some (.ref 65), some (.int (nI jxa)), some (.int (nI K1)), some (.int (nI (24 * jxa))), oM], [.int (nI K1)], mz_set (mz_set (mz_set (mz_set (mz_set (mz_set w 2 pM) 3 aM) 4 bM) 5 cM) 6 dM) 66 sM)) rfl ?_
        refine mz_retP (r := (some (.int (nI K1)), mz_set (mz_set (mz_set (mz_set (mz_set (mz_set w 2 pM) 3 aM) 4 bM) 5 cM) 6 dM) 66 sM)) rfl ⟨nI K1, rfl, ?_, rfl⟩
        show sm_I (n + 1) (mz_set (mz_set (mz_set (mz_set (mz_set (mz_set w 2 pM) 3 aM) 4 bM) 5 cM) 6 dM) 66 sM)
        obtain ⟨-, ⟨d1, d2, d3, ⟨d4, d4b, d4c⟩, d5, d6, d7, d8⟩, da, db, dc⟩ := hI2
        have hs : ∀ i, i ≠ 0 ∧ (i < 30 ∨ 54 ≤ i) → sM i = w 66 i := fun i h => hsM.2.2 i h.1 h.2
        exact ⟨hn, ⟨sm_mag1 (S := jxa) hN (by omega) (by omega) hsn hG1 d1.2 hpM haM hbM hcM hdM hsM, sm_k2 (fun i h1 h2 => hs i (by omega)) d2, sm_k3 (hs 1 (by omega)) (fun i h1 h2 => hs i (by omega)) d3, ⟨sm_k4 (fun i h1 h2 => hs i (by omega)) d4, sm_k4 (fun i h1 h2 => hs i (by omega)) d4b, sm_k4 (fun i h1 h2 => hs i (by omega)) d4c⟩, sm_k5 (fun i h1 h2 => hs i (by omega)) d5, sm_k6 (fun i h1 h2 => hs i (by omega)) d6, sm_k7 (fun i h1 h2 => hs i (by omega)) d7, sm_k8 (hs 2 (by omega)) (hs 3 (by omega)) (fun i h1 h2 => hs i (by omega)) d8⟩, da, db, sm_cc_of (fun i h1 h2 => by simp only [mz_set_ne (show i ≠ 2 by omega), mz_set_ne (show i ≠ 3 by omega), mz_set_ne (show i ≠ 4 by omega), mz_set_ne (show i ≠ 5 by omega), mz_set_ne (show i ≠ 6 by omega), mz_set_ne (show i ≠ 66 by omega)]) dc⟩
      · obtain ⟨zz6, hzz6, ezz6⟩ := sm_Nof (by decide) (hsh jxa (by omega)).2.1
        refine mz_goP 3 (c' := (5, [some (.ref 0), some (.int (nI jxa)), none], [.int (nI jxa), .ref 60], w)) rfl ?_
        refine mz_doPQ (R := mz_r45) (as := [.ref 60, .int (nI jxa)]) (rest := []) (r1 := some (.int 1)) (m1 := w) mz_t45 mz_v45_60 rfl rfl rfl rfl rfl ⟨?_, rfl⟩ ?_
        · refine mz_go 2 (c' := (if (nI jxa) < 0 then 13 else 4, [some (.ref 60), some (.int (nI jxa))], [], w)) rfl ?_
          refine mz_ifF q1 ?_
          refine mz_go 3 (c' := (if 4 ≤ (nI jxa) then 13 else 9, [some (.ref 60), some (.int (nI jxa))], [], w)) rfl ?_
          refine mz_ifF q2 ?_
          refine mz_go 2 (c' := (14, [some (.ref 60), some (.int (nI jxa))], [.int 1], w)) rfl ?_
          exact mz_ret rfl
        refine mz_goP 4 (c' := (22, [some (.ref 0), some (.int (nI jxa)), none], [.int (nI jxa), .ref 60], w)) rfl ?_
        refine mz_doPQ (R := mz_r46) (as := [.ref 60, .int (nI jxa)]) (rest := []) (r1 := some (.int 0)) (m1 := w) mz_t46 mz_v46_60 rfl rfl rfl rfl rfl ⟨?_, rfl⟩ ?_
        · refine mz_go 2 (c' := (2, [some (.ref 60), some (.int (nI jxa))], [.int (nI jxa), .ref 60], w)) rfl ?_
          refine mz_doQ (R := mz_r45) (as := [.ref 60, .int (nI jxa)]) (rest := []) (r1 := some (.int 1)) (m1 := w) mz_t45 mz_v45_60 rfl rfl rfl rfl rfl ⟨?_, rfl⟩ ?_
          · refine mz_go 2 (c' := (if (nI jxa) < 0 then 13 else 4, [some (.ref 60), some (.int (nI jxa))], [], w)) rfl ?_
            refine mz_ifF q1 ?_
            refine mz_go 3 (c' := (if 4 ≤ (nI jxa) then 13 else 9, [some (.ref 60), some (.int (nI jxa))], [], w)) rfl ?_
            refine mz_ifF q2 ?_
            refine mz_go 2 (c' := (14, [some (.ref 60), some (.int (nI jxa))], [.int 1], w)) rfl ?_
            exact mz_ret rfl
          refine mz_go 4 (c' := (13, [some (.ref 60), some (.int (nI jxa))], [.int (nI jxa), .ref 61], w)) rfl ?_
          refine mz_arr (c' := (14, [some (.ref 60), some (.int (nI jxa))], [.int (w 61 ((nI jxa).toNatClampNeg))], w)) rfl (show mz_in (nI jxa) 4 = true from sm_inN rfl (show jxa < 4 by omega) (by decide)) ?_
          rw [show (nI jxa : Int32).toNatClampNeg = jxa from sm_clN rfl (show jxa < 2 ^ 31 by omega)]
          rw [o3]
          refine mz_go 2 (c' := (22, [some (.ref 60), some (.int (nI jxa))], [.int 0], w)) rfl ?_
          exact mz_ret rfl
        refine mz_goP 3 (c' := (36, [some (.ref 0), some (.int (nI jxa)), some (.int 0)], [], w)) rfl ?_
        obtain ⟨K1, pM, aM, bM, cM, dM, hK1, hG1, hG2, hpM, haM, hbM, hcM, hdM, EM⟩ := cs_magl (m := w) (S := jxa) (z := zz6) (N := N) (by omega) (by omega) hN ezz6 6 0 (by omega) (fun i hi => absurd hi (Nat.not_lt_zero i)) (w 2) (w 3) (w 4) (w 5) (w 6) h4 sm_ml_0 sm_ml_0 sm_ml_0 sm_ml_0
        rw [show mz_set (mz_set (mz_set (mz_set (mz_set w 2 (w 2)) 3 (w 3)) 4 (w 4)) 5 (w 5)) 6 (w 6) = w from (sm_of5 (fun i _ _ _ _ _ => rfl)).symm] at EM
        refine mz_hkP EM ?_
        refine mz_goP 1 (c' := (60, [some (.ref 0), some (.int (nI jxa)), some (.int (nI K1))], [.int (nI K1)], mz_set (mz_set (mz_set (mz_set (mz_set w 2 pM) 3 aM) 4 bM) 5 cM) 6 dM)) rfl ?_
        refine mz_retP (r := (some (.int (nI K1)), mz_set (mz_set (mz_set (mz_set (mz_set w 2 pM) 3 aM) 4 bM) 5 cM) 6 dM)) rfl ⟨nI K1, rfl, ?_⟩
        refine mz_goP 1 (c' := (1, [some (.ref 65), some (.int (nI jxa)), none, none, none], [.int (nI jxa)], mz_set (mz_set (mz_set (mz_set (mz_set w 2 pM) 3 aM) 4 bM) 5 cM) 6 dM)) rfl ?_
        refine mz_doPQ (R := mz_r219) (as := [.int (nI jxa)]) (rest := []) (r1 := some (.int 1)) (m1 := mz_set (mz_set (mz_set (mz_set (mz_set w 2 pM) 3 aM) 4 bM) 5 cM) 6 dM) mz_t219 mz_v219 rfl rfl rfl rfl rfl ⟨?_, rfl⟩ ?_
        · refine mz_go 3 (c' := (3, [some (.int (nI jxa))], [.int 3, .int 0, .int (nI jxa)], mz_set (mz_set (mz_set (mz_set (mz_set w 2 pM) 3 aM) 4 bM) 5 cM) 6 dM)) rfl ?_
          refine mz_doQ (R := mz_r128) (as := [.int (nI jxa), .int 0, .int 3]) (rest := []) (r1 := some (.int 1)) (m1 := mz_set (mz_set (mz_set (mz_set (mz_set w 2 pM) 3 aM) 4 bM) 5 cM) 6 dM) mz_t128 mz_v128 rfl rfl rfl rfl rfl ((ct_in1 (m := mz_set (mz_set (mz_set (mz_set (mz_set w 2 pM) 3 aM) 4 bM) 5 cM) 6 dM) (v := nI jxa) (a := 0) (b := 3) q1 (show ¬ (3 < (nI jxa)) from (sm_nltN rfl rfl (show jxa ≤ 3 by omega) (show 3 < 2 ^ 31 by omega)))).deep (by decide)) ?_
          exact mz_ret rfl
        refine mz_goP 4 (c' := (18, [some (.ref 65), some (.int (nI jxa)), none, none, none], [.int (nI jxa), .ref 75], mz_set (mz_set (mz_set (mz_set (mz_set w 2 pM) 3 aM) 4 bM) 5 cM) 6 dM)) rfl ?_
        refine mz_arrP (c' := (19, [some (.ref 65), some (.int (nI jxa)), none, none, none], [.int (w 75 ((nI jxa).toNatClampNeg))], mz_set (mz_set (mz_set (mz_set (mz_set w 2 pM) 3 aM) 4 bM) 5 cM) 6 dM)) rfl (show mz_in (nI jxa) 4 = true from sm_inN rfl (show jxa < 4 by omega) (by decide)) ?_
        rw [show (nI jxa : Int32).toNatClampNeg = jxa from sm_clN rfl (show jxa < 2 ^ 31 by omega)]
        rw [show w 75 jxa = w 61 jxa from (hsh jxa (by omega)).2.2.1]
        rw [o3]
        refine mz_goP 7 (c' := (35, [some (.ref 65), some (.int (nI jxa)), some (.int 0), some (.int (24 * (nI jxa))), none], [], mz_set (mz_set (mz_set (mz_set (mz_set w 2 pM) 3 aM) 4 bM) 5 cM) 6 dM)) rfl ?_
        obtain ⟨K2, sM, oM, hK2, hG3, hG4, hsM, EN⟩ := ct_magl (m := mz_set (mz_set (mz_set (mz_set (mz_set w 2 pM) 3 aM) 4 bM) 5 cM) 6 dM) (S := jxa) (z := zz6) (N := N) (by omega) (by omega) hN ((hsh jxa (by omega)).2.2.2.trans ezz6) 6 0 (by omega) (fun i hi => absurd hi (Nat.not_lt_zero i)) (w 66) none (sm_ms_0 h660)
        rw [show mz_set (mz_set (mz_set (mz_set (mz_set (mz_set w 2 pM) 3 aM) 4 bM) 5 cM) 6 dM) 66 (w 66) = mz_set (mz_set (mz_set (mz_set (mz_set w 2 pM) 3 aM) 4 bM) 5 cM) 6 dM from (sm_of1 (fun i _ => rfl)).symm] at EN
        have hmu : ∀ i, sm_mg (w 77) (24 * jxa) zz6 N i ↔ sm_mg (w 63) (24 * jxa) zz6 N i := fun i => sm_mg_of (by omega) (by omega) hsn
        obtain rfl : K1 = K2 := (sm_mg_uniq hG1 hG2 (fun i hi => (hmu i).mp (hG3 i hi)) (fun h => hG4 ((hmu K2).mpr h))).symm
        rw [show 24 * (nI jxa) = nI (24 * jxa) from sm_mulN rfl rfl]
        refine mz_hkP EN ?_
        refine mz_goP 1 (c' := (171, [some (.ref 65), some (.int (nI jxa)), some (.int (nI K1)), some (.int (nI (24 * jxa))), oM], [.int (nI K1)], mz_set (mz_set (mz_set (mz_set (mz_set (mz_set w 2 pM) 3 aM) 4 bM) 5 cM) 6 dM) 66 sM)) rfl ?_
        refine mz_retP (r := (some (.int (nI K1)), mz_set (mz_set (mz_set (mz_set (mz_set (mz_set w 2 pM) 3 aM) 4 bM) 5 cM) 6 dM) 66 sM)) rfl ⟨nI K1, rfl, ?_, rfl⟩
        show sm_I (n + 1) (mz_set (mz_set (mz_set (mz_set (mz_set (mz_set w 2 pM) 3 aM) 4 bM) 5 cM) 6 dM) 66 sM)
        obtain ⟨-, ⟨d1, d2, d3, ⟨d4, d4b, d4c⟩, d5, d6, d7, d8⟩, da, db, dc⟩ := hI2
        have hs : ∀ i, i ≠ 0 ∧ (i < 30 ∨ 54 ≤ i) → sM i = w 66 i := fun i h => hsM.2.2 i h.1 h.2
        exact ⟨hn, ⟨sm_mag1 (S := jxa) hN (by omega) (by omega) hsn hG1 d1.2 hpM haM hbM hcM hdM hsM, sm_k2 (fun i h1 h2 => hs i (by omega)) d2, sm_k3 (hs 1 (by omega)) (fun i h1 h2 => hs i (by omega)) d3, ⟨sm_k4 (fun i h1 h2 => hs i (by omega)) d4, sm_k4 (fun i h1 h2 => hs i (by omega)) d4b, sm_k4 (fun i h1 h2 => hs i (by omega)) d4c⟩, sm_k5 (fun i h1 h2 => hs i (by omega)) d5, sm_k6 (fun i h1 h2 => hs i (by omega)) d6, sm_k7 (fun i h1 h2 => hs i (by omega)) d7, sm_k8 (hs 2 (by omega)) (hs 3 (by omega)) (fun i h1 h2 => hs i (by omega)) d8⟩, da, db, sm_cc_of (fun i h1 h2 => by simp only [mz_set_ne (show i ≠ 2 by omega), mz_set_ne (show i ≠ 3 by omega), mz_set_ne (show i ≠ 4 by omega), mz_set_ne (show i ≠ 5 by omega), mz_set_ne (show i ≠ 6 by omega), mz_set_ne (show i ≠ 66 by omega)]) dc⟩
