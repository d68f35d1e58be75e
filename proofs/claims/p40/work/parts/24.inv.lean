/-! what class and reference keep between calls -/
noncomputable def sm_colB (c : Int32) : Prop := sm_N 5 c ∨ c = 9
/-- plate: count, kinds, xs, ys, strengths -/
noncomputable def sm_c1 (p k x y t s : Nat → Int32) : Prop := (∃ N, N ≤ 6 ∧ p 4 = nI N ∧ s 0 = nI N) ∧ ∀ i, i < 6 → (sm_N 6 (k i) ∧ sm_B 100 (x i) ∧ sm_B 100 (y i) ∧ sm_N 99 (t i)) ∧ s (30 + 4 * i) = k i ∧ s (30 + 4 * i + 1) = x i ∧ s (30 + 4 * i + 2) = y i ∧ s (30 + 4 * i + 3) = t i
/-- rules -/
noncomputable def sm_c2 (r s : Nat → Int32) : Prop := sm_N 80 (r 2) ∧ (r 5 = 1 ∨ r 5 = 2) ∧ ∀ i, i < 6 → s (10 + i) = r i
/-- tape: size, bytes -/
noncomputable def sm_c3 (t b s : Nat → Int32) : Prop := (∃ N, N ≤ 60 ∧ t 1 = nI N ∧ s 1 = nI N) ∧ ∀ i, i < 60 → sm_N 255 (b i) ∧ s (550 + i) = b i
/-- a text: its object, signs, values -/
noncomputable def sm_c4 (t g v : Nat → Int32) (c base : Nat) (ch s : Nat → Int32) : Prop := ∃ T, t 2 = nI T ∧ s base = nI T ∧ (T = 0 ∨ sm_wf T c g v) ∧ ∀ k, k < T → sm_lk ch (g k) (v k) (s (base + 1 + 2 * k)) (s (base + 2 + 2 * k))
/-- bob -/
noncomputable def sm_c5 (b s : Nat → Int32) : Prop := sm_B 1600 (b 0) ∧ sm_B 1600 (b 1) ∧ sm_like (fun k => s (20 + k)) b
/-- picture: its object, colours, lengths -/
noncomputable def sm_c6 (p c l s : Nat → Int32) : Prop := (∃ W H, W ≤ 6 ∧ H ≤ 6 ∧ (W = 0 ↔ H = 0) ∧ p 2 = nI W ∧ p 3 = nI H ∧ s 60 = nI W ∧ s 61 = nI H) ∧ s 62 = p 0 ∧ s 63 = p 1 ∧ s 64 = p 4 ∧ ∀ i, i < 36 → sm_colB (c i) ∧ s (70 + i) = c i ∧ s (110 + i) = l i
/-- thrown -/
noncomputable def sm_c7 (t h s : Nat → Int32) : Prop := (t 9 = 0 ∨ t 9 = 1) ∧ s 160 = t 9 ∧ ∀ i, i < 10 → s (150 + i) = h i
/-- waits, z -/
noncomputable def sm_c8 (t a s : Nat → Int32) : Prop := (∃ n, n ≤ 24 ∧ t 11 = nI n ∧ s 2 = nI n) ∧ s 3 = t 12 ∧ ∀ i, i < 24 → s (620 + i) = a i
noncomputable def sm_St (o : Nat) (m : mz_M) (s : Nat → Int32) : Prop := sm_c1 (m (o + 2)) (m (o + 3)) (m (o + 4)) (m (o + 5)) (m (o + 6)) s ∧ sm_c2 (m (o + 7)) s ∧ sm_c3 (m (o + 8)) (m (o + 9)) s ∧ (sm_c4 (m (o + 10)) (m (o + 11)) (m (o + 12)) 3 170 sm_ch0 s ∧ sm_c4 (m (o + 13)) (m (o + 14)) (m (o + 15)) 3 295 sm_ch1 s ∧ sm_c4 (m (o + 16)) (m (o + 17)) (m (o + 18)) 5 420 sm_ch2 s) ∧ sm_c5 (m (o + 19)) s ∧ sm_c6 (m (o + 20)) (m (o + 21)) (m (o + 22)) s ∧ sm_c7 (m (o + 1)) (m (o + 23)) s ∧ sm_c8 (m (o + 1)) (m (o + 24)) s
/-- sheets: bits, sizes, numbers -/
noncomputable def sm_ca (a b c a' b' c' : Nat → Int32) : Prop := (∀ i, i < 4 → (a i = 0 ∨ a i = 8 ∨ a i = 16 ∨ a i = 32) ∧ sm_N 24 (b i) ∧ a' i = a i ∧ b' i = b i) ∧ ∀ i, i < 96 → c' i = c i
/-- traces' sizes -/
noncomputable def sm_cb (a b : Int32) : Prop := sm_N 30 a ∧ sm_N 30 b
/-- images: how many, and the one -/
noncomputable def sm_cc (n : Nat) (m : mz_M) (a b : Int32) (s : Nat → Int32) : Prop := ∃ j, j ≤ n ∧ a = nI j ∧ b = nI j ∧ (1 ≤ j → sm_St 24 m s)
noncomputable def sm_I (n : Nat) (m : mz_M) : Prop := n ≤ 64 ∧ sm_St 0 m (m 66) ∧ sm_ca (m 61) (m 62) (m 63) (m 75) (m 76) (m 77) ∧ sm_cb (m 57 1) (m 65 19) ∧ sm_cc n m (m 0 7) (m 65 2) (m 67)
theorem sm_St_of {o : Nat} {m m' : mz_M} {s : Nat → Int32} (h : ∀ i, o + 1 ≤ i → i ≤ o + 24 → m' i = m i) (hs : sm_St o m s) : sm_St o m' s := by
  unfold sm_St
  rw [h (o + 1) (by omega) (by omega), h (o + 2) (by omega) (by omega), h (o + 3) (by omega) (by omega), h (o + 4) (by omega) (by omega), h (o + 5) (by omega) (by omega), h (o + 6) (by omega) (by omega), h (o + 7) (by omega) (by omega), h (o + 8) (by omega) (by omega), h (o + 9) (by omega) (by omega), h (o + 10) (by omega) (by omega), h (o + 11) (by omega) (by omega), h (o + 12) (by omega) (by omega), h (o + 13) (by omega) (by omega), h (o + 14) (by omega) (by omega), h (o + 15) (by omega) (by omega), h (o + 16) (by omega) (by omega), h (o + 17) (by omega) (by omega), h (o + 18) (by omega) (by omega), h (o + 19) (by omega) (by omega), h (o + 20) (by omega) (by omega), h (o + 21) (by omega) (by omega), h (o + 22) (by omega) (by omega), h (o + 23) (by omega) (by omega), h (o + 24) (by omega) (by omega)]
  exact hs
theorem sm_cc_of {n : Nat} {m m' : mz_M} {a b : Int32} {s : Nat → Int32} (h : ∀ i, 25 ≤ i → i ≤ 48 → m' i = m i) (hc : sm_cc n m a b s) : sm_cc (n + 1) m' a b s := by
  obtain ⟨j, hj, ha, hb, hs⟩ := hc
  exact ⟨j, by omega, ha, hb, fun h1 => sm_St_of h (hs h1)⟩
/-- rows that no call leaves a trace in -/
noncomputable def sm_scr (i : Nat) : Bool := decide (49 ≤ i) && (decide (i < 57) || decide (i = 58) || decide (i = 59) || decide (i = 60) || decide (i = 64) || decide (i = 65) || decide (i = 68) || (decide (69 ≤ i) && decide (i < 75)) || decide (78 ≤ i))
theorem sm_I_scr {n : Nat} {m m' : mz_M} (hn : n < 64) (hI : sm_I n m) (h : ∀ i, sm_scr i = false → m' i = m i) (h2 : m' 65 2 = m 65 2) (h19 : m' 65 19 = m 65 19) : sm_I (n + 1) m' := by
  obtain ⟨-, a, c, d, e⟩ := hI
  have hl : ∀ i, i < 49 → m' i = m i := fun i hi => h i (by unfold sm_scr; rw [decide_eq_false (by omega)]; rfl)
  refine ⟨hn, ?_, ?_, ?_, ?_⟩
  · rw [h 66 rfl]
    exact sm_St_of (fun i h1 h2 => hl i (by omega)) a
  · rw [h 61 rfl, h 62 rfl, h 63 rfl, h 75 rfl, h 76 rfl, h 77 rfl]
    exact c
  · rw [h 57 rfl, h19]
    exact d
  · rw [hl 0 (by decide), h2, h 67 rfl]
    exact sm_cc_of (fun i h1 h2 => hl i (by omega)) e
/-- the bob's world out of what is kept -/
theorem sm_tx4 {m : mz_M} {u c base : Nat} {ch s : Nat → Int32} (h : sm_c4 (m u) (m (u + 1)) (m (u + 2)) c base ch s) : sm_tx m u c ∧ sm_TR m s u base ch := by
  obtain ⟨T, h1, h2, h3, h4⟩ := h
  refine ⟨⟨T, h1, h3⟩, h2.trans h1.symm, ?_⟩
  rcases h3 with rfl | hw
  · intro k hk
    rw [h1] at hk
    exact absurd hk (by rw [nI_clamp (by decide)]; omega)
  · have := hw.1
    intro k hk
    rw [h1, nI_clamp (by omega)] at hk
    exact h4 k hk
theorem sm_world {n : Nat} {m : mz_M} (hI : sm_I n m) : ∃ N, sm_W m N ∧ sm_HR m (m 66) ∧ m 66 0 = nI N ∧ sm_N 80 (m 7 2) ∧ (m 7 5 = 1 ∨ m 7 5 = 2) ∧ m 66 15 = m 7 5 := by
  obtain ⟨-, ⟨⟨⟨N, hN, h4, h0⟩, hk⟩, ⟨r2, r5, hr⟩, -, ⟨t0, t1, t2⟩, -⟩, -⟩ := hI
  have a := sm_tx4 (u := 10) t0
  have b := sm_tx4 (u := 13) t1
  have c := sm_tx4 (u := 16) t2
  exact ⟨N, ⟨hN, h4, fun k h => (hk k h).1, a.1, b.1⟩, ⟨h0.trans h4.symm, fun k h => (hk k h).2, hr, a.2, b.2, c.2⟩, h0, r2, r5, hr 5 (by decide)⟩
/-- where a bob ends: class, reference -/
theorem sm_lim_of {m w : mz_M} (h : sm_Wl m w) (f : Int32) : sm_lim m f = sm_lim w f := by
  unfold sm_lim
  rw [h 7 (by decide) (by decide)]
theorem sm_go_B {x y u v : Int32} (hx : sm_B 100 x) (hy : sm_B 100 y) : sm_B 1600 (sm_go x y u v 0) ∧ sm_B 1600 (sm_go x y u v 1) := ⟨sm_16 hx, sm_16 hy⟩
theorem sm_last_of {m w : mz_M} (h : sm_Wl m w) (f x y u v : Int32) : sm_last m f x y u v = sm_last w f x y u v := by
  unfold sm_last
  rw [sm_lim_of h, sm_run_of h]
theorem sm_end_of {m w : mz_M} (h : sm_Wl m w) (f x y u v : Int32) : sm_end m f x y u v = sm_end w f x y u v := by
  unfold sm_end
  rw [sm_last_of h, sm_rest_of h]
theorem cw_end {m w : mz_M} (h : sm_Wl m w) {N : Nat} (hw : sm_W w N) {fi : Int32} (hfi : fi = 1 ∨ fi = 2 ∨ fi = 4) (hl : sm_N 80 (w 7 2)) {x y : Int32} (hx : sm_B 100 x) (hy : sm_B 100 y) (u v : Int32) : ∃ r f g, sm_like r (sm_last w fi x y u v) ∧ mz_Me 60 mz_r36 [.ref 49, .int x, .int y, .int u, .int v, .int fi] m (some (.int (sm_end w fi x y u v))) (mz_set (mz_set (mz_set m 50 r) 51 f) 52 g) := by
  rw [← sm_last_of h, ← sm_end_of h]
  exact cs_end (sm_W_of h hw) hfi (by rw [h 7 (by decide) (by decide)]; exact hl) hx hy u v
theorem ct_end {w m : mz_M} {N : Nat} (hw : sm_W w N) (hr : sm_HR w (m 66)) {f : Int32} (hfi : f = 1 ∨ f = 2 ∨ f = 4) (hl : sm_N 80 (w 7 2)) {x y u v : Int32} (hx : sm_B 100 x) (hy : sm_B 100 y) (hB : sm_like (fun k => m 65 (4 + k)) (sm_go x y u v)) : ∃ r a b, sm_like (fun k => r (4 + k)) (sm_last w f x y u v) ∧ (∀ k, k < 4 ∨ 8 < k → r k = m 65 k) ∧ mz_Me 60 mz_r154 [.ref 65, .int f] m (some (.int (sm_end w f x y u v))) (mz_set (mz_set (mz_set m 65 r) 70 a) 71 b) :=
  ct_runs hw hr hfi hl hB rfl (sm_16 hx) (sm_16 hy)
theorem sm_B_of {x : Int32} (h1 : ¬ x < -100) (h2 : ¬ 100 < x) : sm_B 100 x := by
  have e1 : (-100 : Int32).toInt = -100 := by decide
  have e2 : (100 : Int32).toInt = 100 := by decide
  rw [Int32.lt_iff_toInt_lt, e1] at h1
  rw [Int32.lt_iff_toInt_lt, e2] at h2
  unfold sm_B
  omega
theorem sm_N_of {x : Int32} {n : Nat} (hn : n < 2 ^ 31) (h1 : ¬ x < 0) (h2 : ¬ nI n < x) : sm_N n x := by
  rw [Int32.lt_iff_toInt_lt, Int32.toInt_zero] at h1
  rw [Int32.lt_iff_toInt_lt, nI_toInt hn] at h2
  unfold sm_N
  omega
/-- where a bob ends is a colour -/
theorem sm_rest_col {m : mz_M} {N : Nat} (hw : sm_W m N) (b : Nat → Int32) : sm_colB (sm_rest m b) := by
  have hN := hw.1
  have hc := sm_cntN hw.1 hw.2.1
  unfold sm_rest
  split
  · exact Or.inr rfl
  · split
    · exact Or.inr rfl
    · split
      · exact Or.inr rfl
      · rename_i h1 h2 h3
        rw [hc] at h2 ⊢
        obtain ⟨j, hj, e, -⟩ := sm_near_pos (by omega) h2
        rw [e]
        exact Or.inl (sm_Nto (by decide) (by omega))
theorem sm_f4 {f : Int32} (h : f = 1 ∨ f = 2) : 2 * f = 1 ∨ 2 * f = 2 ∨ 2 * f = 4 := by
  rcases h with rfl | rfl
  · exact Or.inr (Or.inl rfl)
  · exact Or.inr (Or.inr rfl)
/-! the row elsewhere unchanged -/
noncomputable def sm_kB (k x y t s : Nat → Int32) : Prop := ∀ i, i < 6 → (sm_N 6 (k i) ∧ sm_B 100 (x i) ∧ sm_B 100 (y i) ∧ sm_N 99 (t i)) ∧ s (30 + 4 * i) = k i ∧ s (30 + 4 * i + 1) = x i ∧ s (30 + 4 * i + 2) = y i ∧ s (30 + 4 * i + 3) = t i
theorem sm_k1b {k x y t s s' : Nat → Int32} (h : ∀ i, 30 ≤ i → i < 54 → s' i = s i) (hc : sm_kB k x y t s) : sm_kB k x y t s' := by
  intro i hi
  obtain ⟨a, b, c, d, e⟩ := hc i hi
  exact ⟨a, (h _ (by omega) (by omega)).trans b, (h _ (by omega) (by omega)).trans c, (h _ (by omega) (by omega)).trans d, (h _ (by omega) (by omega)).trans e⟩
theorem sm_k1 {p k x y t s s' : Nat → Int32} (h0 : s' 0 = s 0) (h : ∀ i, 30 ≤ i → i < 54 → s' i = s i) (hc : sm_c1 p k x y t s) : sm_c1 p k x y t s' := by
  obtain ⟨⟨N, a, b, c⟩, d⟩ := hc
  exact ⟨⟨N, a, b, h0.trans c⟩, sm_k1b h d⟩
theorem sm_k2 {r s s' : Nat → Int32} (h : ∀ i, 10 ≤ i → i < 16 → s' i = s i) (hc : sm_c2 r s) : sm_c2 r s' := ⟨hc.1, hc.2.1, fun i hi => (h _ (by omega) (by omega)).trans (hc.2.2 i hi)⟩
theorem sm_k3 {t b s s' : Nat → Int32} (h0 : s' 1 = s 1) (h : ∀ i, 550 ≤ i → i < 610 → s' i = s i) (hc : sm_c3 t b s) : sm_c3 t b s' := by
  obtain ⟨⟨N, a1, a2, a3⟩, d⟩ := hc
  exact ⟨⟨N, a1, a2, h0.trans a3⟩, fun i hi => ⟨(d i hi).1, (h _ (by omega) (by omega)).trans (d i hi).2⟩⟩
theorem sm_k4 {t g v ch s s' : Nat → Int32} {c base : Nat} (h : ∀ i, base ≤ i → i < base + 125 → s' i = s i) (hc : sm_c4 t g v c base ch s) : sm_c4 t g v c base ch s' := by
  obtain ⟨T, a1, a2, a3, a4⟩ := hc
  refine ⟨T, a1, (h _ (by omega) (by omega)).trans a2, a3, fun k hk => ?_⟩
  have hT : T ≤ 60 := by
    rcases a3 with rfl | hw
    · omega
    · exact hw.1
  rw [h _ (by omega) (by omega), h _ (by omega) (by omega)]
  exact a4 k hk
theorem sm_k5 {b s s' : Nat → Int32} (h : ∀ i, 20 ≤ i → i < 25 → s' i = s i) (hc : sm_c5 b s) : sm_c5 b s' := by
  obtain ⟨a1, a2, a3, a4, a5, a6, a7⟩ := hc
  exact ⟨a1, a2, (h 20 (by decide) (by decide)).trans a3, (h 21 (by decide) (by decide)).trans a4, (h 22 (by decide) (by decide)).trans a5, (h 23 (by decide) (by decide)).trans a6, (h 24 (by decide) (by decide)).trans a7⟩
theorem sm_k6 {p c l s s' : Nat → Int32} (h : ∀ i, 60 ≤ i → i < 146 → s' i = s i) (hc : sm_c6 p c l s) : sm_c6 p c l s' := by
  obtain ⟨⟨W, H, a1, a2, a3, a4, a5, a6, a7⟩, b1, b2, b3, b4⟩ := hc
  exact ⟨⟨W, H, a1, a2, a3, a4, a5, (h _ (by decide) (by decide)).trans a6, (h _ (by decide) (by decide)).trans a7⟩, (h _ (by decide) (by decide)).trans b1, (h _ (by decide) (by decide)).trans b2, (h _ (by decide) (by decide)).trans b3, fun i hi => ⟨(b4 i hi).1, (h _ (by omega) (by omega)).trans (b4 i hi).2.1, (h _ (by omega) (by omega)).trans (b4 i hi).2.2⟩⟩
theorem sm_k7 {t q s s' : Nat → Int32} (h : ∀ i, 150 ≤ i → i < 161 → s' i = s i) (hc : sm_c7 t q s) : sm_c7 t q s' := ⟨hc.1, (h _ (by decide) (by decide)).trans hc.2.1, fun i hi => (h _ (by omega) (by omega)).trans (hc.2.2 i hi)⟩
theorem sm_k8 {t a s s' : Nat → Int32} (h2 : s' 2 = s 2) (h3 : s' 3 = s 3) (h : ∀ i, 620 ≤ i → i < 644 → s' i = s i) (hc : sm_c8 t a s) : sm_c8 t a s' := by
  obtain ⟨⟨N, a1, a2, a3⟩, b, c⟩ := hc
  exact ⟨⟨N, a1, a2, h2.trans a3⟩, h3.trans b, fun i hi => (h _ (by omega) (by omega)).trans (c i hi)⟩
theorem sm_m1lt {y : Int32} {b : Nat} (h : y = nI b) (hb : b < 2 ^ 31) : (-1 : Int32) < y := by
  rw [h, Int32.lt_iff_toInt_lt, nI_toInt hb, show (-1 : Int32).toInt = -1 from by decide]
  omega
theorem sm_N_lim {x : Int32} (h1 : ¬ x < 1) (h2 : ¬ 80 < x) : sm_N 80 x := by
  have e1 : (1 : Int32).toInt = 1 := by decide
  have e2 : (80 : Int32).toInt = 80 := by decide
  rw [Int32.lt_iff_toInt_lt, e1] at h1
  rw [Int32.lt_iff_toInt_lt, e2] at h2
  unfold sm_N
  omega
theorem sm_fine12 {x : Int32} (h1 : ¬ x < 1) (h2 : ¬ 2 < x) : x = 1 ∨ x = 2 := by
  have e1 : (1 : Int32).toInt = 1 := by decide
  have e2 : (2 : Int32).toInt = 2 := by decide
  rw [Int32.lt_iff_toInt_lt, e1] at h1
  rw [Int32.lt_iff_toInt_lt, e2] at h2
  rcases (show x.toInt = 1 ∨ x.toInt = 2 by omega) with h | h
  · exact Or.inl (Int32.toInt_inj.mp (h.trans e1.symm))
  · exact Or.inr (Int32.toInt_inj.mp (h.trans e2.symm))
theorem sm_shifted {k x y t s s' k' x' y' : Nat → Int32} {j i : Nat} {a b c : Int32} (hs : ∀ i, i ≠ 30 + 4 * j + 0 → i ≠ 30 + 4 * j + 1 → i ≠ 30 + 4 * j + 2 → s' i = s i) (h0 : s' (30 + 4 * j + 0) = a ∧ s' (30 + 4 * j + 1) = b ∧ s' (30 + 4 * j + 2) = c) (hk : ∀ i, k' i = if i = j then a else k i) (hx : ∀ i, x' i = if i = j then b else x i) (hy : ∀ i, y' i = if i = j then c else y i) (hd : (sm_N 6 (k i) ∧ sm_B 100 (x i) ∧ sm_B 100 (y i) ∧ sm_N 99 (t i)) ∧ s (30 + 4 * i) = k i ∧ s (30 + 4 * i + 1) = x i ∧ s (30 + 4 * i + 2) = y i ∧ s (30 + 4 * i + 3) = t i) (ha : sm_N 6 a) (hb : sm_B 100 b) (hc : sm_B 100 c) : (sm_N 6 (k' i) ∧ sm_B 100 (x' i) ∧ sm_B 100 (y' i) ∧ sm_N 99 (t i)) ∧ s' (30 + 4 * i) = k' i ∧ s' (30 + 4 * i + 1) = x' i ∧ s' (30 + 4 * i + 2) = y' i ∧ s' (30 + 4 * i + 3) = t i := by
  obtain ⟨⟨b1, b2, b3, b4⟩, e1, e2, e3, e4⟩ := hd
  rw [hk, hx, hy]
  by_cases h : i = j
  · subst h
    rw [if_pos rfl, if_pos rfl, if_pos rfl]
    exact ⟨⟨ha, hb, hc, b4⟩, h0.1, h0.2.1, h0.2.2, (hs _ (by omega) (by omega) (by omega)).trans e4⟩
  · rw [if_neg h, if_neg h, if_neg h]
    exact ⟨⟨b1, b2, b3, b4⟩, (hs _ (by omega) (by omega) (by omega)).trans e1, (hs _ (by omega) (by omega) (by omega)).trans e2, (hs _ (by omega) (by omega) (by omega)).trans e3, (hs _ (by omega) (by omega) (by omega)).trans e4⟩
theorem sm_told {s s' a a' : Nat → Int32} {A i : Nat} {v : Int32} (hs : ∀ i, i ≠ 620 + A → i ≠ 2 → s' i = s i) (h : s (620 + i) = a i) (h1 : s' (620 + A) = v) (ha : ∀ i, a' i = if i = A then v else a i) : s' (620 + i) = a' i := by
  rw [ha]
  by_cases e : i = A
  · subst e
    rw [if_pos rfl, h1]
  · rw [if_neg e]
    exact (hs _ (by omega) (by omega)).trans h
theorem sm_T60 {T c : Nat} {g v : Nat → Int32} (h : T = 0 ∨ sm_wf T c g v) : T ≤ 60 := by
  rcases h with rfl | h
  · exact Nat.zero_le 60
  · exact h.1
