/-! the nearest magnet -/
noncomputable def sm_push (k : Int32) : Bool := decide (k = 2) || decide (k = 6)
/-- of the first magnets: the nearest (of those at which one may rest, with tr), and its FAR -/
noncomputable def sm_near (kd px py : Nat → Int32) (x y : Int32) (tr : Bool) : Nat → Int32 × Int32
  | 0 => (-1, 0)
  | k + 1 => if ((sm_near kd px py x y tr k).1 < 0 ∨ sm_far (px k) (py k) x y < (sm_near kd px py x y tr k).2) ∧ ¬ (tr = true ∧ sm_push (kd k) = true) then (nI k, sm_far (px k) (py k) x y) else sm_near kd px py x y tr k
theorem sm_near_is (kd px py : Nat → Int32) (x y : Int32) (tr : Bool) : ∀ n, n < 2 ^ 31 → (sm_near kd px py x y tr n).1 = -1 ∨ ∃ j, j < n ∧ (sm_near kd px py x y tr n).1 = nI j ∧ (sm_near kd px py x y tr n).2 = sm_far (px j) (py j) x y := by
  intro n
  induction n with
  | zero => exact fun _ => Or.inl rfl
  | succ n ih =>
    intro hn
    unfold sm_near
    split
    · exact Or.inr ⟨n, by omega, rfl, rfl⟩
    · rcases ih (by omega) with h | ⟨j, h1, h2, h3⟩
      · exact Or.inl h
      · exact Or.inr ⟨j, by omega, h2, h3⟩
theorem sm_near_neg {kd px py : Nat → Int32} {x y : Int32} {tr : Bool} {n : Nat} (hn : n < 2 ^ 31) (h : (sm_near kd px py x y tr n).1 < 0) : (sm_near kd px py x y tr n).1 = -1 := by
  rcases sm_near_is kd px py x y tr n hn with h1 | ⟨j, h1, h2, -⟩
  · exact h1
  · rw [h2] at h
    exact absurd h (nI_pos (by omega))
theorem sm_near_pos {kd px py : Nat → Int32} {x y : Int32} {tr : Bool} {n : Nat} (hn : n < 2 ^ 31) (h : ¬ (sm_near kd px py x y tr n).1 < 0) : ∃ j, j < n ∧ (sm_near kd px py x y tr n).1 = nI j ∧ (sm_near kd px py x y tr n).2 = sm_far (px j) (py j) x y := by
  rcases sm_near_is kd px py x y tr n hn with h1 | h1
  · rw [h1] at h
    exact absurd (by decide) h
  · exact h1
/-! what a text gives -/
noncomputable def sm_upd (f : Nat → Int32) (k : Nat) (v : Int32) : Nat → Int32 := fun j => if j = k then v else f j
theorem sm_up_set {m : mz_M} {i k : Nat} {g : Nat → Int32} {v : Int32} : mz_up (mz_set m i g) i k v = mz_set m i (sm_upd g k v) := by
  funext a b
  unfold mz_up mz_set sm_upd
  by_cases h : a = i
  · subst h
    rw [beq_self_eq_true]
    by_cases h2 : b = k
    · subst h2
      rw [beq_self_eq_true, if_pos rfl]
      rfl
    · rw [beq_eq_false_iff_ne.mpr h2, if_neg h2]
      rfl
  · rw [beq_eq_false_iff_ne.mpr h]
    rfl
noncomputable def sm_bI (b : Bool) : Int32 := if b then 1 else 0
noncomputable def sm_op (s a b : Int32) : Int32 :=
  if s = 124 then sm_bI (!decide (a = 0) || !decide (b = 0))
  else if s = 38 then sm_bI (!decide (a = 0) && !decide (b = 0))
  else if s = 60 then sm_bI (decide (a < b))
  else if s = 61 then sm_bI (decide (a = b))
  else if s = 62 then sm_bI (decide (b < a))
  else if s = 43 then a + b
  else if s = 45 then a - b
  else if s = 42 then a * b
  else if s = 47 then (if b = 0 then 0 else a / b)
  else (if b = 0 then 0 else a - a / b * b)
noncomputable def sm_dp (sg : Nat → Int32) : Nat → Nat
  | 0 => 0
  | k + 1 => if sg k = 0 ∨ sg k = 1 then sm_dp sg k + 1 else if sg k = 33 then sm_dp sg k else sm_dp sg k - 1
noncomputable def sm_st (sg va nm : Nat → Int32) : Nat → Nat → Int32
  | 0 => fun _ => 0
  | k + 1 => if sg k = 0 then sm_upd (sm_st sg va nm k) (sm_dp sg k) (va k)
    else if sg k = 1 then sm_upd (sm_st sg va nm k) (sm_dp sg k) (nm (va k).toNatClampNeg)
    else if sg k = 33 then sm_upd (sm_st sg va nm k) (sm_dp sg k - 1) (sm_bI (decide (sm_st sg va nm k (sm_dp sg k - 1) = 0)))
    else sm_upd (sm_st sg va nm k) (sm_dp sg k - 2) (sm_op (sg k) (sm_st sg va nm k (sm_dp sg k - 2)) (sm_st sg va nm k (sm_dp sg k - 1)))
noncomputable def sm_sgn (s : Int32) : Bool := [124, 38, 60, 61, 62, 43, 45, 42, 47, 37].contains s
/-- a text of n steps, with so many names, is good -/
noncomputable def sm_wf (n names : Nat) (sg va : Nat → Int32) : Prop := n ≤ 60 ∧ sm_dp sg n = 1 ∧ ∀ k, k < n → sg k = 0 ∨ (sg k = 1 ∧ ∃ j, j < names ∧ va k = nI j) ∨ (sg k = 33 ∧ 1 ≤ sm_dp sg k) ∨ (sm_sgn (sg k) = true ∧ 2 ≤ sm_dp sg k)
theorem sm_dp_le (sg : Nat → Int32) : ∀ k, sm_dp sg k ≤ k := by
  intro k
  induction k with
  | zero => exact Nat.le_refl 0
  | succ k ih =>
    unfold sm_dp
    split
    · omega
    · split <;> omega
/-- names' values as a row -/
noncomputable def sm_nm (a b c d e : Int32) : Nat → Int32 := fun k => if k = 0 then a else if k = 1 then b else if k = 2 then c else if k = 3 then d else e
noncomputable def sm_ev (n : Nat) (sg va nm : Nat → Int32) : Int32 := sm_st sg va nm n 0
/-! pulls and rubs -/
noncomputable def sm_full (m : mz_M) (st r t : Int32) : Int32 := if m 10 2 ≤ 0 then st * 9 / (r + 3) else sm_held (sm_ev (m 10 2).toNatClampNeg (m 11) (m 12) (sm_nm r st t 0 0)) (-999) 999
noncomputable def sm_kind (k v r t : Int32) : Int32 :=
  if k = 0 then v else if k = 1 then v / 2 else if k = 2 then 0 - v
  else if k = 3 then (if t - t / 2 * 2 = 0 then v else 0)
  else if k = 4 then (if r ≤ 20 then v / 2 else 0)
  else if k = 5 then (if t - t / 2 * 2 = 0 ∧ 3 < v then v - 3 else 0)
  else 0 - 2 * v
noncomputable def sm_pull (m : mz_M) (k : Nat) (x y t : Int32) : Int32 := sm_kind (m 3 k) (sm_full m (m 6 k) (sm_far (m 4 k) (m 5 k) x y) t) (sm_far (m 4 k) (m 5 k) x y) t
/-- what the first magnets make of U, V -/
noncomputable def sm_uv (m : mz_M) (f x y u v t : Int32) : Nat → Int32 × Int32
  | 0 => (u, v)
  | k + 1 => ((sm_uv m f x y u v t k).1 + (16 * m 4 k - x) * sm_pull m k x y t / (16 * (sm_far (m 4 k) (m 5 k) x y + 1)) / f, (sm_uv m f x y u v t k).2 + (16 * m 5 k - y) * sm_pull m k x y t / (16 * (sm_far (m 4 k) (m 5 k) x y + 1)) / f)
noncomputable def sm_cnt (m : mz_M) : Nat := (m 2 4).toNatClampNeg
noncomputable def sm_nearr (m : mz_M) (x y : Int32) : Int32 := if (sm_near (m 3) (m 4) (m 5) x y false (sm_cnt m)).1 < 0 then 999 else (sm_near (m 3) (m 4) (m 5) x y false (sm_cnt m)).2
noncomputable def sm_rub (m : mz_M) (x y u v t : Int32) : Int32 := if m 13 2 ≤ 0 then m 7 1 else sm_held (sm_ev (m 13 2).toNatClampNeg (m 14) (m 15) (sm_nm (sm_abs u + sm_abs v) (sm_nearr m x y) t 0 0)) 0 99
/-- U behind gravity -/
noncomputable def sm_gr (m : mz_M) (f x u : Int32) : Int32 := u - x * m 7 0 / 1600 / f
noncomputable def sm_ru (f rub u : Int32) : Int32 := u - u * rub / 100 / f
/-- it goes -/
noncomputable def sm_gof (f : Int32) (r : Nat → Int32) : Nat → Int32 := fun k =>
  if k = 0 then sm_held (r 0 + r 2 / f) (-1600) 1600 else if k = 1 then sm_held (r 1 + r 3 / f) (-1600) 1600
  else if k = 2 then (if sm_held (r 0 + r 2 / f) (-1600) 1600 = r 0 + r 2 / f then r 2 else 0)
  else if k = 3 then (if sm_held (r 1 + r 3 / f) (-1600) 1600 = r 1 + r 3 / f then r 3 else 0) else r k
/-- a row of a bob: x, y, u, v, ticks -/
noncomputable def sm_bob (x y u v t : Int32) : Nat → Int32 := fun k => if k = 0 then x else if k = 1 then y else if k = 2 then u else if k = 3 then v else t
noncomputable def sm_gu (m : mz_M) (f : Int32) (b : Nat → Int32) : Int32 := sm_gr m f (b 0) (sm_uv m f (b 0) (b 1) (b 2) (b 3) (b 4) (sm_cnt m)).1
noncomputable def sm_gv (m : mz_M) (f : Int32) (b : Nat → Int32) : Int32 := sm_gr m f (b 1) (sm_uv m f (b 0) (b 1) (b 2) (b 3) (b 4) (sm_cnt m)).2
noncomputable def sm_rb (m : mz_M) (f : Int32) (b : Nat → Int32) : Int32 := sm_rub m (b 0) (b 1) (sm_gu m f b) (sm_gv m f b) (b 4)
/-- a tick -/
noncomputable def sm_tick (m : mz_M) (f : Int32) (b : Nat → Int32) : Nat → Int32 := fun k =>
  if k = 4 then b 4 + 1 else sm_gof f (sm_bob (b 0) (b 1) (sm_ru f (sm_rb m f b) (sm_gu m f b)) (sm_ru f (sm_rb m f b) (sm_gv m f b)) (b 4)) k
noncomputable def sm_rest (m : mz_M) (b : Nat → Int32) : Int32 :=
  if m 7 3 < sm_abs (b 2) + sm_abs (b 3) then 9
  else if (sm_near (m 3) (m 4) (m 5) (b 0) (b 1) true (sm_cnt m)).1 < 0 then 9
  else if m 7 4 < (sm_near (m 3) (m 4) (m 5) (b 0) (b 1) true (sm_cnt m)).2 then 9
  else (sm_near (m 3) (m 4) (m 5) (b 0) (b 1) true (sm_cnt m)).1
/-- so many more ticks, until it rests -/
noncomputable def sm_run (m : mz_M) (f : Int32) : Nat → (Nat → Int32) → Nat → Int32
  | 0, b => b
  | n + 1, b => if sm_rest m b = 9 then sm_run m f n (sm_tick m f b) else b
noncomputable def sm_go (x y u v : Int32) : Nat → Int32 := fun k => if k = 0 then 16 * x else if k = 1 then 16 * y else if k = 2 then u else if k = 3 then v else 0
/-- a row of a bob is that of another -/
noncomputable def sm_like (b c : Nat → Int32) : Prop := b 0 = c 0 ∧ b 1 = c 1 ∧ b 2 = c 2 ∧ b 3 = c 3 ∧ b 4 = c 4
theorem sm_tick_like {m : mz_M} {f : Int32} {b c : Nat → Int32} (h : sm_like b c) : sm_tick m f b = sm_tick m f c := by
  obtain ⟨h0, h1, h2, h3, h4⟩ := h
  unfold sm_tick sm_rb sm_gu sm_gv
  rw [h0, h1, h2, h3, h4]
theorem sm_rest_like {m : mz_M} {b c : Nat → Int32} (h : sm_like b c) : sm_rest m b = sm_rest m c := by
  obtain ⟨h0, h1, h2, h3, h4⟩ := h
  unfold sm_rest
  rw [h0, h1, h2, h3]
theorem sm_like_rfl (b : Nat → Int32) : sm_like b b := ⟨rfl, rfl, rfl, rfl, rfl⟩
theorem sm_run_like {m : mz_M} {f : Int32} : ∀ (n : Nat) {b c : Nat → Int32}, sm_like b c → sm_like (sm_run m f n b) (sm_run m f n c) := by
  intro n
  induction n with
  | zero => exact fun h => h
  | succ n ih =>
    intro b c h
    unfold sm_run
    rw [sm_rest_like h]
    by_cases h1 : sm_rest m c = 9
    · rw [if_pos h1, if_pos h1, sm_tick_like h]
      exact ih (sm_like_rfl _)
    · rw [if_neg h1, if_neg h1]
      exact h
/-- a text that stands, or none -/
noncomputable def sm_tx (m : mz_M) (u names : Nat) : Prop := ∃ T, m u 2 = nI T ∧ (T = 0 ∨ sm_wf T names (m (u + 1)) (m (u + 2)))
/-- what a world of the bob keeps -/
noncomputable def sm_W (m : mz_M) (N : Nat) : Prop := N ≤ 6 ∧ m 2 4 = nI N ∧ (∀ k, k < 6 → sm_N 6 (m 3 k) ∧ sm_B 100 (m 4 k) ∧ sm_B 100 (m 5 k) ∧ sm_N 99 (m 6 k)) ∧ sm_tx m 10 3 ∧ sm_tx m 13 3
theorem sm_cntN {m : mz_M} {N : Nat} (hN : N ≤ 6) (h4 : m 2 4 = nI N) : sm_cnt m = N := by
  unfold sm_cnt
  rw [h4, nI_clamp (by omega)]
theorem sm_st_nm {n c : Nat} {sg va nm nm' : Nat → Int32} (hw : sm_wf n c sg va) (hc : c < 2 ^ 31) (h : ∀ j, j < c → nm j = nm' j) : ∀ k, k ≤ n → sm_st sg va nm k = sm_st sg va nm' k := by
  intro k
  induction k with
  | zero => exact fun _ => rfl
  | succ k ih =>
    intro hk
    have e := ih (by omega)
    unfold sm_st
    rw [e]
    rcases hw.2.2 k (by omega) with h0 | ⟨h0, j, hj, hv⟩ | ⟨h0, -⟩ | ⟨h0, -⟩
    · rw [if_pos h0, if_pos h0]
    · rw [hv, nI_clamp (by omega), h j hj]
    · simp [h0]
    · have h1 : ¬ sg k = 1 := by
        intro e1
        rw [e1] at h0
        exact absurd h0 (by decide)
      rw [if_neg h1, if_neg h1]
theorem sm_ev_nm {n c : Nat} {sg va nm nm' : Nat → Int32} (hw : sm_wf n c sg va) (hc : c < 2 ^ 31) (h : ∀ j, j < c → nm j = nm' j) : sm_ev n sg va nm = sm_ev n sg va nm' := by
  unfold sm_ev
  rw [sm_st_nm hw hc h n (Nat.le_refl n)]
theorem sm_full_B {m : mz_M} {st r t : Int32} (hs : sm_N 99 st) (hr : sm_N 400 r) : sm_B 999 (sm_full m st r t) := by
  unfold sm_full
  split
  · obtain ⟨a, ha, rfl⟩ := sm_Nof (by decide) hs
    obtain ⟨b, hb, rfl⟩ := sm_Nof (by decide) hr
    have e1 : nI a * 9 = nI (a * 9) := sm_mulN rfl rfl
    have e2 : nI b + 3 = nI (b + 3) := sm_addN rfl rfl
    rw [e1, e2]
    have h1 := sm_lit (a * 9) (by omega)
    have h2 := sm_lit (b + 3) (by omega)
    unfold sm_B
    rw [sm_div (by omega) (by omega), h1, h2]
    have h3 : ((a * 9 : Nat) : Int) / ((b + 3 : Nat) : Int) ≤ ((a * 9 : Nat) : Int) := Int.ediv_le_self _ (by omega)
    have h4 : 0 ≤ ((a * 9 : Nat) : Int) / ((b + 3 : Nat) : Int) := Int.ediv_nonneg (by omega) (by omega)
    omega
  · have h := sm_held_B (v := sm_ev (m 10 2).toNatClampNeg (m 11) (m 12) (sm_nm r st t 0 0)) (show (-999 : Int32) ≤ 999 by decide)
    unfold sm_B
    have e1 : (-999 : Int32).toInt = -999 := by decide
    have e2 : (999 : Int32).toInt = 999 := by decide
    rw [Int32.le_iff_toInt_le, Int32.le_iff_toInt_le, e1, e2] at h
    exact h
theorem sm_tick_B {m : mz_M} {f : Int32} {b : Nat → Int32} : sm_B 1600 (sm_tick m f b 0) ∧ sm_B 1600 (sm_tick m f b 1) := by
  have e1 : (-1600 : Int32).toInt = -1600 := by decide
  have e2 : (1600 : Int32).toInt = 1600 := by decide
  have h : ∀ v : Int32, sm_B 1600 (sm_held v (-1600) 1600) := fun v => by
    have h := sm_held_B (v := v) (show (-1600 : Int32) ≤ 1600 by decide)
    unfold sm_B
    rw [Int32.le_iff_toInt_le, Int32.le_iff_toInt_le, e1, e2] at h
    exact h
  refine ⟨?_, ?_⟩
  · unfold sm_tick sm_gof
    rw [if_neg (by decide), if_pos rfl]
    exact h _
  · unfold sm_tick sm_gof
    rw [if_neg (by decide), if_neg (by decide), if_pos rfl]
    exact h _
theorem sm_tk {f x y u v t : Int32} {R : Nat → Int32} (h0 : R 0 = x) (h1 : R 1 = y) (h2 : R 2 = u) (h3 : R 3 = v) (h4 : R 4 = t) : sm_like (sm_upd (sm_gof f R) 4 (sm_gof f R 4 + 1)) (fun k => if k = 4 then t + 1 else sm_gof f (sm_bob x y u v t) k) := by
  subst h0
  subst h1
  subst h2
  subst h3
  subst h4
  have e : ∀ k, k < 5 → sm_gof f (sm_bob (R 0) (R 1) (R 2) (R 3) (R 4)) k = sm_gof f R k := by
    intro k hk
    rcases (show k = 0 ∨ k = 1 ∨ k = 2 ∨ k = 3 ∨ k = 4 by omega) with rfl | rfl | rfl | rfl | rfl <;> simp [sm_gof, sm_bob]
  refine ⟨?_, ?_, ?_, ?_, ?_⟩
  · simp [sm_upd, e 0 (by decide)]
  · simp [sm_upd, e 1 (by decide)]
  · simp [sm_upd, e 2 (by decide)]
  · simp [sm_upd, e 3 (by decide)]
  · simp [sm_upd, sm_gof]
/-! worlds that agree -/
noncomputable def sm_Wl (m w : mz_M) : Prop := ∀ i, 2 ≤ i → i < 19 → m i = w i
theorem sm_Wl_r (m : mz_M) : sm_Wl m m := fun _ _ _ => rfl
theorem sm_Wl_s {m w : mz_M} {j : Nat} {f : Nat → Int32} (hj : 19 ≤ j) (h : sm_Wl m w) : sm_Wl (mz_set m j f) w := fun i h1 h2 => (mz_set_ne (by omega)).trans (h i h1 h2)
theorem sm_Wl_u {m w : mz_M} {j k : Nat} {v : Int32} (hj : 19 ≤ j) (h : sm_Wl m w) : sm_Wl (mz_up m j k v) w := fun i h1 h2 => (mz_up_ne (by omega)).trans (h i h1 h2)
theorem sm_tx_of {m w : mz_M} {u c : Nat} (h : sm_Wl m w) (h1 : 2 ≤ u) (h2 : u < 17) (hx : sm_tx w u c) : sm_tx m u c := by
  unfold sm_tx
  rw [h u (by omega) (by omega), h (u + 1) (by omega) (by omega), h (u + 2) (by omega) (by omega)]
  exact hx
theorem sm_W_of {m w : mz_M} {N : Nat} (h : sm_Wl m w) (hw : sm_W w N) : sm_W m N := by
  obtain ⟨a, b, c, d, e⟩ := hw
  refine ⟨a, ?_, ?_, sm_tx_of h (by decide) (by decide) d, sm_tx_of h (by decide) (by decide) e⟩
  · rw [h 2 (by decide) (by decide)]
    exact b
  · rw [h 3 (by decide) (by decide), h 4 (by decide) (by decide), h 5 (by decide) (by decide), h 6 (by decide) (by decide)]
    exact c
theorem sm_full_of {m w : mz_M} (h : sm_Wl m w) (st r t : Int32) : sm_full m st r t = sm_full w st r t := by
  unfold sm_full
  rw [h 10 (by decide) (by decide), h 11 (by decide) (by decide), h 12 (by decide) (by decide)]
theorem sm_cnt_of {m w : mz_M} (h : sm_Wl m w) : sm_cnt m = sm_cnt w := by
  unfold sm_cnt
  rw [h 2 (by decide) (by decide)]
theorem sm_uv_of {m w : mz_M} (h : sm_Wl m w) (f x y u v t : Int32) : ∀ k, sm_uv m f x y u v t k = sm_uv w f x y u v t k := by
  intro k
  induction k with
  | zero => rfl
  | succ k ih =>
    unfold sm_uv sm_pull
    rw [ih, sm_full_of h, h 3 (by decide) (by decide), h 4 (by decide) (by decide), h 5 (by decide) (by decide), h 6 (by decide) (by decide)]
theorem sm_rub_of {m w : mz_M} (h : sm_Wl m w) (x y u v t : Int32) : sm_rub m x y u v t = sm_rub w x y u v t := by
  unfold sm_rub sm_nearr
  rw [sm_cnt_of h, h 3 (by decide) (by decide), h 4 (by decide) (by decide), h 5 (by decide) (by decide), h 7 (by decide) (by decide), h 13 (by decide) (by decide), h 14 (by decide) (by decide), h 15 (by decide) (by decide)]
theorem sm_tick_of {m w : mz_M} (h : sm_Wl m w) (f : Int32) (b : Nat → Int32) : sm_tick m f b = sm_tick w f b := by
  unfold sm_tick sm_rb sm_gu sm_gv sm_gr
  simp only [sm_rub_of h, sm_uv_of h, sm_cnt_of h, h 7 (by decide) (by decide)]
theorem sm_rest_of {m w : mz_M} (h : sm_Wl m w) (b : Nat → Int32) : sm_rest m b = sm_rest w b := by
  unfold sm_rest
  rw [sm_cnt_of h, h 3 (by decide) (by decide), h 4 (by decide) (by decide), h 5 (by decide) (by decide), h 7 (by decide) (by decide)]
theorem sm_run_of {m w : mz_M} (h : sm_Wl m w) (f : Int32) : ∀ (n : Nat) (b : Nat → Int32), sm_run m f n b = sm_run w f n b := by
  intro n
  induction n with
  | zero => exact fun _ => rfl
  | succ n ih =>
    intro b
    unfold sm_run
    rw [sm_rest_of h, sm_tick_of h, ih]
