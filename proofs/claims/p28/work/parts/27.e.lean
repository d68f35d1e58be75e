/-! pictures taken -/
theorem sm_of4 {m m' : mz_M} {a b c d : Nat} (h : ∀ i, i ≠ a → i ≠ b → i ≠ c → i ≠ d → m' i = m i) : m' = mz_set (mz_set (mz_set (mz_set m a (m' a)) b (m' b)) c (m' c)) d (m' d) := by
  funext i
  by_cases h1 : i = d
  · subst h1
    exact mz_set_eq.symm
  · rw [mz_set_ne h1]
    by_cases h2 : i = c
    · subst h2
      exact mz_set_eq.symm
    · rw [mz_set_ne h2]
      by_cases h3 : i = b
      · subst h3
        exact mz_set_eq.symm
      · rw [mz_set_ne h3]
        by_cases h4 : i = a
        · subst h4
          exact mz_set_eq.symm
        · rw [mz_set_ne h4, h i h4 h3 h2 h1]
theorem sm_of5 {m m' : mz_M} {a b c d e : Nat} (h : ∀ i, i ≠ a → i ≠ b → i ≠ c → i ≠ d → i ≠ e → m' i = m i) : m' = mz_set (mz_set (mz_set (mz_set (mz_set m a (m' a)) b (m' b)) c (m' c)) d (m' d)) e (m' e) := by
  funext i
  by_cases h1 : i = e
  · subst h1
    exact mz_set_eq.symm
  · rw [mz_set_ne h1]
    by_cases h2 : i = d
    · subst h2
      exact mz_set_eq.symm
    · rw [mz_set_ne h2]
      by_cases h3 : i = c
      · subst h3
        exact mz_set_eq.symm
      · rw [mz_set_ne h3]
        by_cases h4 : i = b
        · subst h4
          exact mz_set_eq.symm
        · rw [mz_set_ne h4]
          by_cases h5 : i = a
          · subst h5
            exact mz_set_eq.symm
          · rw [mz_set_ne h5, h i h5 h4 h3 h2 h1]
theorem sm_up_row {m : mz_M} {i k : Nat} {v : Int32} : mz_up m i k v i = sm_upd (m i) k v := by
  funext b
  rw [mz_up_eq]
  rfl
noncomputable def sm_pic (W J K : Nat) (E : Nat → Nat → Int32) (c : Nat → Int32) : Nat → Int32 := fun q => if q % 6 < W ∧ (q / 6 < J ∨ (q / 6 = J ∧ q % 6 < K)) then E (q % 6) (q / 6) else c q
theorem sm_pic_0 {W : Nat} {E : Nat → Nat → Int32} {c : Nat → Int32} : sm_pic W 0 0 E c = c := by
  funext q
  unfold sm_pic
  rw [if_neg (by omega)]
theorem sm_pic_row {W J : Nat} {E : Nat → Nat → Int32} {c : Nat → Int32} : sm_pic W J W E c = sm_pic W (J + 1) 0 E c := by
  funext q
  unfold sm_pic
  by_cases h : q % 6 < W ∧ (q / 6 < J ∨ (q / 6 = J ∧ q % 6 < W))
  · rw [if_pos h, if_pos (by omega)]
  · rw [if_neg h, if_neg (by omega)]
theorem sm_pic_step {W J K : Nat} {E : Nat → Nat → Int32} {c : Nat → Int32} (hW : W ≤ 6) (hK : K < W) : sm_upd (sm_pic W J K E c) (J * 6 + K) (E K J) = sm_pic W J (K + 1) E c := by
  funext q
  show (if q = J * 6 + K then E K J else sm_pic W J K E c q) = sm_pic W J (K + 1) E c q
  unfold sm_pic
  by_cases e : q = J * 6 + K
  · rw [if_pos e, if_pos (by omega), show q % 6 = K by omega, show q / 6 = J by omega]
  · rw [if_neg e]
    by_cases h : q % 6 < W ∧ (q / 6 < J ∨ (q / 6 = J ∧ q % 6 < K))
    · rw [if_pos h, if_pos (by omega)]
    · rw [if_neg h, if_neg (by omega)]
noncomputable def sm_ps (W J K : Nat) (E L : Nat → Nat → Int32) (s0 s : Nat → Int32) : Prop := (∀ q, q < 36 → s (70 + q) = sm_pic W J K E (fun q => s0 (70 + q)) q) ∧ (∀ q, q < 36 → s (110 + q) = sm_pic W J K L (fun q => s0 (110 + q)) q) ∧ ∀ i, (i < 70 ∨ 146 ≤ i ∨ (106 ≤ i ∧ i < 110)) → s i = s0 i
theorem sm_ps_0 {W : Nat} {E L : Nat → Nat → Int32} {s : Nat → Int32} : sm_ps W 0 0 E L s s := by
  refine ⟨fun q hq => ?_, fun q hq => ?_, fun i hi => rfl⟩
  · rw [sm_pic_0]
  · rw [sm_pic_0]
theorem sm_ps_step {W J K : Nat} {E L : Nat → Nat → Int32} {s0 s s' : Nat → Int32} (hW : W ≤ 6) (hK : K < W) (hJ : J < 6) (h : sm_ps W J K E L s0 s) (h1 : ∀ i, s' i = if i = 110 + (6 * J + K) then L K J else if i = 70 + (6 * J + K) then E K J else s i) : sm_ps W J (K + 1) E L s0 s' := by
  obtain ⟨a, b, c⟩ := h
  refine ⟨fun q hq => ?_, fun q hq => ?_, fun i hi => ?_⟩
  · rw [h1, if_neg (by omega), ← sm_pic_step hW hK]
    show _ = (if q = J * 6 + K then E K J else sm_pic W J K E (fun q => s0 (70 + q)) q)
    by_cases e : q = J * 6 + K
    · rw [if_pos (by omega), if_pos e]
    · rw [if_neg (by omega), if_neg e]
      exact a q hq
  · rw [h1, ← sm_pic_step hW hK]
    show _ = (if q = J * 6 + K then L K J else sm_pic W J K L (fun q => s0 (110 + q)) q)
    by_cases e : q = J * 6 + K
    · rw [if_pos (by omega), if_pos e]
    · rw [if_neg (by omega), if_neg (by omega), if_neg e]
      exact b q hq
  · rw [h1, if_neg (by omega), if_neg (by omega)]
    exact c i hi
theorem sm_ps_row {W J : Nat} {E L : Nat → Nat → Int32} {s0 s : Nat → Int32} (h : sm_ps W J W E L s0 s) : sm_ps W (J + 1) 0 E L s0 s := by
  obtain ⟨a, b, c⟩ := h
  refine ⟨fun q hq => ?_, fun q hq => ?_, c⟩
  · rw [a q hq, sm_pic_row]
  · rw [b q hq, sm_pic_row]
theorem sm_end_col {w : mz_M} {N : Nat} (hw : sm_W w N) (f x y u v : Int32) : sm_colB (sm_end w f x y u v) := sm_rest_col hw _
theorem sm_TR_s {w : mz_M} {s s' ch : Nat → Int32} {u base : Nat} (hb : 170 ≤ base) (h : ∀ i, (i = 0 ∨ (10 ≤ i ∧ i < 60) ∨ 170 ≤ i) → s' i = s i) (ht : sm_TR w s u base ch) : sm_TR w s' u base ch := by
  obtain ⟨a, b⟩ := ht
  refine ⟨(h _ (by omega)).trans a, fun k hk => ?_⟩
  rw [h (base + 1 + 2 * k) (by omega), h (base + 2 + 2 * k) (by omega)]
  exact b k hk
theorem sm_HR_s {w : mz_M} {s s' : Nat → Int32} (h : ∀ i, (i = 0 ∨ (10 ≤ i ∧ i < 60) ∨ 170 ≤ i) → s' i = s i) (hr : sm_HR w s) : sm_HR w s' := by
  obtain ⟨a, b, c, d, e, f⟩ := hr
  refine ⟨(h 0 (by omega)).trans a, fun k hk => ?_, fun k hk => (h (10 + k) (by omega)).trans (c k hk), sm_TR_s (by decide) h d, sm_TR_s (by decide) h e, sm_TR_s (by decide) h f⟩
  rw [h (30 + 4 * k) (by omega), h (30 + 4 * k + 1) (by omega), h (30 + 4 * k + 2) (by omega), h (30 + 4 * k + 3) (by omega)]
  exact b k hk
theorem sm_picB {x st w : Int32} {W S k : Nat} (hx : sm_B 100 x) (hl : sm_B 100 (x + (w - 1) * st)) (ew : w = nI W) (es : st = nI S) (hW1 : 1 ≤ W) (hW : W ≤ 6) (hS : S ≤ 40) (hk : k < W) : sm_B 100 (x + nI k * st) := by
  subst ew
  subst es
  have e1 : nI W - 1 = nI (W - 1) := sm_subN (a := W) (b := 1) rfl rfl hW1
  rw [e1, sm_mulN (a := W - 1) (b := S) rfl rfl] at hl
  rw [sm_mulN (a := k) (b := S) rfl rfl]
  have h1 : k * S ≤ (W - 1) * S := Nat.mul_le_mul_right S (by omega)
  have h2 : (W - 1) * S ≤ 6 * 40 := Nat.mul_le_mul (by omega) hS
  generalize k * S = A at *
  generalize (W - 1) * S = B at *
  have f : ∀ c : Nat, c ≤ 240 → (x + nI c).toInt = x.toInt + c := fun c hc => by
    have e := nI_toInt (show c < 2 ^ 31 by omega)
    obtain ⟨a1, a2⟩ := hx
    rw [sm_add (by omega) (by omega), e]
  obtain ⟨a, b⟩ := hx
  obtain ⟨c, d⟩ := hl
  rw [f B h2] at c d
  unfold sm_B
  rw [f A (by omega)]
  omega
theorem sm_rngN {x : Int32} {a b : Nat} (hb : b < 2 ^ 31) (hab : a ≤ b) (h1 : ¬ x < nI a) (h2 : ¬ nI b < x) : ∃ k, a ≤ k ∧ k ≤ b ∧ x = nI k := by
  rw [Int32.lt_iff_toInt_lt, nI_toInt (by omega)] at h1
  rw [Int32.lt_iff_toInt_lt, nI_toInt hb] at h2
  refine ⟨x.toInt.toNat, by omega, by omega, ?_⟩
  apply Int32.toInt_inj.mp
  rw [nI_toInt (by omega)]
  omega
theorem sm_dm {W J K : Nat} (hK : K < W) : (J * W + K) / W = J ∧ (J * W + K) % W = K := by
  rw [Nat.add_comm, Nat.add_mul_div_right _ _ (by omega), Nat.add_mul_mod_self_right, Nat.div_eq_of_lt hK, Nat.mod_eq_of_lt hK]
  exact ⟨Nat.zero_add J, rfl⟩
theorem sm_picd6 {W J K : Nat} {E L : Nat → Nat → Int32} {c l c' l' : Nat → Int32} {i : Nat} {x y : Int32} (hE : ∀ a b, sm_colB (E a b)) (h : sm_colB (c i)) (h1 : c' i = c i) (h2 : l' i = l i) (hx : x = sm_pic W J K E c' i) (hy : y = sm_pic W J K L l' i) : sm_colB (sm_pic W J K E c i) ∧ x = sm_pic W J K E c i ∧ y = sm_pic W J K L l i := by
  rw [hx, hy]
  unfold sm_pic
  by_cases e : i % 6 < W ∧ (i / 6 < J ∨ (i / 6 = J ∧ i % 6 < K))
  · simp only [if_pos e]
    exact ⟨hE _ _, trivial, trivial⟩
  · simp only [if_neg e]
    exact ⟨h, h1, h2⟩
set_option maxHeartbeats 4000000 in
set_option maxRecDepth 100000 in
theorem xc_colsl {m : mz_M} {WW HH : Nat} (hWW : WW ≤ 6) (hHH : HH ≤ 6) (h202 : m 20 2 = nI WW) (h203 : m 20 3 = nI HH)  (HX : ∀ (x1 : Int32), ∃ v, mz_Ex 18 mz_k11 (27, [some (.ref 20), some (.int x1), some (.int (nI 10))], [], m) (some (.int v), m)) : ∀ j k : Nat, k + j = 10 → ∀ (x1 : Int32), ∃ v, mz_Ex 18 mz_k11 (4, [some (.ref 20), some (.int x1), some (.int (nI k))], [], m) (some (.int v), m) := by
  intro j
  induction j with
  | zero =>
    intro k hk x1
    rw [show k = 10 by omega]
    obtain ⟨vr, hr⟩ := HX x1
    refine ⟨vr, ?_⟩
    refine mz_go 3 (c' := (if 10 ≤ (nI 10) then 27 else 10, [some (.ref 20), some (.int x1), some (.int (nI 10))], [], m)) rfl ?_
    refine mz_ifT (show (10 ≤ (nI 10)) from (sm_leN rfl rfl (show 10 ≤ 10 by omega) (show 10 < 2 ^ 31 by omega))) ?_
    exact hr
  | succ j ih =>
    intro k hk x1
    obtain ⟨ve1, Ee1⟩ := xc_cof (m := m) hWW hHH h202 h203 (nI k)
    by_cases q1 : ve1 ≤ 0
    · obtain ⟨vr, hr⟩ := ih (k + 1) (by omega) x1
      rw [nI_succ k] at hr
      refine ⟨vr, ?_⟩
      refine mz_go 3 (c' := (if 10 ≤ (nI k) then 27 else 10, [some (.ref 20), some (.int x1), some (.int (nI k))], [], m)) rfl ?_
      refine mz_ifF (show ¬ (10 ≤ (nI k)) from (sm_nleN rfl rfl (show k < 10 by omega) (show 10 < 2 ^ 31 by omega))) ?_
      refine mz_go 2 (c' := (12, [some (.ref 20), some (.int x1), some (.int (nI k))], [.int (nI k), .ref 20], m)) rfl ?_
      refine mz_do (R := mz_r9) (as := [.ref 20, .int (nI k)]) (rest := []) (r1 := some (.int ve1)) (m1 := m) rfl (Ee1.deep (by decide)) ?_
      refine mz_go 1 (c' := (if ve1 ≤ 0 then 21 else 18, [some (.ref 20), some (.int x1), some (.int (nI k))], [], m)) rfl ?_
      refine mz_ifT q1 ?_
      refine mz_go 2 (c' := (4, [some (.ref 20), some (.int x1), some (.int ((nI k) + 1))], [], m)) rfl ?_
      exact hr
    · obtain ⟨vr, hr⟩ := ih (k + 1) (by omega) (x1 + 1)
      rw [nI_succ k] at hr
      refine ⟨vr, ?_⟩
      refine mz_go 3 (c' := (if 10 ≤ (nI k) then 27 else 10, [some (.ref 20), some (.int x1), some (.int (nI k))], [], m)) rfl ?_
      refine mz_ifF (show ¬ (10 ≤ (nI k)) from (sm_nleN rfl rfl (show k < 10 by omega) (show 10 < 2 ^ 31 by omega))) ?_
      refine mz_go 2 (c' := (12, [some (.ref 20), some (.int x1), some (.int (nI k))], [.int (nI k), .ref 20], m)) rfl ?_
      refine mz_do (R := mz_r9) (as := [.ref 20, .int (nI k)]) (rest := []) (r1 := some (.int ve1)) (m1 := m) rfl (Ee1.deep (by decide)) ?_
      refine mz_go 1 (c' := (if ve1 ≤ 0 then 21 else 18, [some (.ref 20), some (.int x1), some (.int (nI k))], [], m)) rfl ?_
      refine mz_ifF q1 ?_
      refine mz_go 3 (c' := (4, [some (.ref 20), some (.int (x1 + 1)), some (.int ((nI k) + 1))], [], m)) rfl ?_
      exact hr
set_option maxHeartbeats 4000000 in
set_option maxRecDepth 100000 in
theorem xc_cols {m : mz_M} {WW HH : Nat} (hWW : WW ≤ 6) (hHH : HH ≤ 6) (h202 : m 20 2 = nI WW) (h203 : m 20 3 = nI HH) : ∃ v, mz_Me 18 mz_r11 [.ref 20] m (some (.int v)) m := by
  have HX1 : ∀ (x1_1 : Int32), ∃ v, mz_Ex 18 mz_k11 (27, [some (.ref 20), some (.int x1_1), some (.int (nI 10))], [], m) (some (.int v), m) := by
    intro x1_1
    refine ⟨x1_1, ?_⟩
    refine mz_go 1 (c' := (28, [some (.ref 20), some (.int x1_1), some (.int (nI 10))], [.int x1_1], m)) rfl ?_
    exact mz_ret rfl
  obtain ⟨vr, hr⟩ := xc_colsl hWW hHH h202 h203  HX1 10 0 (by omega) 0
  refine ⟨vr, ⟨?_, rfl⟩⟩
  refine mz_go 4 (c' := (4, [some (.ref 20), some (.int 0), some (.int 0)], [], m)) rfl ?_
  exact hr
set_option maxHeartbeats 4000000 in
set_option maxRecDepth 100000 in
theorem cs_pici {m w : mz_M} {N : Nat} (hWl : sm_Wl m w) (hw : sm_W w N) (hr5 : w 7 5 = 1 ∨ w 7 5 = 2) (hr80 : sm_N 80 (w 7 2)) {W H : Nat} (hW : W ≤ 6) (hH : H ≤ 6) (h202 : m 20 2 = nI W) (h203 : m 20 3 = nI H) {xa xb xc xd : Int32} (hbx : ∀ k, k < W → sm_B 100 (xa + nI k * xd)) (hby : ∀ k, k < H → sm_B 100 (xb + nI k * xd)) {J : Nat} (hJ : J < H) : ∀ j k : Nat, k + j = W → ∀ (r f g : Nat → Int32) (o : Option Value), ∃ (r' f' g' : Nat → Int32) (o' : Option Value), ∀ res, mz_Ex 100 mz_k85 (186, [some (.ref 0), some (.int xa), some (.int xb), some (.int xc), some (.int xd), some (.int (nI W)), some (.int (nI H)), some (.ref 20), some (.int (nI J)), some (.int (nI W)), o'], [], mz_set (mz_set (mz_set (mz_set (mz_set m 21 (sm_pic W J W (fun i j => sm_end w (w 7 5) (xa + nI i * xd) (xb + nI j * xd) 0 0) (m 21))) 22 (sm_pic W J W (fun i j => sm_last w (w 7 5) (xa + nI i * xd) (xb + nI j * xd) 0 0 4) (m 22))) 50 r') 51 f') 52 g') res → mz_Ex 100 mz_k85 (118, [some (.ref 0), some (.int xa), some (.int xb), some (.int xc), some (.int xd), some (.int (nI W)), some (.int (nI H)), some (.ref 20), some (.int (nI J)), some (.int (nI k)), o], [], mz_set (mz_set (mz_set (mz_set (mz_set m 21 (sm_pic W J k (fun i j => sm_end w (w 7 5) (xa + nI i * xd) (xb + nI j * xd) 0 0) (m 21))) 22 (sm_pic W J k (fun i j => sm_last w (w 7 5) (xa + nI i * xd) (xb + nI j * xd) 0 0 4) (m 22))) 50 r) 51 f) 52 g) res := by
  have h75 : m 7 5 = w 7 5 := by rw [hWl 7 (by decide) (by decide)]
  intro j
  induction j with
  | zero =>
    intro k hk r f g o
    rw [show k = W by omega]
    exact ⟨r, f, g, o, fun res hr => by
      refine mz_go 3 (c' := (if (nI W) ≤ (nI W) then 186 else 125, [some (.ref 0), some (.int xa), some (.int xb), some (.int xc), some (.int xd), some (.int (nI W)), some (.int (nI H)), some (.ref 20), some (.int (nI J)), some (.int (nI W)), o], [], mz_set (mz_set (mz_set (mz_set (mz_set m 21 (sm_pic W J W (fun i j => sm_end w (w 7 5) (xa + nI i * xd) (xb + nI j * xd) 0 0) (m 21))) 22 (sm_pic W J W (fun i j => sm_last w (w 7 5) (xa + nI i * xd) (xb + nI j * xd) 0 0 4) (m 22))) 50 r) 51 f) 52 g)) rfl ?_
      refine mz_ifT (show ((nI W) ≤ (nI W)) from (sm_leN rfl rfl (show W ≤ W by omega) (show W < 2 ^ 31 by omega))) ?_
      exact hr⟩
  | succ j ih =>
    intro k hk r f g o
    obtain ⟨re1, fe1, ge1, le1, Ee1⟩ := cw_end (m := mz_set (mz_set (mz_set (mz_set (mz_set m 21 (sm_pic W J k (fun i j => sm_end w (w 7 5) (xa + nI i * xd) (xb + nI j * xd) 0 0) (m 21))) 22 (sm_pic W J k (fun i j => sm_last w (w 7 5) (xa + nI i * xd) (xb + nI j * xd) 0 0 4) (m 22))) 50 r) 51 f) 52 g) (w := w) (sm_Wl_s (by decide) (sm_Wl_s (by decide) (sm_Wl_s (by decide) (sm_Wl_s (by decide) (sm_Wl_s (by decide) hWl))))) hw (hr5.imp id Or.inl) hr80 (hbx k (by omega)) (hby J (by omega)) 0 0
    have e21 : (mz_up (mz_up (mz_set (mz_set (mz_set (mz_set (mz_set (mz_set (mz_set (mz_set m 21 (sm_pic W J k (fun i j => sm_end w (w 7 5) (xa + nI i * xd) (xb + nI j * xd) 0 0) (m 21))) 22 (sm_pic W J k (fun i j => sm_last w (w 7 5) (xa + nI i * xd) (xb + nI j * xd) 0 0 4) (m 22))) 50 r) 51 f) 52 g) 50 re1) 51 fe1) 52 ge1) 21 ((J * 6) + k) (sm_end w (w 7 5) (xa + ((nI k) * xd)) (xb + ((nI J) * xd)) 0 0)) 22 ((J * 6) + k) (sm_last w (w 7 5) (xa + ((nI k) * xd)) (xb + ((nI J) * xd)) 0 0 4)) 21 = sm_pic W J (k + 1) (fun i j => sm_end w (w 7 5) (xa + nI i * xd) (xb + nI j * xd) 0 0) (m 21) := by
      rw [mz_up_ne (show (21 : Nat) ≠ 22 by decide), sm_up_row, mz_set_ne (show (21 : Nat) ≠ 52 by decide), mz_set_ne (show (21 : Nat) ≠ 51 by decide), mz_set_ne (show (21 : Nat) ≠ 50 by decide), mz_set_ne (show (21 : Nat) ≠ 52 by decide), mz_set_ne (show (21 : Nat) ≠ 51 by decide), mz_set_ne (show (21 : Nat) ≠ 50 by decide), mz_set_ne (show (21 : Nat) ≠ 22 by decide), mz_set_eq]
      exact sm_pic_step (E := (fun i j => sm_end w (w 7 5) (xa + nI i * xd) (xb + nI j * xd) 0 0)) hW (by omega)
    have e22 : (mz_up (mz_up (mz_set (mz_set (mz_set (mz_set (mz_set (mz_set (mz_set (mz_set m 21 (sm_pic W J k (fun i j => sm_end w (w 7 5) (xa + nI i * xd) (xb + nI j * xd) 0 0) (m 21))) 22 (sm_pic W J k (fun i j => sm_last w (w 7 5) (xa + nI i * xd) (xb + nI j * xd) 0 0 4) (m 22))) 50 r) 51 f) 52 g) 50 re1) 51 fe1) 52 ge1) 21 ((J * 6) + k) (sm_end w (w 7 5) (xa + ((nI k) * xd)) (xb + ((nI J) * xd)) 0 0)) 22 ((J * 6) + k) (sm_last w (w 7 5) (xa + ((nI k) * xd)) (xb + ((nI J) * xd)) 0 0 4)) 22 = sm_pic W J (k + 1) (fun i j => sm_last w (w 7 5) (xa + nI i * xd) (xb + nI j * xd) 0 0 4) (m 22) := by
      rw [sm_up_row, mz_up_ne (show (22 : Nat) ≠ 21 by decide), mz_set_ne (show (22 : Nat) ≠ 52 by decide), mz_set_ne (show (22 : Nat) ≠ 51 by decide), mz_set_ne (show (22 : Nat) ≠ 50 by decide), mz_set_ne (show (22 : Nat) ≠ 52 by decide), mz_set_ne (show (22 : Nat) ≠ 51 by decide), mz_set_ne (show (22 : Nat) ≠ 50 by decide), mz_set_eq]
      exact sm_pic_step (E := (fun i j => sm_last w (w 7 5) (xa + nI i * xd) (xb + nI j * xd) 0 0 4)) hW (by omega)
    have hm : mz_up (mz_up (mz_set (mz_set (mz_set (mz_set (mz_set (mz_set (mz_set (mz_set m 21 (sm_pic W J k (fun i j => sm_end w (w 7 5) (xa + nI i * xd) (xb + nI j * xd) 0 0) (m 21))) 22 (sm_pic W J k (fun i j => sm_last w (w 7 5) (xa + nI i * xd) (xb + nI j * xd) 0 0 4) (m 22))) 50 r) 51 f) 52 g) 50 re1) 51 fe1) 52 ge1) 21 ((J * 6) + k) (sm_end w (w 7 5) (xa + ((nI k) * xd)) (xb + ((nI J) * xd)) 0 0)) 22 ((J * 6) + k) (sm_last w (w 7 5) (xa + ((nI k) * xd)) (xb + ((nI J) * xd)) 0 0 4) = mz_set (mz_set (mz_set (mz_set (mz_set m 21 (sm_pic W J (k + 1) (fun i j => sm_end w (w 7 5) (xa + nI i * xd) (xb + nI j * xd) 0 0) (m 21))) 22 (sm_pic W J (k + 1) (fun i j => sm_last w (w 7 5) (xa + nI i * xd) (xb + nI j * xd) 0 0 4) (m 22))) 50 re1) 51 fe1) 52 ge1 := by
      have h := sm_of5 (m := m) (m' := mz_up (mz_up (mz_set (mz_set (mz_set (mz_set (mz_set (mz_set (mz_set (mz_set m 21 (sm_pic W J k (fun i j => sm_end w (w 7 5) (xa + nI i * xd) (xb + nI j * xd) 0 0) (m 21))) 22 (sm_pic W J k (fun i j => sm_last w (w 7 5) (xa + nI i * xd) (xb + nI j * xd) 0 0 4) (m 22))) 50 r) 51 f) 52 g) 50 re1) 51 fe1) 52 ge1) 21 ((J * 6) + k) (sm_end w (w 7 5) (xa + ((nI k) * xd)) (xb + ((nI J) * xd)) 0 0)) 22 ((J * 6) + k) (sm_last w (w 7 5) (xa + ((nI k) * xd)) (xb + ((nI J) * xd)) 0 0 4)) (a := 21) (b := 22) (c := 50) (d := 51) (e := 52) (fun i h1 h2 h3 h4 h5 => by simp only [mz_set_ne h1, mz_set_ne h2, mz_set_ne h3, mz_set_ne h4, mz_set_ne h5, mz_up_ne h1, mz_up_ne h2])
      rw [e21, e22] at h
      exact h
    obtain ⟨r', f', g', o', E⟩ := ih (k + 1) (by omega) re1 fe1 ge1 (some (.int (sm_end w (w 7 5) (xa + ((nI k) * xd)) (xb + ((nI J) * xd)) 0 0)))
    refine ⟨r', f', g', o', fun res hr0 => ?_⟩
    have hr := E res hr0
    rw [nI_succ k, ← hm] at hr
    refine mz_go 3 (c' := (if (nI W) ≤ (nI k) then 186 else 125, [some (.ref 0), some (.int xa), some (.int xb), some (.int xc), some (.int xd), some (.int (nI W)), some (.int (nI H)), some (.ref 20), some (.int (nI J)), some (.int (nI k)), o], [], mz_set (mz_set (mz_set (mz_set (mz_set m 21 (sm_pic W J k (fun i j => sm_end w (w 7 5) (xa + nI i * xd) (xb + nI j * xd) 0 0) (m 21))) 22 (sm_pic W J k (fun i j => sm_last w (w 7 5) (xa + nI i * xd) (xb + nI j * xd) 0 0 4) (m 22))) 50 r) 51 f) 52 g)) rfl ?_
    refine mz_ifF (show ¬ ((nI W) ≤ (nI k)) from (sm_nleN rfl rfl (show k < W by omega) (show W < 2 ^ 31 by omega))) ?_
    refine mz_go 19 (c' := (154, [some (.ref 0), some (.int xa), some (.int xb), some (.int xc), some (.int xd), some (.int (nI W)), some (.int (nI H)), some (.ref 20), some (.int (nI J)), some (.int (nI k)), o], [.int (m 7 5), .int 0, .int 0, .int (xb + ((nI J) * xd)), .int (xa + ((nI k) * xd)), .ref 49], mz_set (mz_set (mz_set (mz_set (mz_set m 21 (sm_pic W J k (fun i j => sm_end w (w 7 5) (xa + nI i * xd) (xb + nI j * xd) 0 0) (m 21))) 22 (sm_pic W J k (fun i j => sm_last w (w 7 5) (xa + nI i * xd) (xb + nI j * xd) 0 0 4) (m 22))) 50 r) 51 f) 52 g)) rfl ?_
    rw [h75]
    refine mz_do (R := mz_r36) (as := [.ref 49, .int (xa + ((nI k) * xd)), .int (xb + ((nI J) * xd)), .int 0, .int 0, .int (w 7 5)]) (rest := []) (r1 := some (.int (sm_end w (w 7 5) (xa + ((nI k) * xd)) (xb + ((nI J) * xd)) 0 0))) (m1 := mz_set (mz_set (mz_set (mz_set (mz_set (mz_set (mz_set (mz_set m 21 (sm_pic W J k (fun i j => sm_end w (w 7 5) (xa + nI i * xd) (xb + nI j * xd) 0 0) (m 21))) 22 (sm_pic W J k (fun i j => sm_last w (w 7 5) (xa + nI i * xd) (xb + nI j * xd) 0 0 4) (m 22))) 50 r) 51 f) 52 g) 50 re1) 51 fe1) 52 ge1) rfl (Ee1.deep (by decide)) ?_
    refine mz_go 9 (c' := (177, [some (.ref 0), some (.int xa), some (.int xb), some (.int xc), some (.int xd), some (.int (nI W)), some (.int (nI H)), some (.ref 20), some (.int (nI J)), some (.int (nI k)), some (.int (sm_end w (w 7 5) (xa + ((nI k) * xd)) (xb + ((nI J) * xd)) 0 0))], [.int (re1 4), .int (sm_end w (w 7 5) (xa + ((nI k) * xd)) (xb + ((nI J) * xd)) 0 0), .int (nI J), .int (nI k), .ref 20], mz_set (mz_set (mz_set (mz_set (mz_set (mz_set (mz_set (mz_set m 21 (sm_pic W J k (fun i j => sm_end w (w 7 5) (xa + nI i * xd) (xb + nI j * xd) 0 0) (m 21))) 22 (sm_pic W J k (fun i j => sm_last w (w 7 5) (xa + nI i * xd) (xb + nI j * xd) 0 0 4) (m 22))) 50 r) 51 f) 52 g) 50 re1) 51 fe1) 52 ge1)) rfl ?_
    rw [le1.2.2.2.2]
    refine mz_do (R := mz_r6) (as := [.ref 20, .int (nI k), .int (nI J), .int (sm_end w (w 7 5) (xa + ((nI k) * xd)) (xb + ((nI J) * xd)) 0 0), .int (sm_last w (w 7 5) (xa + ((nI k) * xd)) (xb + ((nI J) * xd)) 0 0 4)]) (rest := []) (r1 := none) (m1 := mz_up (mz_up (mz_set (mz_set (mz_set (mz_set (mz_set (mz_set (mz_set (mz_set m 21 (sm_pic W J k (fun i j => sm_end w (w 7 5) (xa + nI i * xd) (xb + nI j * xd) 0 0) (m 21))) 22 (sm_pic W J k (fun i j => sm_last w (w 7 5) (xa + nI i * xd) (xb + nI j * xd) 0 0 4) (m 22))) 50 r) 51 f) 52 g) 50 re1) 51 fe1) 52 ge1) 21 ((J * 6) + k) (sm_end w (w 7 5) (xa + ((nI k) * xd)) (xb + ((nI J) * xd)) 0 0)) 22 ((J * 6) + k) (sm_last w (w 7 5) (xa + ((nI k) * xd)) (xb + ((nI J) * xd)) 0 0 4)) rfl ⟨?_, rfl⟩ ?_
    · refine mz_go 3 (c' := (3, [some (.ref 20), some (.int (nI k)), some (.int (nI J)), some (.int (sm_end w (w 7 5) (xa + ((nI k) * xd)) (xb + ((nI J) * xd)) 0 0)), some (.int (sm_last w (w 7 5) (xa + ((nI k) * xd)) (xb + ((nI J) * xd)) 0 0 4))], [.int (nI J), .int (nI k), .ref 20], mz_set (mz_set (mz_set (mz_set (mz_set (mz_set (mz_set (mz_set m 21 (sm_pic W J k (fun i j => sm_end w (w 7 5) (xa + nI i * xd) (xb + nI j * xd) 0 0) (m 21))) 22 (sm_pic W J k (fun i j => sm_last w (w 7 5) (xa + nI i * xd) (xb + nI j * xd) 0 0 4) (m 22))) 50 r) 51 f) 52 g) 50 re1) 51 fe1) 52 ge1)) rfl ?_
      refine mz_do (R := mz_r4) (as := [.ref 20, .int (nI k), .int (nI J)]) (rest := []) (r1 := some (.int 1)) (m1 := mz_set (mz_set (mz_set (mz_set (mz_set (mz_set (mz_set (mz_set m 21 (sm_pic W J k (fun i j => sm_end w (w 7 5) (xa + nI i * xd) (xb + nI j * xd) 0 0) (m 21))) 22 (sm_pic W J k (fun i j => sm_last w (w 7 5) (xa + nI i * xd) (xb + nI j * xd) 0 0 4) (m 22))) 50 r) 51 f) 52 g) 50 re1) 51 fe1) 52 ge1) rfl ⟨?_, rfl⟩ ?_
      · refine mz_go 2 (c' := (if (nI k) < 0 then 40 else 4, [some (.ref 20), some (.int (nI k)), some (.int (nI J))], [], mz_set (mz_set (mz_set (mz_set (mz_set (mz_set (mz_set (mz_set m 21 (sm_pic W J k (fun i j => sm_end w (w 7 5) (xa + nI i * xd) (xb + nI j * xd) 0 0) (m 21))) 22 (sm_pic W J k (fun i j => sm_last w (w 7 5) (xa + nI i * xd) (xb + nI j * xd) 0 0 4) (m 22))) 50 r) 51 f) 52 g) 50 re1) 51 fe1) 52 ge1)) rfl ?_
        refine mz_ifF (show ¬ ((nI k) < 0) from (sm_nltN rfl rfl (show 0 ≤ k by omega) (show k < 2 ^ 31 by omega))) ?_
        refine mz_go 3 (c' := (9, [some (.ref 20), some (.int (nI k)), some (.int (nI J))], [.int (m 20 2), .int (nI k)], mz_set (mz_set (mz_set (mz_set (mz_set (mz_set (mz_set (mz_set m 21 (sm_pic W J k (fun i j => sm_end w (w 7 5) (xa + nI i * xd) (xb + nI j * xd) 0 0) (m 21))) 22 (sm_pic W J k (fun i j => sm_last w (w 7 5) (xa + nI i * xd) (xb + nI j * xd) 0 0 4) (m 22))) 50 r) 51 f) 52 g) 50 re1) 51 fe1) 52 ge1)) rfl ?_
        rw [h202]
        refine mz_go 1 (c' := (if (nI W) ≤ (nI k) then 40 else 12, [some (.ref 20), some (.int (nI k)), some (.int (nI J))], [], mz_set (mz_set (mz_set (mz_set (mz_set (mz_set (mz_set (mz_set m 21 (sm_pic W J k (fun i j => sm_end w (w 7 5) (xa + nI i * xd) (xb + nI j * xd) 0 0) (m 21))) 22 (sm_pic W J k (fun i j => sm_last w (w 7 5) (xa + nI i * xd) (xb + nI j * xd) 0 0 4) (m 22))) 50 r) 51 f) 52 g) 50 re1) 51 fe1) 52 ge1)) rfl ?_
        refine mz_ifF (show ¬ ((nI W) ≤ (nI k)) from (sm_nleN rfl rfl (show k < W by omega) (show W < 2 ^ 31 by omega))) ?_
        refine mz_go 3 (c' := (if 6 ≤ (nI k) then 40 else 18, [some (.ref 20), some (.int (nI k)), some (.int (nI J))], [], mz_set (mz_set (mz_set (mz_set (mz_set (mz_set (mz_set (mz_set m 21 (sm_pic W J k (fun i j => sm_end w (w 7 5) (xa + nI i * xd) (xb + nI j * xd) 0 0) (m 21))) 22 (sm_pic W J k (fun i j => sm_last w (w 7 5) (xa + nI i * xd) (xb + nI j * xd) 0 0 4) (m 22))) 50 r) 51 f) 52 g) 50 re1) 51 fe1) 52 ge1)) rfl ?_
        refine mz_ifF (show ¬ (6 ≤ (nI k)) from (sm_nleN rfl rfl (show k < 6 by omega) (show 6 < 2 ^ 31 by omega))) ?_
        refine mz_go 2 (c' := (if (nI J) < 0 then 40 else 22, [some (.ref 20), some (.int (nI k)), some (.int (nI J))], [], mz_set (mz_set (mz_set (mz_set (mz_set (mz_set (mz_set (mz_set m 21 (sm_pic W J k (fun i j => sm_end w (w 7 5) (xa + nI i * xd) (xb + nI j * xd) 0 0) (m 21))) 22 (sm_pic W J k (fun i j => sm_last w (w 7 5) (xa + nI i * xd) (xb + nI j * xd) 0 0 4) (m 22))) 50 r) 51 f) 52 g) 50 re1) 51 fe1) 52 ge1)) rfl ?_
        refine mz_ifF (show ¬ ((nI J) < 0) from (sm_nltN rfl rfl (show 0 ≤ J by omega) (show J < 2 ^ 31 by omega))) ?_
        refine mz_go 3 (c' := (27, [some (.ref 20), some (.int (nI k)), some (.int (nI J))], [.int (m 20 3), .int (nI J)], mz_set (mz_set (mz_set (mz_set (mz_set (mz_set (mz_set (mz_set m 21 (sm_pic W J k (fun i j => sm_end w (w 7 5) (xa + nI i * xd) (xb + nI j * xd) 0 0) (m 21))) 22 (sm_pic W J k (fun i j => sm_last w (w 7 5) (xa + nI i * xd) (xb + nI j * xd) 0 0 4) (m 22))) 50 r) 51 f) 52 g) 50 re1) 51 fe1) 52 ge1)) rfl ?_
        rw [h203]
        refine mz_go 1 (c' := (if (nI H) ≤ (nI J) then 40 else 30, [some (.ref 20), some (.int (nI k)), some (.int (nI J))], [], mz_set (mz_set (mz_set (mz_set (mz_set (mz_set (mz_set (mz_set m 21 (sm_pic W J k (fun i j => sm_end w (w 7 5) (xa + nI i * xd) (xb + nI j * xd) 0 0) (m 21))) 22 (sm_pic W J k (fun i j => sm_last w (w 7 5) (xa + nI i * xd) (xb + nI j * xd) 0 0 4) (m 22))) 50 r) 51 f) 52 g) 50 re1) 51 fe1) 52 ge1)) rfl ?_
        refine mz_ifF (show ¬ ((nI H) ≤ (nI J)) from (sm_nleN rfl rfl (show J < H by omega) (show H < 2 ^ 31 by omega))) ?_
        refine mz_go 3 (c' := (if 6 ≤ (nI J) then 40 else 36, [some (.ref 20), some (.int (nI k)), some (.int (nI J))], [], mz_set (mz_set (mz_set (mz_set (mz_set (mz_set (mz_set (mz_set m 21 (sm_pic W J k (fun i j => sm_end w (w 7 5) (xa + nI i * xd) (xb + nI j * xd) 0 0) (m 21))) 22 (sm_pic W J k (fun i j => sm_last w (w 7 5) (xa + nI i * xd) (xb + nI j * xd) 0 0 4) (m 22))) 50 r) 51 f) 52 g) 50 re1) 51 fe1) 52 ge1)) rfl ?_
        refine mz_ifF (show ¬ (6 ≤ (nI J)) from (sm_nleN rfl rfl (show J < 6 by omega) (show 6 < 2 ^ 31 by omega))) ?_
        refine mz_go 2 (c' := (41, [some (.ref 20), some (.int (nI k)), some (.int (nI J))], [.int 1], mz_set (mz_set (mz_set (mz_set (mz_set (mz_set (mz_set (mz_set m 21 (sm_pic W J k (fun i j => sm_end w (w 7 5) (xa + nI i * xd) (xb + nI j * xd) 0 0) (m 21))) 22 (sm_pic W J k (fun i j => sm_last w (w 7 5) (xa + nI i * xd) (xb + nI j * xd) 0 0 4) (m 22))) 50 r) 51 f) 52 g) 50 re1) 51 fe1) 52 ge1)) rfl ?_
        exact mz_ret rfl
      refine mz_go 9 (c' := (20, [some (.ref 20), some (.int (nI k)), some (.int (nI J)), some (.int (sm_end w (w 7 5) (xa + ((nI k) * xd)) (xb + ((nI J) * xd)) 0 0)), some (.int (sm_last w (w 7 5) (xa + ((nI k) * xd)) (xb + ((nI J) * xd)) 0 0 4))], [.int (sm_end w (w 7 5) (xa + ((nI k) * xd)) (xb + ((nI J) * xd)) 0 0), .int (((nI J) * 6) + (nI k)), .ref 21], mz_set (mz_set (mz_set (mz_set (mz_set (mz_set (mz_set (mz_set m 21 (sm_pic W J k (fun i j => sm_end w (w 7 5) (xa + nI i * xd) (xb + nI j * xd) 0 0) (m 21))) 22 (sm_pic W J k (fun i j => sm_last w (w 7 5) (xa + nI i * xd) (xb + nI j * xd) 0 0 4) (m 22))) 50 r) 51 f) 52 g) 50 re1) 51 fe1) 52 ge1)) rfl ?_
      refine mz_arr (c' := (21, [some (.ref 20), some (.int (nI k)), some (.int (nI J)), some (.int (sm_end w (w 7 5) (xa + ((nI k) * xd)) (xb + ((nI J) * xd)) 0 0)), some (.int (sm_last w (w 7 5) (xa + ((nI k) * xd)) (xb + ((nI J) * xd)) 0 0 4))], [], mz_up (mz_set (mz_set (mz_set (mz_set (mz_set (mz_set (mz_set (mz_set m 21 (sm_pic W J k (fun i j => sm_end w (w 7 5) (xa + nI i * xd) (xb + nI j * xd) 0 0) (m 21))) 22 (sm_pic W J k (fun i j => sm_last w (w 7 5) (xa + nI i * xd) (xb + nI j * xd) 0 0 4) (m 22))) 50 r) 51 f) 52 g) 50 re1) 51 fe1) 52 ge1) 21 ((((nI J) * 6) + (nI k)).toNatClampNeg) (sm_end w (w 7 5) (xa + ((nI k) * xd)) (xb + ((nI J) * xd)) 0 0))) rfl (show mz_in (((nI J) * 6) + (nI k)) 36 = true from sm_inN (sm_addN (sm_mulN rfl rfl) rfl) (show ((J * 6) + k) < 36 by omega) (by decide)) ?_
      rw [show (((nI J) * 6) + (nI k) : Int32).toNatClampNeg = ((J * 6) + k) from sm_clN (sm_addN (sm_mulN rfl rfl) rfl) (show ((J * 6) + k) < 2 ^ 31 by omega)]
      refine mz_go 8 (c' := (33, [some (.ref 20), some (.int (nI k)), some (.int (nI J)), some (.int (sm_end w (w 7 5) (xa + ((nI k) * xd)) (xb + ((nI J) * xd)) 0 0)), some (.int (sm_last w (w 7 5) (xa + ((nI k) * xd)) (xb + ((nI J) * xd)) 0 0 4))], [.int (sm_last w (w 7 5) (xa + ((nI k) * xd)) (xb + ((nI J) * xd)) 0 0 4), .int (((nI J) * 6) + (nI k)), .ref 22], mz_up (mz_set (mz_set (mz_set (mz_set (mz_set (mz_set (mz_set (mz_set m 21 (sm_pic W J k (fun i j => sm_end w (w 7 5) (xa + nI i * xd) (xb + nI j * xd) 0 0) (m 21))) 22 (sm_pic W J k (fun i j => sm_last w (w 7 5) (xa + nI i * xd) (xb + nI j * xd) 0 0 4) (m 22))) 50 r) 51 f) 52 g) 50 re1) 51 fe1) 52 ge1) 21 ((J * 6) + k) (sm_end w (w 7 5) (xa + ((nI k) * xd)) (xb + ((nI J) * xd)) 0 0))) rfl ?_
      refine mz_arr (c' := (34, [some (.ref 20), some (.int (nI k)), some (.int (nI J)), some (.int (sm_end w (w 7 5) (xa + ((nI k) * xd)) (xb + ((nI J) * xd)) 0 0)), some (.int (sm_last w (w 7 5) (xa + ((nI k) * xd)) (xb + ((nI J) * xd)) 0 0 4))], [], mz_up (mz_up (mz_set (mz_set (mz_set (mz_set (mz_set (mz_set (mz_set (mz_set m 21 (sm_pic W J k (fun i j => sm_end w (w 7 5) (xa + nI i * xd) (xb + nI j * xd) 0 0) (m 21))) 22 (sm_pic W J k (fun i j => sm_last w (w 7 5) (xa + nI i * xd) (xb + nI j * xd) 0 0 4) (m 22))) 50 r) 51 f) 52 g) 50 re1) 51 fe1) 52 ge1) 21 ((J * 6) + k) (sm_end w (w 7 5) (xa + ((nI k) * xd)) (xb + ((nI J) * xd)) 0 0)) 22 ((((nI J) * 6) + (nI k)).toNatClampNeg) (sm_last w (w 7 5) (xa + ((nI k) * xd)) (xb + ((nI J) * xd)) 0 0 4))) rfl (show mz_in (((nI J) * 6) + (nI k)) 36 = true from sm_inN (sm_addN (sm_mulN rfl rfl) rfl) (show ((J * 6) + k) < 36 by omega) (by decide)) ?_
      rw [show (((nI J) * 6) + (nI k) : Int32).toNatClampNeg = ((J * 6) + k) from sm_clN (sm_addN (sm_mulN rfl rfl) rfl) (show ((J * 6) + k) < 2 ^ 31 by omega)]
      exact mz_ret rfl
    refine mz_go 2 (c' := (118, [some (.ref 0), some (.int xa), some (.int xb), some (.int xc), some (.int xd), some (.int (nI W)), some (.int (nI H)), some (.ref 20), some (.int (nI J)), some (.int ((nI k) + 1)), some (.int (sm_end w (w 7 5) (xa + ((nI k) * xd)) (xb + ((nI J) * xd)) 0 0))], [], mz_up (mz_up (mz_set (mz_set (mz_set (mz_set (mz_set (mz_set (mz_set (mz_set m 21 (sm_pic W J k (fun i j => sm_end w (w 7 5) (xa + nI i * xd) (xb + nI j * xd) 0 0) (m 21))) 22 (sm_pic W J k (fun i j => sm_last w (w 7 5) (xa + nI i * xd) (xb + nI j * xd) 0 0 4) (m 22))) 50 r) 51 f) 52 g) 50 re1) 51 fe1) 52 ge1) 21 ((J * 6) + k) (sm_end w (w 7 5) (xa + ((nI k) * xd)) (xb + ((nI J) * xd)) 0 0)) 22 ((J * 6) + k) (sm_last w (w 7 5) (xa + ((nI k) * xd)) (xb + ((nI J) * xd)) 0 0 4))) rfl ?_
    exact hr
set_option maxHeartbeats 4000000 in
set_option maxRecDepth 100000 in
theorem cs_picj {m w : mz_M} {N : Nat} (hWl : sm_Wl m w) (hw : sm_W w N) (hr5 : w 7 5 = 1 ∨ w 7 5 = 2) (hr80 : sm_N 80 (w 7 2)) {W H : Nat} (hW : W ≤ 6) (hH : H ≤ 6) (h202 : m 20 2 = nI W) (h203 : m 20 3 = nI H) {xa xb xc xd : Int32} (hbx : ∀ k, k < W → sm_B 100 (xa + nI k * xd)) (hby : ∀ k, k < H → sm_B 100 (xb + nI k * xd)) : ∀ j J : Nat, J + j = H → ∀ (r f g : Nat → Int32) (o9 o : Option Value), ∃ (r' f' g' : Nat → Int32) (p9 p : Option Value), ∀ res, mz_Ex 100 mz_k85 (192, [some (.ref 0), some (.int xa), some (.int xb), some (.int xc), some (.int xd), some (.int (nI W)), some (.int (nI H)), some (.ref 20), some (.int (nI H)), p9, p], [], mz_set (mz_set (mz_set (mz_set (mz_set m 21 (sm_pic W H 0 (fun i j => sm_end w (w 7 5) (xa + nI i * xd) (xb + nI j * xd) 0 0) (m 21))) 22 (sm_pic W H 0 (fun i j => sm_last w (w 7 5) (xa + nI i * xd) (xb + nI j * xd) 0 0 4) (m 22))) 50 r') 51 f') 52 g') res → mz_Ex 100 mz_k85 (108, [some (.ref 0), some (.int xa), some (.int xb), some (.int xc), some (.int xd), some (.int (nI W)), some (.int (nI H)), some (.ref 20), some (.int (nI J)), o9, o], [], mz_set (mz_set (mz_set (mz_set (mz_set m 21 (sm_pic W J 0 (fun i j => sm_end w (w 7 5) (xa + nI i * xd) (xb + nI j * xd) 0 0) (m 21))) 22 (sm_pic W J 0 (fun i j => sm_last w (w 7 5) (xa + nI i * xd) (xb + nI j * xd) 0 0 4) (m 22))) 50 r) 51 f) 52 g) res := by
  intro j
  induction j with
  | zero =>
    intro J hk r f g o9 o
    rw [show J = H by omega]
    exact ⟨r, f, g, o9, o, fun res hr => by
      refine mz_go 3 (c' := (if (nI H) ≤ (nI H) then 192 else 115, [some (.ref 0), some (.int xa), some (.int xb), some (.int xc), some (.int xd), some (.int (nI W)), some (.int (nI H)), some (.ref 20), some (.int (nI H)), o9, o], [], mz_set (mz_set (mz_set (mz_set (mz_set m 21 (sm_pic W H 0 (fun i j => sm_end w (w 7 5) (xa + nI i * xd) (xb + nI j * xd) 0 0) (m 21))) 22 (sm_pic W H 0 (fun i j => sm_last w (w 7 5) (xa + nI i * xd) (xb + nI j * xd) 0 0 4) (m 22))) 50 r) 51 f) 52 g)) rfl ?_
      refine mz_ifT (show ((nI H) ≤ (nI H)) from (sm_leN rfl rfl (show H ≤ H by omega) (show H < 2 ^ 31 by omega))) ?_
      exact hr⟩
  | succ j ih =>
    intro J hk r f g o9 o
    obtain ⟨r1, f1, g1, o1, E1⟩ := cs_pici hWl hw hr5 hr80 hW hH h202 h203 (xc := xc) hbx hby (J := J) (by omega) W 0 (by omega) r f g o
    obtain ⟨r', f', g', p9, p, E⟩ := ih (J + 1) (by omega) r1 f1 g1 (some (.int (nI W))) o1
    refine ⟨r', f', g', p9, p, fun res hr0 => ?_⟩
    have hr := E res hr0
    rw [nI_succ J, ← sm_pic_row, ← sm_pic_row] at hr
    have hr2 := E1 res (by
      refine mz_go 2 (c' := (108, [some (.ref 0), some (.int xa), some (.int xb), some (.int xc), some (.int xd), some (.int (nI W)), some (.int (nI H)), some (.ref 20), some (.int ((nI J) + 1)), some (.int (nI W)), o1], [], mz_set (mz_set (mz_set (mz_set (mz_set m 21 (sm_pic W J W (fun i j => sm_end w (w 7 5) (xa + nI i * xd) (xb + nI j * xd) 0 0) (m 21))) 22 (sm_pic W J W (fun i j => sm_last w (w 7 5) (xa + nI i * xd) (xb + nI j * xd) 0 0 4) (m 22))) 50 r1) 51 f1) 52 g1)) rfl ?_
      exact hr)
    refine mz_go 3 (c' := (if (nI H) ≤ (nI J) then 192 else 115, [some (.ref 0), some (.int xa), some (.int xb), some (.int xc), some (.int xd), some (.int (nI W)), some (.int (nI H)), some (.ref 20), some (.int (nI J)), o9, o], [], mz_set (mz_set (mz_set (mz_set (mz_set m 21 (sm_pic W J 0 (fun i j => sm_end w (w 7 5) (xa + nI i * xd) (xb + nI j * xd) 0 0) (m 21))) 22 (sm_pic W J 0 (fun i j => sm_last w (w 7 5) (xa + nI i * xd) (xb + nI j * xd) 0 0 4) (m 22))) 50 r) 51 f) 52 g)) rfl ?_
    refine mz_ifF (show ¬ ((nI H) ≤ (nI J)) from (sm_nleN rfl rfl (show J < H by omega) (show H < 2 ^ 31 by omega))) ?_
    refine mz_go 2 (c' := (118, [some (.ref 0), some (.int xa), some (.int xb), some (.int xc), some (.int xd), some (.int (nI W)), some (.int (nI H)), some (.ref 20), some (.int (nI J)), some (.int 0), o], [], mz_set (mz_set (mz_set (mz_set (mz_set m 21 (sm_pic W J 0 (fun i j => sm_end w (w 7 5) (xa + nI i * xd) (xb + nI j * xd) 0 0) (m 21))) 22 (sm_pic W J 0 (fun i j => sm_last w (w 7 5) (xa + nI i * xd) (xb + nI j * xd) 0 0 4) (m 22))) 50 r) 51 f) 52 g)) rfl ?_
    exact hr2
set_option maxHeartbeats 4000000 in
set_option maxRecDepth 100000 in
theorem ct_pici {m w : mz_M} {N : Nat} (hw : sm_W w N) (hr2 : sm_HR w (m 66)) (h6615 : m 66 15 = w 7 5) (hr5 : w 7 5 = 1 ∨ w 7 5 = 2) (hr80 : sm_N 80 (w 7 2)) {W H : Nat} (hW : W ≤ 6) (hH : H ≤ 6) {xa xb xc xd : Int32} (hbx : ∀ k, k < W → sm_B 100 (xa + nI k * xd)) (hby : ∀ k, k < H → sm_B 100 (xb + nI k * xd)) (l7 : Int32) {J : Nat} (hJ : J < H) : ∀ j K : Nat, K + j = W → ∀ (s r a b : Nat → Int32) (o : Option Value), sm_ps W J K (fun i j => sm_end w (w 7 5) (xa + nI i * xd) (xb + nI j * xd) 0 0) (fun i j => sm_last w (w 7 5) (xa + nI i * xd) (xb + nI j * xd) 0 0 4) (m 66) s → (∀ k, k < 4 ∨ 8 < k → r k = m 65 k) → ∃ (s' r' a' b' : Nat → Int32) (o' : Option Value), sm_ps W J W (fun i j => sm_end w (w 7 5) (xa + nI i * xd) (xb + nI j * xd) 0 0) (fun i j => sm_last w (w 7 5) (xa + nI i * xd) (xb + nI j * xd) 0 0 4) (m 66) s' ∧ (∀ k, k < 4 ∨ 8 < k → r' k = m 65 k) ∧ ∀ res, mz_Ex 100 mz_k190 (141, [some (.ref 65), some (.int xa), some (.int xb), some (.int xc), some (.int xd), some (.int (nI W)), some (.int (nI H)), some (.int l7), some (.int (nI (J * W + W))), o'], [], mz_set (mz_set (mz_set (mz_set m 66 s') 65 r') 70 a') 71 b') res → mz_Ex 100 mz_k190 (141, [some (.ref 65), some (.int xa), some (.int xb), some (.int xc), some (.int xd), some (.int (nI W)), some (.int (nI H)), some (.int l7), some (.int (nI (J * W + K))), o], [], mz_set (mz_set (mz_set (mz_set m 66 s) 65 r) 70 a) 71 b) res := by
  intro j
  induction j with
  | zero =>
    intro K hk s r a b o hs hkr
    rw [show K = W by omega] at hs ⊢
    exact ⟨s, r, a, b, o, hs, hkr, fun res hr => hr⟩
  | succ j ih =>
    intro K hk s r a b o hs hkr
    have hRs : sm_HR w s := sm_HR_s (fun i hi => hs.2.2 i (by omega)) hr2
    have h75 : s 15 = w 7 5 := (hs.2.2 15 (by omega)).trans h6615
    have h36 : J * W + K < W * H := by
      have h1 : (J + 1) * W ≤ H * W := Nat.mul_le_mul_right W (by omega)
      rw [Nat.add_mul, Nat.one_mul] at h1
      rw [Nat.mul_comm W H]
      omega
    have h37 : W * H ≤ 6 * 6 := Nat.mul_le_mul hW hH
    have hdm := sm_dm (W := W) (J := J) (K := K) (by omega)
    have hdv : nI (J * W + K) / nI W = nI J := by rw [sm_divN (by omega) (by omega), hdm.1]
    have hmd : nI (J * W + K) - nI (J * W + K) / nI W * nI W = nI K := by rw [sm_modN (by omega) (by omega), hdm.2]
    have hlt : ¬ ((nI W) * (nI H)) ≤ (nI (J * W + K)) := by
      rw [sm_mulN (a := W) (b := H) rfl rfl]
      exact nI_ge h36 (by omega)
    obtain ⟨re1, fe1, ge1, le1, ke1, Ee1⟩ := ct_from (w := w) (m := mz_set (mz_set (mz_set (mz_set m 66 s) 65 r) 70 a) 71 b) hw hRs (hr5.imp id Or.inl) hr80 (hbx K (by omega)) (hby J (by omega))
    have e66 : ∀ i, (mz_up (mz_up (mz_set (mz_set (mz_set (mz_set (mz_set (mz_set (mz_set m 66 s) 65 r) 70 a) 71 b) 65 re1) 70 fe1) 71 ge1) 66 (70 + ((6 * J) + K)) (sm_end w (w 7 5) (xa + ((nI K) * xd)) (xb + ((nI J) * xd)) 0 0)) 66 (110 + ((6 * J) + K)) (sm_last w (w 7 5) (xa + ((nI K) * xd)) (xb + ((nI J) * xd)) 0 0 4)) 66 i = if i = 110 + (6 * J + K) then (fun i j => sm_last w (w 7 5) (xa + nI i * xd) (xb + nI j * xd) 0 0 4) K J else if i = 70 + (6 * J + K) then (fun i j => sm_end w (w 7 5) (xa + nI i * xd) (xb + nI j * xd) 0 0) K J else s i := fun i => by
      rw [sm_up_row, sm_up_row, mz_set_ne (show (66 : Nat) ≠ 71 by decide), mz_set_ne (show (66 : Nat) ≠ 70 by decide), mz_set_ne (show (66 : Nat) ≠ 65 by decide), mz_set_ne (show (66 : Nat) ≠ 71 by decide), mz_set_ne (show (66 : Nat) ≠ 70 by decide), mz_set_ne (show (66 : Nat) ≠ 65 by decide), mz_set_eq]
      rfl
    have hm : mz_up (mz_up (mz_set (mz_set (mz_set (mz_set (mz_set (mz_set (mz_set m 66 s) 65 r) 70 a) 71 b) 65 re1) 70 fe1) 71 ge1) 66 (70 + ((6 * J) + K)) (sm_end w (w 7 5) (xa + ((nI K) * xd)) (xb + ((nI J) * xd)) 0 0)) 66 (110 + ((6 * J) + K)) (sm_last w (w 7 5) (xa + ((nI K) * xd)) (xb + ((nI J) * xd)) 0 0 4) = mz_set (mz_set (mz_set (mz_set m 66 ((mz_up (mz_up (mz_set (mz_set (mz_set (mz_set (mz_set (mz_set (mz_set m 66 s) 65 r) 70 a) 71 b) 65 re1) 70 fe1) 71 ge1) 66 (70 + ((6 * J) + K)) (sm_end w (w 7 5) (xa + ((nI K) * xd)) (xb + ((nI J) * xd)) 0 0)) 66 (110 + ((6 * J) + K)) (sm_last w (w 7 5) (xa + ((nI K) * xd)) (xb + ((nI J) * xd)) 0 0 4)) 66)) 65 ((mz_up (mz_up (mz_set (mz_set (mz_set (mz_set (mz_set (mz_set (mz_set m 66 s) 65 r) 70 a) 71 b) 65 re1) 70 fe1) 71 ge1) 66 (70 + ((6 * J) + K)) (sm_end w (w 7 5) (xa + ((nI K) * xd)) (xb + ((nI J) * xd)) 0 0)) 66 (110 + ((6 * J) + K)) (sm_last w (w 7 5) (xa + ((nI K) * xd)) (xb + ((nI J) * xd)) 0 0 4)) 65)) 70 ((mz_up (mz_up (mz_set (mz_set (mz_set (mz_set (mz_set (mz_set (mz_set m 66 s) 65 r) 70 a) 71 b) 65 re1) 70 fe1) 71 ge1) 66 (70 + ((6 * J) + K)) (sm_end w (w 7 5) (xa + ((nI K) * xd)) (xb + ((nI J) * xd)) 0 0)) 66 (110 + ((6 * J) + K)) (sm_last w (w 7 5) (xa + ((nI K) * xd)) (xb + ((nI J) * xd)) 0 0 4)) 70)) 71 ((mz_up (mz_up (mz_set (mz_set (mz_set (mz_set (mz_set (mz_set (mz_set m 66 s) 65 r) 70 a) 71 b) 65 re1) 70 fe1) 71 ge1) 66 (70 + ((6 * J) + K)) (sm_end w (w 7 5) (xa + ((nI K) * xd)) (xb + ((nI J) * xd)) 0 0)) 66 (110 + ((6 * J) + K)) (sm_last w (w 7 5) (xa + ((nI K) * xd)) (xb + ((nI J) * xd)) 0 0 4)) 71) := sm_of4 (fun i h1 h2 h3 h4 => by simp only [mz_set_ne h1, mz_set_ne h2, mz_set_ne h3, mz_set_ne h4, mz_up_ne h1])
    obtain ⟨s', r', a', b', o', h1, h2, E⟩ := ih (K + 1) (by omega) ((mz_up (mz_up (mz_set (mz_set (mz_set (mz_set (mz_set (mz_set (mz_set m 66 s) 65 r) 70 a) 71 b) 65 re1) 70 fe1) 71 ge1) 66 (70 + ((6 * J) + K)) (sm_end w (w 7 5) (xa + ((nI K) * xd)) (xb + ((nI J) * xd)) 0 0)) 66 (110 + ((6 * J) + K)) (sm_last w (w 7 5) (xa + ((nI K) * xd)) (xb + ((nI J) * xd)) 0 0 4)) 66) ((mz_up (mz_up (mz_set (mz_set (mz_set (mz_set (mz_set (mz_set (mz_set m 66 s) 65 r) 70 a) 71 b) 65 re1) 70 fe1) 71 ge1) 66 (70 + ((6 * J) + K)) (sm_end w (w 7 5) (xa + ((nI K) * xd)) (xb + ((nI J) * xd)) 0 0)) 66 (110 + ((6 * J) + K)) (sm_last w (w 7 5) (xa + ((nI K) * xd)) (xb + ((nI J) * xd)) 0 0 4)) 65) ((mz_up (mz_up (mz_set (mz_set (mz_set (mz_set (mz_set (mz_set (mz_set m 66 s) 65 r) 70 a) 71 b) 65 re1) 70 fe1) 71 ge1) 66 (70 + ((6 * J) + K)) (sm_end w (w 7 5) (xa + ((nI K) * xd)) (xb + ((nI J) * xd)) 0 0)) 66 (110 + ((6 * J) + K)) (sm_last w (w 7 5) (xa + ((nI K) * xd)) (xb + ((nI J) * xd)) 0 0 4)) 70) ((mz_up (mz_up (mz_set (mz_set (mz_set (mz_set (mz_set (mz_set (mz_set m 66 s) 65 r) 70 a) 71 b) 65 re1) 70 fe1) 71 ge1) 66 (70 + ((6 * J) + K)) (sm_end w (w 7 5) (xa + ((nI K) * xd)) (xb + ((nI J) * xd)) 0 0)) 66 (110 + ((6 * J) + K)) (sm_last w (w 7 5) (xa + ((nI K) * xd)) (xb + ((nI J) * xd)) 0 0 4)) 71) (some (.int ((6 * (nI J)) + (nI K)))) (sm_ps_step hW (by omega) (by omega) hs e66) (fun k hk => (ke1 k hk).trans (hkr k hk))
    refine ⟨s', r', a', b', o', h1, h2, fun res hr0 => ?_⟩
    have hr := E res hr0
    rw [← hm, show J * W + (K + 1) = (J * W + K) + 1 from rfl, nI_succ (J * W + K)] at hr
    refine mz_go 5 (c' := (if ((nI W) * (nI H)) ≤ (nI (J * W + K)) then 225 else 151, [some (.ref 65), some (.int xa), some (.int xb), some (.int xc), some (.int xd), some (.int (nI W)), some (.int (nI H)), some (.int l7), some (.int (nI (J * W + K))), o], [], mz_set (mz_set (mz_set (mz_set m 66 s) 65 r) 70 a) 71 b)) rfl ?_
    refine mz_ifF hlt ?_
    refine mz_go 3 (c' := (157, [some (.ref 65), some (.int xa), some (.int xb), some (.int xc), some (.int xd), some (.int (nI W)), some (.int (nI H)), some (.int l7), some (.int (nI (J * W + K))), o], [.int (nI W), .int (nI (J * W + K)), .int 6], mz_set (mz_set (mz_set (mz_set m 66 s) 65 r) 70 a) 71 b)) rfl ?_
    refine mz_div (c' := (158, [some (.ref 65), some (.int xa), some (.int xb), some (.int xc), some (.int xd), some (.int (nI W)), some (.int (nI H)), some (.int l7), some (.int (nI (J * W + K))), o], [.int ((nI (J * W + K)) / (nI W)), .int 6], mz_set (mz_set (mz_set (mz_set m 66 s) 65 r) 70 a) 71 b)) rfl (sm_nz (k := W) (by omega)) ?_
    rw [hdv]
    refine mz_go 3 (c' := (163, [some (.ref 65), some (.int xa), some (.int xb), some (.int xc), some (.int xd), some (.int (nI W)), some (.int (nI H)), some (.int l7), some (.int (nI (J * W + K))), o], [.int (nI W), .int (nI (J * W + K)), .int (6 * (nI J))], mz_set (mz_set (mz_set (mz_set m 66 s) 65 r) 70 a) 71 b)) rfl ?_
    refine mz_div (c' := (164, [some (.ref 65), some (.int xa), some (.int xb), some (.int xc), some (.int xd), some (.int (nI W)), some (.int (nI H)), some (.int l7), some (.int (nI (J * W + K))), o], [.int ((nI (J * W + K)) - (nI (J * W + K)) / (nI W) * (nI W)), .int (6 * (nI J))], mz_set (mz_set (mz_set (mz_set m 66 s) 65 r) 70 a) 71 b)) rfl (sm_nz (k := W) (by omega)) ?_
    rw [hmd]
    refine mz_go 11 (c' := (182, [some (.ref 65), some (.int xa), some (.int xb), some (.int xc), some (.int xd), some (.int (nI W)), some (.int (nI H)), some (.int l7), some (.int (nI (J * W + K))), some (.int ((6 * (nI J)) + (nI K)))], [.int (nI W), .int (nI (J * W + K)), .int xa, .ref 65, .int (70 + ((6 * (nI J)) + (nI K))), .ref 66], mz_set (mz_set (mz_set (mz_set m 66 s) 65 r) 70 a) 71 b)) rfl ?_
    refine mz_div (c' := (183, [some (.ref 65), some (.int xa), some (.int xb), some (.int xc), some (.int xd), some (.int (nI W)), some (.int (nI H)), some (.int l7), some (.int (nI (J * W + K))), some (.int ((6 * (nI J)) + (nI K)))], [.int ((nI (J * W + K)) - (nI (J * W + K)) / (nI W) * (nI W)), .int xa, .ref 65, .int (70 + ((6 * (nI J)) + (nI K))), .ref 66], mz_set (mz_set (mz_set (mz_set m 66 s) 65 r) 70 a) 71 b)) rfl (sm_nz (k := W) (by omega)) ?_
    rw [hmd]
    refine mz_go 6 (c' := (192, [some (.ref 65), some (.int xa), some (.int xb), some (.int xc), some (.int xd), some (.int (nI W)), some (.int (nI H)), some (.int l7), some (.int (nI (J * W + K))), some (.int ((6 * (nI J)) + (nI K)))], [.int (nI W), .int (nI (J * W + K)), .int xb, .int (xa + ((nI K) * xd)), .ref 65, .int (70 + ((6 * (nI J)) + (nI K))), .ref 66], mz_set (mz_set (mz_set (mz_set m 66 s) 65 r) 70 a) 71 b)) rfl ?_
    refine mz_div (c' := (193, [some (.ref 65), some (.int xa), some (.int xb), some (.int xc), some (.int xd), some (.int (nI W)), some (.int (nI H)), some (.int l7), some (.int (nI (J * W + K))), some (.int ((6 * (nI J)) + (nI K)))], [.int ((nI (J * W + K)) / (nI W)), .int xb, .int (xa + ((nI K) * xd)), .ref 65, .int (70 + ((6 * (nI J)) + (nI K))), .ref 66], mz_set (mz_set (mz_set (mz_set m 66 s) 65 r) 70 a) 71 b)) rfl (sm_nz (k := W) (by omega)) ?_
    rw [hdv]
    refine mz_go 4 (c' := (198, [some (.ref 65), some (.int xa), some (.int xb), some (.int xc), some (.int xd), some (.int (nI W)), some (.int (nI H)), some (.int l7), some (.int (nI (J * W + K))), some (.int ((6 * (nI J)) + (nI K)))], [.ref 65, .int (xb + ((nI J) * xd)), .int (xa + ((nI K) * xd)), .ref 65, .int (70 + ((6 * (nI J)) + (nI K))), .ref 66], mz_set (mz_set (mz_set (mz_set m 66 s) 65 r) 70 a) 71 b)) rfl ?_
    refine mz_do (R := mz_r156) (as := [.ref 65]) (rest := [.int (xb + ((nI J) * xd)), .int (xa + ((nI K) * xd)), .ref 65, .int (70 + ((6 * (nI J)) + (nI K))), .ref 66]) (r1 := some (.int (w 7 5))) (m1 := mz_set (mz_set (mz_set (mz_set m 66 s) 65 r) 70 a) 71 b) rfl ⟨?_, rfl⟩ ?_
    · refine mz_go 4 (c' := (7, [some (.ref 65)], [.int (s 15)], mz_set (mz_set (mz_set (mz_set m 66 s) 65 r) 70 a) 71 b)) rfl ?_
      rw [h75]
      exact mz_ret rfl
    refine mz_do (R := mz_r155) (as := [.ref 65, .int (xa + ((nI K) * xd)), .int (xb + ((nI J) * xd)), .int (w 7 5)]) (rest := [.int (70 + ((6 * (nI J)) + (nI K))), .ref 66]) (r1 := some (.int (sm_end w (w 7 5) (xa + ((nI K) * xd)) (xb + ((nI J) * xd)) 0 0))) (m1 := mz_set (mz_set (mz_set (mz_set (mz_set (mz_set (mz_set m 66 s) 65 r) 70 a) 71 b) 65 re1) 70 fe1) 71 ge1) rfl (Ee1.deep (by decide)) ?_
    refine mz_arr (c' := (205, [some (.ref 65), some (.int xa), some (.int xb), some (.int xc), some (.int xd), some (.int (nI W)), some (.int (nI H)), some (.int l7), some (.int (nI (J * W + K))), some (.int ((6 * (nI J)) + (nI K)))], [], mz_up (mz_set (mz_set (mz_set (mz_set (mz_set (mz_set (mz_set m 66 s) 65 r) 70 a) 71 b) 65 re1) 70 fe1) 71 ge1) 66 ((70 + ((6 * (nI J)) + (nI K))).toNatClampNeg) (sm_end w (w 7 5) (xa + ((nI K) * xd)) (xb + ((nI J) * xd)) 0 0))) rfl (show mz_in (70 + ((6 * (nI J)) + (nI K))) 650 = true from sm_inN (sm_addN rfl (sm_addN (sm_mulN rfl rfl) rfl)) (show (70 + ((6 * J) + K)) < 650 by omega) (by decide)) ?_
    rw [show (70 + ((6 * (nI J)) + (nI K)) : Int32).toNatClampNeg = (70 + ((6 * J) + K)) from sm_clN (sm_addN rfl (sm_addN (sm_mulN rfl rfl) rfl)) (show (70 + ((6 * J) + K)) < 2 ^ 31 by omega)]
    refine mz_go 7 (c' := (218, [some (.ref 65), some (.int xa), some (.int xb), some (.int xc), some (.int xd), some (.int (nI W)), some (.int (nI H)), some (.int l7), some (.int (nI (J * W + K))), some (.int ((6 * (nI J)) + (nI K)))], [.int (re1 8), .int (110 + ((6 * (nI J)) + (nI K))), .ref 66], mz_up (mz_set (mz_set (mz_set (mz_set (mz_set (mz_set (mz_set m 66 s) 65 r) 70 a) 71 b) 65 re1) 70 fe1) 71 ge1) 66 (70 + ((6 * J) + K)) (sm_end w (w 7 5) (xa + ((nI K) * xd)) (xb + ((nI J) * xd)) 0 0))) rfl ?_
    rw [show re1 8 = sm_last w (w 7 5) (xa + ((nI K) * xd)) (xb + ((nI J) * xd)) 0 0 4 from le1.2.2.2.2]
    refine mz_arr (c' := (219, [some (.ref 65), some (.int xa), some (.int xb), some (.int xc), some (.int xd), some (.int (nI W)), some (.int (nI H)), some (.int l7), some (.int (nI (J * W + K))), some (.int ((6 * (nI J)) + (nI K)))], [], mz_up (mz_up (mz_set (mz_set (mz_set (mz_set (mz_set (mz_set (mz_set m 66 s) 65 r) 70 a) 71 b) 65 re1) 70 fe1) 71 ge1) 66 (70 + ((6 * J) + K)) (sm_end w (w 7 5) (xa + ((nI K) * xd)) (xb + ((nI J) * xd)) 0 0)) 66 ((110 + ((6 * (nI J)) + (nI K))).toNatClampNeg) (sm_last w (w 7 5) (xa + ((nI K) * xd)) (xb + ((nI J) * xd)) 0 0 4))) rfl (show mz_in (110 + ((6 * (nI J)) + (nI K))) 650 = true from sm_inN (sm_addN rfl (sm_addN (sm_mulN rfl rfl) rfl)) (show (110 + ((6 * J) + K)) < 650 by omega) (by decide)) ?_
    rw [show (110 + ((6 * (nI J)) + (nI K)) : Int32).toNatClampNeg = (110 + ((6 * J) + K)) from sm_clN (sm_addN rfl (sm_addN (sm_mulN rfl rfl) rfl)) (show (110 + ((6 * J) + K)) < 2 ^ 31 by omega)]
    refine mz_go 2 (c' := (141, [some (.ref 65), some (.int xa), some (.int xb), some (.int xc), some (.int xd), some (.int (nI W)), some (.int (nI H)), some (.int l7), some (.int ((nI (J * W + K)) + 1)), some (.int ((6 * (nI J)) + (nI K)))], [], mz_up (mz_up (mz_set (mz_set (mz_set (mz_set (mz_set (mz_set (mz_set m 66 s) 65 r) 70 a) 71 b) 65 re1) 70 fe1) 71 ge1) 66 (70 + ((6 * J) + K)) (sm_end w (w 7 5) (xa + ((nI K) * xd)) (xb + ((nI J) * xd)) 0 0)) 66 (110 + ((6 * J) + K)) (sm_last w (w 7 5) (xa + ((nI K) * xd)) (xb + ((nI J) * xd)) 0 0 4))) rfl ?_
    exact hr
set_option maxHeartbeats 4000000 in
set_option maxRecDepth 100000 in
theorem ct_picj {m w : mz_M} {N : Nat} (hw : sm_W w N) (hr2 : sm_HR w (m 66)) (h6615 : m 66 15 = w 7 5) (hr5 : w 7 5 = 1 ∨ w 7 5 = 2) (hr80 : sm_N 80 (w 7 2)) {W H : Nat} (hW : W ≤ 6) (hH : H ≤ 6) {xa xb xc xd : Int32} (hbx : ∀ k, k < W → sm_B 100 (xa + nI k * xd)) (hby : ∀ k, k < H → sm_B 100 (xb + nI k * xd)) (l7 : Int32) : ∀ j J : Nat, J + j = H → ∀ (s r a b : Nat → Int32) (o : Option Value), sm_ps W J 0 (fun i j => sm_end w (w 7 5) (xa + nI i * xd) (xb + nI j * xd) 0 0) (fun i j => sm_last w (w 7 5) (xa + nI i * xd) (xb + nI j * xd) 0 0 4) (m 66) s → (∀ k, k < 4 ∨ 8 < k → r k = m 65 k) → ∃ (s' r' a' b' : Nat → Int32) (o' : Option Value), sm_ps W H 0 (fun i j => sm_end w (w 7 5) (xa + nI i * xd) (xb + nI j * xd) 0 0) (fun i j => sm_last w (w 7 5) (xa + nI i * xd) (xb + nI j * xd) 0 0 4) (m 66) s' ∧ (∀ k, k < 4 ∨ 8 < k → r' k = m 65 k) ∧ ∀ res, mz_Ex 100 mz_k190 (225, [some (.ref 65), some (.int xa), some (.int xb), some (.int xc), some (.int xd), some (.int (nI W)), some (.int (nI H)), some (.int l7), some (.int (nI (H * W + 0))), o'], [], mz_set (mz_set (mz_set (mz_set m 66 s') 65 r') 70 a') 71 b') res → mz_Ex 100 mz_k190 (141, [some (.ref 65), some (.int xa), some (.int xb), some (.int xc), some (.int xd), some (.int (nI W)), some (.int (nI H)), some (.int l7), some (.int (nI (J * W + 0))), o], [], mz_set (mz_set (mz_set (mz_set m 66 s) 65 r) 70 a) 71 b) res := by
  intro j
  induction j with
  | zero =>
    intro J hk s r a b o hs hkr
    rw [show J = H by omega] at hs ⊢
    have h37 : W * H ≤ 6 * 6 := Nat.mul_le_mul hW hH
    have hle : ((nI W) * (nI H)) ≤ (nI (H * W + 0)) := by
      rw [sm_mulN (a := W) (b := H) rfl rfl, Nat.add_zero, Nat.mul_comm H W]
      exact Int32.le_refl _
    exact ⟨s, r, a, b, o, hs, hkr, fun res hr => by
      refine mz_go 5 (c' := (if ((nI W) * (nI H)) ≤ (nI (H * W + 0)) then 225 else 151, [some (.ref 65), some (.int xa), some (.int xb), some (.int xc), some (.int xd), some (.int (nI W)), some (.int (nI H)), some (.int l7), some (.int (nI (H * W + 0))), o], [], mz_set (mz_set (mz_set (mz_set m 66 s) 65 r) 70 a) 71 b)) rfl ?_
      refine mz_ifT hle ?_
      exact hr⟩
  | succ j ih =>
    intro J hk s r a b o hs hkr
    obtain ⟨s1, r1, a1, b1, o1, h1, h2, E1⟩ := ct_pici hw hr2 h6615 hr5 hr80 hW hH (xc := xc) hbx hby l7 (J := J) (by omega) W 0 (by omega) s r a b o hs hkr
    obtain ⟨s', r', a', b', o', h3, h4, E⟩ := ih (J + 1) (by omega) s1 r1 a1 b1 o1 (sm_ps_row h1) h2
    rw [Nat.add_mul, Nat.one_mul, Nat.add_zero] at E
    exact ⟨s', r', a', b', o', h3, h4, fun res hr => E1 res (E res hr)⟩
set_option maxHeartbeats 4000000 in
set_option maxRecDepth 100000 in
theorem sc_picture {n : Nat} (hn : n < 64) {w : mz_M} (hI : sm_I n w) (xa : Int32) (xb : Int32) (xc : Int32) (xd : Int32) : ∃ v1 v2 m1 m2, mz_Me 100 mz_r85 [.ref 0, .int xa, .int xb, .int xc, .int xd] w (some (.int v1)) m1 ∧ mz_Me 100 mz_r190 [.ref 65, .int xa, .int xb, .int xc, .int xd] m1 (some (.int v2)) m2 ∧ sm_I (n + 1) m2 := by
  have hI2 := hI
  obtain ⟨hn0, ⟨-, ⟨hr80, hr5, hrr⟩, ⟨⟨TT, hTT, h81, h661⟩, htp⟩, ⟨⟨T0, hT0, hU0, hV0, -⟩, ⟨T1, hT1, hU1, hV1, -⟩, ⟨T2, hT2, hU2, hV2, -⟩⟩, ⟨hbx, hby, hbl⟩, ⟨⟨WW, HH, hWW, hHH, hWH, h202, h203, h6660, h6661⟩, h6662, h6663, h6664, hpc⟩, ⟨hth, h66160, hthr⟩, ⟨⟨AA, hAA, h111, h662⟩, h663, hwt⟩⟩, ⟨hsh, hsn⟩, ⟨hcb1, hcb2⟩, ⟨JJ, hJJ, h07, h652, hkept⟩⟩ := hI
  obtain ⟨N, hw, hr2, h660, -, -, h6615⟩ := sm_world hI2
  have hw2 := hw
  obtain ⟨hN, h4, hpb, -, -⟩ := hw2
  have hT60a := sm_T60 hV0
  have hT60b := sm_T60 hV1
  have hT60c := sm_T60 hV2
  obtain ⟨B1, hB1, e571⟩ := sm_Nof (by decide) hcb1
  obtain ⟨B2, hB2, e6519⟩ := sm_Nof (by decide) hcb2
  refine mz_two (fun _ => rfl) (fun _ => rfl) ?_
  refine mz_goP 10 (c' := (14, [some (.ref 0), some (.int xa), some (.int xb), some (.int xc), some (.int xd), some (.int (xc / 10)), some (.int (xc - xc / 10 * 10)), none, none, none, none], [.int xb, .int xa], w)) rfl ?_
  by_cases q1 : (sm_bI (sm_plc xa xb)) = 0
  · refine mz_doP (R := mz_r116) (as := [.int xa, .int xb]) (rest := []) (r1 := some (.int (sm_bI (sm_plc xa xb)))) (m1 := w) rfl ((cs_plc (m := w) xa xb).deep (by decide)) ?_
    refine mz_goP 1 (c' := (if (sm_bI (sm_plc xa xb)) = 0 then 77 else 20, [some (.ref 0), some (.int xa), some (.int xb), some (.int xc), some (.int xd), some (.int (xc / 10)), some (.int (xc - xc / 10 * 10)), none, none, none, none], [], w)) rfl ?_
    refine mz_ifTP q1 ?_
    refine mz_goP 2 (c' := (79, [some (.ref 0), some (.int xa), some (.int xb), some (.int xc), some (.int xd), some (.int (xc / 10)), some (.int (xc - xc / 10 * 10)), none, none, none, none], [.int 1, .ref 0], w)) rfl ?_
    refine mz_doP (R := mz_r109) (as := [.ref 0, .int 1]) (rest := []) (r1 := some (.int (-1000001))) (m1 := mz_up w 64 1 ((w 64 1) + 1)) rfl ((cs_err1 (m := w)).deep (by decide)) ?_
    refine mz_retP (r := (some (.int ((-1000001))), mz_up w 64 1 ((w 64 1) + 1))) rfl ⟨(-1000001), rfl, ?_⟩
    refine mz_goP 10 (c' := (14, [some (.ref 65), some (.int xa), some (.int xb), some (.int xc), some (.int xd), some (.int (xc / 10)), some (.int (xc - xc / 10 * 10)), none, none, none], [.int xb, .int xa], mz_up w 64 1 ((w 64 1) + 1))) rfl ?_
    refine mz_doP (R := mz_r131) (as := [.int xa, .int xb]) (rest := []) (r1 := some (.int (sm_bI (sm_plc xa xb)))) (m1 := mz_up w 64 1 ((w 64 1) + 1)) rfl ((ct_plc (m := mz_up w 64 1 ((w 64 1) + 1)) xa xb).deep (by decide)) ?_
    refine mz_goP 1 (c' := (if (sm_bI (sm_plc xa xb)) = 0 then 57 else 20, [some (.ref 65), some (.int xa), some (.int xb), some (.int xc), some (.int xd), some (.int (xc / 10)), some (.int (xc - xc / 10 * 10)), none, none, none], [], mz_up w 64 1 ((w 64 1) + 1))) rfl ?_
    refine mz_ifTP q1 ?_
    refine mz_goP 6 (c' := (91, [some (.ref 65), some (.int xa), some (.int xb), some (.int xc), some (.int xd), some (.int (xc / 10)), some (.int (xc - xc / 10 * 10)), some (.int 0), none, none], [.int 1, .ref 65], mz_up w 64 1 ((w 64 1) + 1))) rfl ?_
    refine mz_doP (R := mz_r127) (as := [.ref 65, .int 1]) (rest := []) (r1 := some (.int (-1000001))) (m1 := mz_up (mz_up w 64 1 ((w 64 1) + 1)) 68 1 ((w 68 1) + 1)) rfl ((ct_err1 (m := mz_up w 64 1 ((w 64 1) + 1))).deep (by decide)) ?_
    refine mz_retP (r := (some (.int ((-1000001))), mz_up (mz_up w 64 1 ((w 64 1) + 1)) 68 1 ((w 68 1) + 1))) rfl ⟨(-1000001), rfl, ?_⟩
    show sm_I (n + 1) (mz_up (mz_up w 64 1 ((w 64 1) + 1)) 68 1 ((w 68 1) + 1))
    exact sm_I_scr hn hI2 (fun i hi => by
      have hne : ∀ r, sm_scr r = true → i ≠ r := fun r hr e => by
        rw [e, hr] at hi
        cases hi
      simp only [mz_up_ne (hne 64 rfl), mz_up_ne (hne 68 rfl)]) rfl rfl
  · refine mz_doP (R := mz_r116) (as := [.int xa, .int xb]) (rest := []) (r1 := some (.int 1)) (m1 := w) rfl ⟨?_, rfl⟩ ?_
    · refine mz_go 3 (c' := (5, [some (.int xa), some (.int xb)], [.int 100, .int (-100), .int xa], w)) rfl ?_
      refine mz_do (R := mz_r121) (as := [.int xa, .int (-100), .int 100]) (rest := []) (r1 := some (.int 1)) (m1 := w) rfl ((cs_in1 (m := w) (v := xa) (a := (-100)) (b := 100) (show ¬ (xa < (-100)) from (sm_plc_of q1).1.1) (show ¬ (100 < xa) from (sm_plc_of q1).1.2)).deep (by decide)) ?_
      refine mz_go 4 (c' := (16, [some (.int xa), some (.int xb)], [.int 100, .int (-100), .int xb], w)) rfl ?_
      refine mz_do (R := mz_r121) (as := [.int xb, .int (-100), .int 100]) (rest := []) (r1 := some (.int 1)) (m1 := w) rfl ((cs_in1 (m := w) (v := xb) (a := (-100)) (b := 100) (show ¬ (xb < (-100)) from (sm_plc_of q1).2.1) (show ¬ (100 < xb) from (sm_plc_of q1).2.2)).deep (by decide)) ?_
      refine mz_go 3 (c' := (27, [some (.int xa), some (.int xb)], [.int 1], w)) rfl ?_
      exact mz_ret rfl
    refine mz_goP 4 (c' := (25, [some (.ref 0), some (.int xa), some (.int xb), some (.int xc), some (.int xd), some (.int (xc / 10)), some (.int (xc - xc / 10 * 10)), none, none, none, none], [.int 40, .int 1, .int xd], w)) rfl ?_
    by_cases q2 : (sm_bI (sm_in xd 1 40)) = 0
    · refine mz_doP (R := mz_r121) (as := [.int xd, .int 1, .int 40]) (rest := []) (r1 := some (.int (sm_bI (sm_in xd 1 40)))) (m1 := w) rfl ((cs_in (m := w) xd 1 40).deep (by decide)) ?_
      refine mz_goP 1 (c' := (if (sm_bI (sm_in xd 1 40)) = 0 then 77 else 31, [some (.ref 0), some (.int xa), some (.int xb), some (.int xc), some (.int xd), some (.int (xc / 10)), some (.int (xc - xc / 10 * 10)), none, none, none, none], [], w)) rfl ?_
      refine mz_ifTP q2 ?_
      refine mz_goP 2 (c' := (79, [some (.ref 0), some (.int xa), some (.int xb), some (.int xc), some (.int xd), some (.int (xc / 10)), some (.int (xc - xc / 10 * 10)), none, none, none, none], [.int 1, .ref 0], w)) rfl ?_
      refine mz_doP (R := mz_r109) (as := [.ref 0, .int 1]) (rest := []) (r1 := some (.int (-1000001))) (m1 := mz_up w 64 1 ((w 64 1) + 1)) rfl ((cs_err1 (m := w)).deep (by decide)) ?_
      refine mz_retP (r := (some (.int ((-1000001))), mz_up w 64 1 ((w 64 1) + 1))) rfl ⟨(-1000001), rfl, ?_⟩
      refine mz_goP 10 (c' := (14, [some (.ref 65), some (.int xa), some (.int xb), some (.int xc), some (.int xd), some (.int (xc / 10)), some (.int (xc - xc / 10 * 10)), none, none, none], [.int xb, .int xa], mz_up w 64 1 ((w 64 1) + 1))) rfl ?_
      refine mz_doP (R := mz_r131) (as := [.int xa, .int xb]) (rest := []) (r1 := some (.int 1)) (m1 := mz_up w 64 1 ((w 64 1) + 1)) rfl ⟨?_, rfl⟩ ?_
      · refine mz_go 3 (c' := (5, [some (.int xa), some (.int xb)], [.int 100, .int (-100), .int xa], mz_up w 64 1 ((w 64 1) + 1))) rfl ?_
        refine mz_do (R := mz_r128) (as := [.int xa, .int (-100), .int 100]) (rest := []) (r1 := some (.int 1)) (m1 := mz_up w 64 1 ((w 64 1) + 1)) rfl ((ct_in1 (m := mz_up w 64 1 ((w 64 1) + 1)) (v := xa) (a := (-100)) (b := 100) (show ¬ (xa < (-100)) from (sm_plc_of q1).1.1) (show ¬ (100 < xa) from (sm_plc_of q1).1.2)).deep (by decide)) ?_
        refine mz_go 4 (c' := (16, [some (.int xa), some (.int xb)], [.int 100, .int (-100), .int xb], mz_up w 64 1 ((w 64 1) + 1))) rfl ?_
        refine mz_do (R := mz_r128) (as := [.int xb, .int (-100), .int 100]) (rest := []) (r1 := some (.int 1)) (m1 := mz_up w 64 1 ((w 64 1) + 1)) rfl ((ct_in1 (m := mz_up w 64 1 ((w 64 1) + 1)) (v := xb) (a := (-100)) (b := 100) (show ¬ (xb < (-100)) from (sm_plc_of q1).2.1) (show ¬ (100 < xb) from (sm_plc_of q1).2.2)).deep (by decide)) ?_
        refine mz_go 3 (c' := (27, [some (.int xa), some (.int xb)], [.int 1], mz_up w 64 1 ((w 64 1) + 1))) rfl ?_
        exact mz_ret rfl
      refine mz_goP 4 (c' := (25, [some (.ref 65), some (.int xa), some (.int xb), some (.int xc), some (.int xd), some (.int (xc / 10)), some (.int (xc - xc / 10 * 10)), none, none, none], [.int 6, .int 1, .int (xc / 10)], mz_up w 64 1 ((w 64 1) + 1))) rfl ?_
      by_cases q3 : (xc / 10) < 1
      · refine mz_doP (R := mz_r128) (as := [.int (xc / 10), .int 1, .int 6]) (rest := []) (r1 := some (.int 0)) (m1 := mz_up w 64 1 ((w 64 1) + 1)) rfl ((ct_inL (m := mz_up w 64 1 ((w 64 1) + 1)) (v := xc / 10) (a := 1) (b := 6) q3).deep (by decide)) ?_
        refine mz_goP 7 (c' := (91, [some (.ref 65), some (.int xa), some (.int xb), some (.int xc), some (.int xd), some (.int (xc / 10)), some (.int (xc - xc / 10 * 10)), some (.int 0), none, none], [.int 1, .ref 65], mz_up w 64 1 ((w 64 1) + 1))) rfl ?_
        refine mz_doP (R := mz_r127) (as := [.ref 65, .int 1]) (rest := []) (r1 := some (.int (-1000001))) (m1 := mz_up (mz_up w 64 1 ((w 64 1) + 1)) 68 1 ((w 68 1) + 1)) rfl ((ct_err1 (m := mz_up w 64 1 ((w 64 1) + 1))).deep (by decide)) ?_
        refine mz_retP (r := (some (.int ((-1000001))), mz_up (mz_up w 64 1 ((w 64 1) + 1)) 68 1 ((w 68 1) + 1))) rfl ⟨(-1000001), rfl, ?_⟩
        show sm_I (n + 1) (mz_up (mz_up w 64 1 ((w 64 1) + 1)) 68 1 ((w 68 1) + 1))
        exact sm_I_scr hn hI2 (fun i hi => by
          have hne : ∀ r, sm_scr r = true → i ≠ r := fun r hr e => by
            rw [e, hr] at hi
            cases hi
          simp only [mz_up_ne (hne 64 rfl), mz_up_ne (hne 68 rfl)]) rfl rfl
      · by_cases q4 : 6 < (xc / 10)
        · refine mz_doP (R := mz_r128) (as := [.int (xc / 10), .int 1, .int 6]) (rest := []) (r1 := some (.int 0)) (m1 := mz_up w 64 1 ((w 64 1) + 1)) rfl ((ct_inG (m := mz_up w 64 1 ((w 64 1) + 1)) (v := xc / 10) (a := 1) (b := 6) q3 q4).deep (by decide)) ?_
          refine mz_goP 7 (c' := (91, [some (.ref 65), some (.int xa), some (.int xb), some (.int xc), some (.int xd), some (.int (xc / 10)), some (.int (xc - xc / 10 * 10)), some (.int 0), none, none], [.int 1, .ref 65], mz_up w 64 1 ((w 64 1) + 1))) rfl ?_
          refine mz_doP (R := mz_r127) (as := [.ref 65, .int 1]) (rest := []) (r1 := some (.int (-1000001))) (m1 := mz_up (mz_up w 64 1 ((w 64 1) + 1)) 68 1 ((w 68 1) + 1)) rfl ((ct_err1 (m := mz_up w 64 1 ((w 64 1) + 1))).deep (by decide)) ?_
          refine mz_retP (r := (some (.int ((-1000001))), mz_up (mz_up w 64 1 ((w 64 1) + 1)) 68 1 ((w 68 1) + 1))) rfl ⟨(-1000001), rfl, ?_⟩
          show sm_I (n + 1) (mz_up (mz_up w 64 1 ((w 64 1) + 1)) 68 1 ((w 68 1) + 1))
          exact sm_I_scr hn hI2 (fun i hi => by
            have hne : ∀ r, sm_scr r = true → i ≠ r := fun r hr e => by
              rw [e, hr] at hi
              cases hi
            simp only [mz_up_ne (hne 64 rfl), mz_up_ne (hne 68 rfl)]) rfl rfl
        · refine mz_doP (R := mz_r128) (as := [.int (xc / 10), .int 1, .int 6]) (rest := []) (r1 := some (.int 1)) (m1 := mz_up w 64 1 ((w 64 1) + 1)) rfl ((ct_in1 (m := mz_up w 64 1 ((w 64 1) + 1)) (v := xc / 10) (a := 1) (b := 6) q3 q4).deep (by decide)) ?_
          refine mz_goP 4 (c' := (36, [some (.ref 65), some (.int xa), some (.int xb), some (.int xc), some (.int xd), some (.int (xc / 10)), some (.int (xc - xc / 10 * 10)), none, none, none], [.int 6, .int 1, .int (xc - xc / 10 * 10)], mz_up w 64 1 ((w 64 1) + 1))) rfl ?_
          by_cases q5 : (xc - xc / 10 * 10) < 1
          · refine mz_doP (R := mz_r128) (as := [.int (xc - xc / 10 * 10), .int 1, .int 6]) (rest := []) (r1 := some (.int 0)) (m1 := mz_up w 64 1 ((w 64 1) + 1)) rfl ((ct_inL (m := mz_up w 64 1 ((w 64 1) + 1)) (v := xc - xc / 10 * 10) (a := 1) (b := 6) q5).deep (by decide)) ?_
            refine mz_goP 7 (c' := (91, [some (.ref 65), some (.int xa), some (.int xb), some (.int xc), some (.int xd), some (.int (xc / 10)), some (.int (xc - xc / 10 * 10)), some (.int 0), none, none], [.int 1, .ref 65], mz_up w 64 1 ((w 64 1) + 1))) rfl ?_
            refine mz_doP (R := mz_r127) (as := [.ref 65, .int 1]) (rest := []) (r1 := some (.int (-1000001))) (m1 := mz_up (mz_up w 64 1 ((w 64 1) + 1)) 68 1 ((w 68 1) + 1)) rfl ((ct_err1 (m := mz_up w 64 1 ((w 64 1) + 1))).deep (by decide)) ?_
            refine mz_retP (r := (some (.int ((-1000001))), mz_up (mz_up w 64 1 ((w 64 1) + 1)) 68 1 ((w 68 1) + 1))) rfl ⟨(-1000001), rfl, ?_⟩
            show sm_I (n + 1) (mz_up (mz_up w 64 1 ((w 64 1) + 1)) 68 1 ((w 68 1) + 1))
            exact sm_I_scr hn hI2 (fun i hi => by
              have hne : ∀ r, sm_scr r = true → i ≠ r := fun r hr e => by
                rw [e, hr] at hi
                cases hi
              simp only [mz_up_ne (hne 64 rfl), mz_up_ne (hne 68 rfl)]) rfl rfl
          · by_cases q6 : 6 < (xc - xc / 10 * 10)
            · refine mz_doP (R := mz_r128) (as := [.int (xc - xc / 10 * 10), .int 1, .int 6]) (rest := []) (r1 := some (.int 0)) (m1 := mz_up w 64 1 ((w 64 1) + 1)) rfl ((ct_inG (m := mz_up w 64 1 ((w 64 1) + 1)) (v := xc - xc / 10 * 10) (a := 1) (b := 6) q5 q6).deep (by decide)) ?_
              refine mz_goP 7 (c' := (91, [some (.ref 65), some (.int xa), some (.int xb), some (.int xc), some (.int xd), some (.int (xc / 10)), some (.int (xc - xc / 10 * 10)), some (.int 0), none, none], [.int 1, .ref 65], mz_up w 64 1 ((w 64 1) + 1))) rfl ?_
              refine mz_doP (R := mz_r127) (as := [.ref 65, .int 1]) (rest := []) (r1 := some (.int (-1000001))) (m1 := mz_up (mz_up w 64 1 ((w 64 1) + 1)) 68 1 ((w 68 1) + 1)) rfl ((ct_err1 (m := mz_up w 64 1 ((w 64 1) + 1))).deep (by decide)) ?_
              refine mz_retP (r := (some (.int ((-1000001))), mz_up (mz_up w 64 1 ((w 64 1) + 1)) 68 1 ((w 68 1) + 1))) rfl ⟨(-1000001), rfl, ?_⟩
              show sm_I (n + 1) (mz_up (mz_up w 64 1 ((w 64 1) + 1)) 68 1 ((w 68 1) + 1))
              exact sm_I_scr hn hI2 (fun i hi => by
                have hne : ∀ r, sm_scr r = true → i ≠ r := fun r hr e => by
                  rw [e, hr] at hi
                  cases hi
                simp only [mz_up_ne (hne 64 rfl), mz_up_ne (hne 68 rfl)]) rfl rfl
            · refine mz_doP (R := mz_r128) (as := [.int (xc - xc / 10 * 10), .int 1, .int 6]) (rest := []) (r1 := some (.int 1)) (m1 := mz_up w 64 1 ((w 64 1) + 1)) rfl ((ct_in1 (m := mz_up w 64 1 ((w 64 1) + 1)) (v := xc - xc / 10 * 10) (a := 1) (b := 6) q5 q6).deep (by decide)) ?_
              refine mz_goP 4 (c' := (47, [some (.ref 65), some (.int xa), some (.int xb), some (.int xc), some (.int xd), some (.int (xc / 10)), some (.int (xc - xc / 10 * 10)), none, none, none], [.int 40, .int 1, .int xd], mz_up w 64 1 ((w 64 1) + 1))) rfl ?_
              refine mz_doP (R := mz_r128) (as := [.int xd, .int 1, .int 40]) (rest := []) (r1 := some (.int (sm_bI (sm_in xd 1 40)))) (m1 := mz_up w 64 1 ((w 64 1) + 1)) rfl ((ct_in (m := mz_up w 64 1 ((w 64 1) + 1)) xd 1 40).deep (by decide)) ?_
              refine mz_goP 1 (c' := (if (sm_bI (sm_in xd 1 40)) = 0 then 57 else 53, [some (.ref 65), some (.int xa), some (.int xb), some (.int xc), some (.int xd), some (.int (xc / 10)), some (.int (xc - xc / 10 * 10)), none, none, none], [], mz_up w 64 1 ((w 64 1) + 1))) rfl ?_
              refine mz_ifTP q2 ?_
              refine mz_goP 6 (c' := (91, [some (.ref 65), some (.int xa), some (.int xb), some (.int xc), some (.int xd), some (.int (xc / 10)), some (.int (xc - xc / 10 * 10)), some (.int 0), none, none], [.int 1, .ref 65], mz_up w 64 1 ((w 64 1) + 1))) rfl ?_
              refine mz_doP (R := mz_r127) (as := [.ref 65, .int 1]) (rest := []) (r1 := some (.int (-1000001))) (m1 := mz_up (mz_up w 64 1 ((w 64 1) + 1)) 68 1 ((w 68 1) + 1)) rfl ((ct_err1 (m := mz_up w 64 1 ((w 64 1) + 1))).deep (by decide)) ?_
              refine mz_retP (r := (some (.int ((-1000001))), mz_up (mz_up w 64 1 ((w 64 1) + 1)) 68 1 ((w 68 1) + 1))) rfl ⟨(-1000001), rfl, ?_⟩
              show sm_I (n + 1) (mz_up (mz_up w 64 1 ((w 64 1) + 1)) 68 1 ((w 68 1) + 1))
              exact sm_I_scr hn hI2 (fun i hi => by
                have hne : ∀ r, sm_scr r = true → i ≠ r := fun r hr e => by
                  rw [e, hr] at hi
                  cases hi
                simp only [mz_up_ne (hne 64 rfl), mz_up_ne (hne 68 rfl)]) rfl rfl
    · refine mz_doP (R := mz_r121) (as := [.int xd, .int 1, .int 40]) (rest := []) (r1 := some (.int 1)) (m1 := w) rfl ((cs_in1 (m := w) (v := xd) (a := 1) (b := 40) (show ¬ (xd < 1) from (sm_in_lo q2)) (show ¬ (40 < xd) from (sm_in_hi q2))).deep (by decide)) ?_
      refine mz_goP 4 (c' := (36, [some (.ref 0), some (.int xa), some (.int xb), some (.int xc), some (.int xd), some (.int (xc / 10)), some (.int (xc - xc / 10 * 10)), none, none, none, none], [.int 6, .int 1, .int (xc / 10)], w)) rfl ?_
      by_cases q7 : (xc / 10) < 1
      · refine mz_doP (R := mz_r121) (as := [.int (xc / 10), .int 1, .int 6]) (rest := []) (r1 := some (.int 0)) (m1 := w) rfl ((cs_inL (m := w) (v := xc / 10) (a := 1) (b := 6) q7).deep (by decide)) ?_
        refine mz_goP 3 (c' := (79, [some (.ref 0), some (.int xa), some (.int xb), some (.int xc), some (.int xd), some (.int (xc / 10)), some (.int (xc - xc / 10 * 10)), none, none, none, none], [.int 1, .ref 0], w)) rfl ?_
        refine mz_doP (R := mz_r109) (as := [.ref 0, .int 1]) (rest := []) (r1 := some (.int (-1000001))) (m1 := mz_up w 64 1 ((w 64 1) + 1)) rfl ((cs_err1 (m := w)).deep (by decide)) ?_
        refine mz_retP (r := (some (.int ((-1000001))), mz_up w 64 1 ((w 64 1) + 1))) rfl ⟨(-1000001), rfl, ?_⟩
        refine mz_goP 10 (c' := (14, [some (.ref 65), some (.int xa), some (.int xb), some (.int xc), some (.int xd), some (.int (xc / 10)), some (.int (xc - xc / 10 * 10)), none, none, none], [.int xb, .int xa], mz_up w 64 1 ((w 64 1) + 1))) rfl ?_
        refine mz_doP (R := mz_r131) (as := [.int xa, .int xb]) (rest := []) (r1 := some (.int 1)) (m1 := mz_up w 64 1 ((w 64 1) + 1)) rfl ⟨?_, rfl⟩ ?_
        · refine mz_go 3 (c' := (5, [some (.int xa), some (.int xb)], [.int 100, .int (-100), .int xa], mz_up w 64 1 ((w 64 1) + 1))) rfl ?_
          refine mz_do (R := mz_r128) (as := [.int xa, .int (-100), .int 100]) (rest := []) (r1 := some (.int 1)) (m1 := mz_up w 64 1 ((w 64 1) + 1)) rfl ((ct_in1 (m := mz_up w 64 1 ((w 64 1) + 1)) (v := xa) (a := (-100)) (b := 100) (show ¬ (xa < (-100)) from (sm_plc_of q1).1.1) (show ¬ (100 < xa) from (sm_plc_of q1).1.2)).deep (by decide)) ?_
          refine mz_go 4 (c' := (16, [some (.int xa), some (.int xb)], [.int 100, .int (-100), .int xb], mz_up w 64 1 ((w 64 1) + 1))) rfl ?_
          refine mz_do (R := mz_r128) (as := [.int xb, .int (-100), .int 100]) (rest := []) (r1 := some (.int 1)) (m1 := mz_up w 64 1 ((w 64 1) + 1)) rfl ((ct_in1 (m := mz_up w 64 1 ((w 64 1) + 1)) (v := xb) (a := (-100)) (b := 100) (show ¬ (xb < (-100)) from (sm_plc_of q1).2.1) (show ¬ (100 < xb) from (sm_plc_of q1).2.2)).deep (by decide)) ?_
          refine mz_go 3 (c' := (27, [some (.int xa), some (.int xb)], [.int 1], mz_up w 64 1 ((w 64 1) + 1))) rfl ?_
          exact mz_ret rfl
        refine mz_goP 4 (c' := (25, [some (.ref 65), some (.int xa), some (.int xb), some (.int xc), some (.int xd), some (.int (xc / 10)), some (.int (xc - xc / 10 * 10)), none, none, none], [.int 6, .int 1, .int (xc / 10)], mz_up w 64 1 ((w 64 1) + 1))) rfl ?_
        refine mz_doP (R := mz_r128) (as := [.int (xc / 10), .int 1, .int 6]) (rest := []) (r1 := some (.int 0)) (m1 := mz_up w 64 1 ((w 64 1) + 1)) rfl ((ct_inL (m := mz_up w 64 1 ((w 64 1) + 1)) (v := xc / 10) (a := 1) (b := 6) q7).deep (by decide)) ?_
        refine mz_goP 7 (c' := (91, [some (.ref 65), some (.int xa), some (.int xb), some (.int xc), some (.int xd), some (.int (xc / 10)), some (.int (xc - xc / 10 * 10)), some (.int 0), none, none], [.int 1, .ref 65], mz_up w 64 1 ((w 64 1) + 1))) rfl ?_
        refine mz_doP (R := mz_r127) (as := [.ref 65, .int 1]) (rest := []) (r1 := some (.int (-1000001))) (m1 := mz_up (mz_up w 64 1 ((w 64 1) + 1)) 68 1 ((w 68 1) + 1)) rfl ((ct_err1 (m := mz_up w 64 1 ((w 64 1) + 1))).deep (by decide)) ?_
        refine mz_retP (r := (some (.int ((-1000001))), mz_up (mz_up w 64 1 ((w 64 1) + 1)) 68 1 ((w 68 1) + 1))) rfl ⟨(-1000001), rfl, ?_⟩
        show sm_I (n + 1) (mz_up (mz_up w 64 1 ((w 64 1) + 1)) 68 1 ((w 68 1) + 1))
        exact sm_I_scr hn hI2 (fun i hi => by
          have hne : ∀ r, sm_scr r = true → i ≠ r := fun r hr e => by
            rw [e, hr] at hi
            cases hi
          simp only [mz_up_ne (hne 64 rfl), mz_up_ne (hne 68 rfl)]) rfl rfl
      · by_cases q8 : 6 < (xc / 10)
        · refine mz_doP (R := mz_r121) (as := [.int (xc / 10), .int 1, .int 6]) (rest := []) (r1 := some (.int 0)) (m1 := w) rfl ((cs_inG (m := w) (v := xc / 10) (a := 1) (b := 6) q7 q8).deep (by decide)) ?_
          refine mz_goP 3 (c' := (79, [some (.ref 0), some (.int xa), some (.int xb), some (.int xc), some (.int xd), some (.int (xc / 10)), some (.int (xc - xc / 10 * 10)), none, none, none, none], [.int 1, .ref 0], w)) rfl ?_
          refine mz_doP (R := mz_r109) (as := [.ref 0, .int 1]) (rest := []) (r1 := some (.int (-1000001))) (m1 := mz_up w 64 1 ((w 64 1) + 1)) rfl ((cs_err1 (m := w)).deep (by decide)) ?_
          refine mz_retP (r := (some (.int ((-1000001))), mz_up w 64 1 ((w 64 1) + 1))) rfl ⟨(-1000001), rfl, ?_⟩
          refine mz_goP 10 (c' := (14, [some (.ref 65), some (.int xa), some (.int xb), some (.int xc), some (.int xd), some (.int (xc / 10)), some (.int (xc - xc / 10 * 10)), none, none, none], [.int xb, .int xa], mz_up w 64 1 ((w 64 1) + 1))) rfl ?_
          refine mz_doP (R := mz_r131) (as := [.int xa, .int xb]) (rest := []) (r1 := some (.int 1)) (m1 := mz_up w 64 1 ((w 64 1) + 1)) rfl ⟨?_, rfl⟩ ?_
          · refine mz_go 3 (c' := (5, [some (.int xa), some (.int xb)], [.int 100, .int (-100), .int xa], mz_up w 64 1 ((w 64 1) + 1))) rfl ?_
            refine mz_do (R := mz_r128) (as := [.int xa, .int (-100), .int 100]) (rest := []) (r1 := some (.int 1)) (m1 := mz_up w 64 1 ((w 64 1) + 1)) rfl ((ct_in1 (m := mz_up w 64 1 ((w 64 1) + 1)) (v := xa) (a := (-100)) (b := 100) (show ¬ (xa < (-100)) from (sm_plc_of q1).1.1) (show ¬ (100 < xa) from (sm_plc_of q1).1.2)).deep (by decide)) ?_
            refine mz_go 4 (c' := (16, [some (.int xa), some (.int xb)], [.int 100, .int (-100), .int xb], mz_up w 64 1 ((w 64 1) + 1))) rfl ?_
            refine mz_do (R := mz_r128) (as := [.int xb, .int (-100), .int 100]) (rest := []) (r1 := some (.int 1)) (m1 := mz_up w 64 1 ((w 64 1) + 1)) rfl ((ct_in1 (m := mz_up w 64 1 ((w 64 1) + 1)) (v := xb) (a := (-100)) (b := 100) (show ¬ (xb < (-100)) from (sm_plc_of q1).2.1) (show ¬ (100 < xb) from (sm_plc_of q1).2.2)).deep (by decide)) ?_
            refine mz_go 3 (c' := (27, [some (.int xa), some (.int xb)], [.int 1], mz_up w 64 1 ((w 64 1) + 1))) rfl ?_
            exact mz_ret rfl
          refine mz_goP 4 (c' := (25, [some (.ref 65), some (.int xa), some (.int xb), some (.int xc), some (.int xd), some (.int (xc / 10)), some (.int (xc - xc / 10 * 10)), none, none, none], [.int 6, .int 1, .int (xc / 10)], mz_up w 64 1 ((w 64 1) + 1))) rfl ?_
          refine mz_doP (R := mz_r128) (as := [.int (xc / 10), .int 1, .int 6]) (rest := []) (r1 := some (.int 0)) (m1 := mz_up w 64 1 ((w 64 1) + 1)) rfl ((ct_inG (m := mz_up w 64 1 ((w 64 1) + 1)) (v := xc / 10) (a := 1) (b := 6) q7 q8).deep (by decide)) ?_
          refine mz_goP 7 (c' := (91, [some (.ref 65), some (.int xa), some (.int xb), some (.int xc), some (.int xd), some (.int (xc / 10)), some (.int (xc - xc / 10 * 10)), some (.int 0), none, none], [.int 1, .ref 65], mz_up w 64 1 ((w 64 1) + 1))) rfl ?_
          refine mz_doP (R := mz_r127) (as := [.ref 65, .int 1]) (rest := []) (r1 := some (.int (-1000001))) (m1 := mz_up (mz_up w 64 1 ((w 64 1) + 1)) 68 1 ((w 68 1) + 1)) rfl ((ct_err1 (m := mz_up w 64 1 ((w 64 1) + 1))).deep (by decide)) ?_
          refine mz_retP (r := (some (.int ((-1000001))), mz_up (mz_up w 64 1 ((w 64 1) + 1)) 68 1 ((w 68 1) + 1))) rfl ⟨(-1000001), rfl, ?_⟩
          show sm_I (n + 1) (mz_up (mz_up w 64 1 ((w 64 1) + 1)) 68 1 ((w 68 1) + 1))
          exact sm_I_scr hn hI2 (fun i hi => by
            have hne : ∀ r, sm_scr r = true → i ≠ r := fun r hr e => by
              rw [e, hr] at hi
              cases hi
            simp only [mz_up_ne (hne 64 rfl), mz_up_ne (hne 68 rfl)]) rfl rfl
        · refine mz_doP (R := mz_r121) (as := [.int (xc / 10), .int 1, .int 6]) (rest := []) (r1 := some (.int 1)) (m1 := w) rfl ((cs_in1 (m := w) (v := xc / 10) (a := 1) (b := 6) q7 q8).deep (by decide)) ?_
          refine mz_goP 4 (c' := (47, [some (.ref 0), some (.int xa), some (.int xb), some (.int xc), some (.int xd), some (.int (xc / 10)), some (.int (xc - xc / 10 * 10)), none, none, none, none], [.int 6, .int 1, .int (xc - xc / 10 * 10)], w)) rfl ?_
          by_cases q9 : (xc - xc / 10 * 10) < 1
          · refine mz_doP (R := mz_r121) (as := [.int (xc - xc / 10 * 10), .int 1, .int 6]) (rest := []) (r1 := some (.int 0)) (m1 := w) rfl ((cs_inL (m := w) (v := xc - xc / 10 * 10) (a := 1) (b := 6) q9).deep (by decide)) ?_
            refine mz_goP 3 (c' := (79, [some (.ref 0), some (.int xa), some (.int xb), some (.int xc), some (.int xd), some (.int (xc / 10)), some (.int (xc - xc / 10 * 10)), none, none, none, none], [.int 1, .ref 0], w)) rfl ?_
            refine mz_doP (R := mz_r109) (as := [.ref 0, .int 1]) (rest := []) (r1 := some (.int (-1000001))) (m1 := mz_up w 64 1 ((w 64 1) + 1)) rfl ((cs_err1 (m := w)).deep (by decide)) ?_
            refine mz_retP (r := (some (.int ((-1000001))), mz_up w 64 1 ((w 64 1) + 1))) rfl ⟨(-1000001), rfl, ?_⟩
            refine mz_goP 10 (c' := (14, [some (.ref 65), some (.int xa), some (.int xb), some (.int xc), some (.int xd), some (.int (xc / 10)), some (.int (xc - xc / 10 * 10)), none, none, none], [.int xb, .int xa], mz_up w 64 1 ((w 64 1) + 1))) rfl ?_
            refine mz_doP (R := mz_r131) (as := [.int xa, .int xb]) (rest := []) (r1 := some (.int 1)) (m1 := mz_up w 64 1 ((w 64 1) + 1)) rfl ⟨?_, rfl⟩ ?_
            · refine mz_go 3 (c' := (5, [some (.int xa), some (.int xb)], [.int 100, .int (-100), .int xa], mz_up w 64 1 ((w 64 1) + 1))) rfl ?_
              refine mz_do (R := mz_r128) (as := [.int xa, .int (-100), .int 100]) (rest := []) (r1 := some (.int 1)) (m1 := mz_up w 64 1 ((w 64 1) + 1)) rfl ((ct_in1 (m := mz_up w 64 1 ((w 64 1) + 1)) (v := xa) (a := (-100)) (b := 100) (show ¬ (xa < (-100)) from (sm_plc_of q1).1.1) (show ¬ (100 < xa) from (sm_plc_of q1).1.2)).deep (by decide)) ?_
              refine mz_go 4 (c' := (16, [some (.int xa), some (.int xb)], [.int 100, .int (-100), .int xb], mz_up w 64 1 ((w 64 1) + 1))) rfl ?_
              refine mz_do (R := mz_r128) (as := [.int xb, .int (-100), .int 100]) (rest := []) (r1 := some (.int 1)) (m1 := mz_up w 64 1 ((w 64 1) + 1)) rfl ((ct_in1 (m := mz_up w 64 1 ((w 64 1) + 1)) (v := xb) (a := (-100)) (b := 100) (show ¬ (xb < (-100)) from (sm_plc_of q1).2.1) (show ¬ (100 < xb) from (sm_plc_of q1).2.2)).deep (by decide)) ?_
              refine mz_go 3 (c' := (27, [some (.int xa), some (.int xb)], [.int 1], mz_up w 64 1 ((w 64 1) + 1))) rfl ?_
              exact mz_ret rfl
            refine mz_goP 4 (c' := (25, [some (.ref 65), some (.int xa), some (.int xb), some (.int xc), some (.int xd), some (.int (xc / 10)), some (.int (xc - xc / 10 * 10)), none, none, none], [.int 6, .int 1, .int (xc / 10)], mz_up w 64 1 ((w 64 1) + 1))) rfl ?_
            refine mz_doP (R := mz_r128) (as := [.int (xc / 10), .int 1, .int 6]) (rest := []) (r1 := some (.int 1)) (m1 := mz_up w 64 1 ((w 64 1) + 1)) rfl ((ct_in1 (m := mz_up w 64 1 ((w 64 1) + 1)) (v := xc / 10) (a := 1) (b := 6) q7 q8).deep (by decide)) ?_
            refine mz_goP 4 (c' := (36, [some (.ref 65), some (.int xa), some (.int xb), some (.int xc), some (.int xd), some (.int (xc / 10)), some (.int (xc - xc / 10 * 10)), none, none, none], [.int 6, .int 1, .int (xc - xc / 10 * 10)], mz_up w 64 1 ((w 64 1) + 1))) rfl ?_
            refine mz_doP (R := mz_r128) (as := [.int (xc - xc / 10 * 10), .int 1, .int 6]) (rest := []) (r1 := some (.int 0)) (m1 := mz_up w 64 1 ((w 64 1) + 1)) rfl ((ct_inL (m := mz_up w 64 1 ((w 64 1) + 1)) (v := xc - xc / 10 * 10) (a := 1) (b := 6) q9).deep (by decide)) ?_
            refine mz_goP 7 (c' := (91, [some (.ref 65), some (.int xa), some (.int xb), some (.int xc), some (.int xd), some (.int (xc / 10)), some (.int (xc - xc / 10 * 10)), some (.int 0), none, none], [.int 1, .ref 65], mz_up w 64 1 ((w 64 1) + 1))) rfl ?_
            refine mz_doP (R := mz_r127) (as := [.ref 65, .int 1]) (rest := []) (r1 := some (.int (-1000001))) (m1 := mz_up (mz_up w 64 1 ((w 64 1) + 1)) 68 1 ((w 68 1) + 1)) rfl ((ct_err1 (m := mz_up w 64 1 ((w 64 1) + 1))).deep (by decide)) ?_
            refine mz_retP (r := (some (.int ((-1000001))), mz_up (mz_up w 64 1 ((w 64 1) + 1)) 68 1 ((w 68 1) + 1))) rfl ⟨(-1000001), rfl, ?_⟩
            show sm_I (n + 1) (mz_up (mz_up w 64 1 ((w 64 1) + 1)) 68 1 ((w 68 1) + 1))
            exact sm_I_scr hn hI2 (fun i hi => by
              have hne : ∀ r, sm_scr r = true → i ≠ r := fun r hr e => by
                rw [e, hr] at hi
                cases hi
              simp only [mz_up_ne (hne 64 rfl), mz_up_ne (hne 68 rfl)]) rfl rfl
          · by_cases q10 : 6 < (xc - xc / 10 * 10)
            · refine mz_doP (R := mz_r121) (as := [.int (xc - xc / 10 * 10), .int 1, .int 6]) (rest := []) (r1 := some (.int 0)) (m1 := w) rfl ((cs_inG (m := w) (v := xc - xc / 10 * 10) (a := 1) (b := 6) q9 q10).deep (by decide)) ?_
              refine mz_goP 3 (c' := (79, [some (.ref 0), some (.int xa), some (.int xb), some (.int xc), some (.int xd), some (.int (xc / 10)), some (.int (xc - xc / 10 * 10)), none, none, none, none], [.int 1, .ref 0], w)) rfl ?_
              refine mz_doP (R := mz_r109) (as := [.ref 0, .int 1]) (rest := []) (r1 := some (.int (-1000001))) (m1 := mz_up w 64 1 ((w 64 1) + 1)) rfl ((cs_err1 (m := w)).deep (by decide)) ?_
              refine mz_retP (r := (some (.int ((-1000001))), mz_up w 64 1 ((w 64 1) + 1))) rfl ⟨(-1000001), rfl, ?_⟩
              refine mz_goP 10 (c' := (14, [some (.ref 65), some (.int xa), some (.int xb), some (.int xc), some (.int xd), some (.int (xc / 10)), some (.int (xc - xc / 10 * 10)), none, none, none], [.int xb, .int xa], mz_up w 64 1 ((w 64 1) + 1))) rfl ?_
              refine mz_doP (R := mz_r131) (as := [.int xa, .int xb]) (rest := []) (r1 := some (.int 1)) (m1 := mz_up w 64 1 ((w 64 1) + 1)) rfl ⟨?_, rfl⟩ ?_
              · refine mz_go 3 (c' := (5, [some (.int xa), some (.int xb)], [.int 100, .int (-100), .int xa], mz_up w 64 1 ((w 64 1) + 1))) rfl ?_
                refine mz_do (R := mz_r128) (as := [.int xa, .int (-100), .int 100]) (rest := []) (r1 := some (.int 1)) (m1 := mz_up w 64 1 ((w 64 1) + 1)) rfl ((ct_in1 (m := mz_up w 64 1 ((w 64 1) + 1)) (v := xa) (a := (-100)) (b := 100) (show ¬ (xa < (-100)) from (sm_plc_of q1).1.1) (show ¬ (100 < xa) from (sm_plc_of q1).1.2)).deep (by decide)) ?_
                refine mz_go 4 (c' := (16, [some (.int xa), some (.int xb)], [.int 100, .int (-100), .int xb], mz_up w 64 1 ((w 64 1) + 1))) rfl ?_
                refine mz_do (R := mz_r128) (as := [.int xb, .int (-100), .int 100]) (rest := []) (r1 := some (.int 1)) (m1 := mz_up w 64 1 ((w 64 1) + 1)) rfl ((ct_in1 (m := mz_up w 64 1 ((w 64 1) + 1)) (v := xb) (a := (-100)) (b := 100) (show ¬ (xb < (-100)) from (sm_plc_of q1).2.1) (show ¬ (100 < xb) from (sm_plc_of q1).2.2)).deep (by decide)) ?_
                refine mz_go 3 (c' := (27, [some (.int xa), some (.int xb)], [.int 1], mz_up w 64 1 ((w 64 1) + 1))) rfl ?_
                exact mz_ret rfl
              refine mz_goP 4 (c' := (25, [some (.ref 65), some (.int xa), some (.int xb), some (.int xc), some (.int xd), some (.int (xc / 10)), some (.int (xc - xc / 10 * 10)), none, none, none], [.int 6, .int 1, .int (xc / 10)], mz_up w 64 1 ((w 64 1) + 1))) rfl ?_
              refine mz_doP (R := mz_r128) (as := [.int (xc / 10), .int 1, .int 6]) (rest := []) (r1 := some (.int 1)) (m1 := mz_up w 64 1 ((w 64 1) + 1)) rfl ((ct_in1 (m := mz_up w 64 1 ((w 64 1) + 1)) (v := xc / 10) (a := 1) (b := 6) q7 q8).deep (by decide)) ?_
              refine mz_goP 4 (c' := (36, [some (.ref 65), some (.int xa), some (.int xb), some (.int xc), some (.int xd), some (.int (xc / 10)), some (.int (xc - xc / 10 * 10)), none, none, none], [.int 6, .int 1, .int (xc - xc / 10 * 10)], mz_up w 64 1 ((w 64 1) + 1))) rfl ?_
              refine mz_doP (R := mz_r128) (as := [.int (xc - xc / 10 * 10), .int 1, .int 6]) (rest := []) (r1 := some (.int 0)) (m1 := mz_up w 64 1 ((w 64 1) + 1)) rfl ((ct_inG (m := mz_up w 64 1 ((w 64 1) + 1)) (v := xc - xc / 10 * 10) (a := 1) (b := 6) q9 q10).deep (by decide)) ?_
              refine mz_goP 7 (c' := (91, [some (.ref 65), some (.int xa), some (.int xb), some (.int xc), some (.int xd), some (.int (xc / 10)), some (.int (xc - xc / 10 * 10)), some (.int 0), none, none], [.int 1, .ref 65], mz_up w 64 1 ((w 64 1) + 1))) rfl ?_
              refine mz_doP (R := mz_r127) (as := [.ref 65, .int 1]) (rest := []) (r1 := some (.int (-1000001))) (m1 := mz_up (mz_up w 64 1 ((w 64 1) + 1)) 68 1 ((w 68 1) + 1)) rfl ((ct_err1 (m := mz_up w 64 1 ((w 64 1) + 1))).deep (by decide)) ?_
              refine mz_retP (r := (some (.int ((-1000001))), mz_up (mz_up w 64 1 ((w 64 1) + 1)) 68 1 ((w 68 1) + 1))) rfl ⟨(-1000001), rfl, ?_⟩
              show sm_I (n + 1) (mz_up (mz_up w 64 1 ((w 64 1) + 1)) 68 1 ((w 68 1) + 1))
              exact sm_I_scr hn hI2 (fun i hi => by
                have hne : ∀ r, sm_scr r = true → i ≠ r := fun r hr e => by
                  rw [e, hr] at hi
                  cases hi
                simp only [mz_up_ne (hne 64 rfl), mz_up_ne (hne 68 rfl)]) rfl rfl
            · refine mz_doP (R := mz_r121) (as := [.int (xc - xc / 10 * 10), .int 1, .int 6]) (rest := []) (r1 := some (.int 1)) (m1 := w) rfl ((cs_in1 (m := w) (v := xc - xc / 10 * 10) (a := 1) (b := 6) q9 q10).deep (by decide)) ?_
              refine mz_goP 15 (c' := (71, [some (.ref 0), some (.int xa), some (.int xb), some (.int xc), some (.int xd), some (.int (xc / 10)), some (.int (xc - xc / 10 * 10)), none, none, none, none], [.int (xb + (((xc - xc / 10 * 10) - 1) * xd)), .int (xa + (((xc / 10) - 1) * xd))], w)) rfl ?_
              by_cases q11 : (xa + (((xc / 10) - 1) * xd)) < (-100)
              · refine mz_doP (R := mz_r116) (as := [.int (xa + (((xc / 10) - 1) * xd)), .int (xb + (((xc - xc / 10 * 10) - 1) * xd))]) (rest := []) (r1 := some (.int 0)) (m1 := w) rfl ⟨?_, rfl⟩ ?_
                · refine mz_go 3 (c' := (5, [some (.int (xa + (((xc / 10) - 1) * xd))), some (.int (xb + (((xc - xc / 10 * 10) - 1) * xd)))], [.int 100, .int (-100), .int (xa + (((xc / 10) - 1) * xd))], w)) rfl ?_
                  refine mz_do (R := mz_r121) (as := [.int (xa + (((xc / 10) - 1) * xd)), .int (-100), .int 100]) (rest := []) (r1 := some (.int 0)) (m1 := w) rfl ((cs_inL (m := w) (v := xa + (((xc / 10) - 1) * xd)) (a := (-100)) (b := 100) q11).deep (by decide)) ?_
                  refine mz_go 2 (c' := (27, [some (.int (xa + (((xc / 10) - 1) * xd))), some (.int (xb + (((xc - xc / 10 * 10) - 1) * xd)))], [.int 0], w)) rfl ?_
                  exact mz_ret rfl
                refine mz_goP 3 (c' := (79, [some (.ref 0), some (.int xa), some (.int xb), some (.int xc), some (.int xd), some (.int (xc / 10)), some (.int (xc - xc / 10 * 10)), none, none, none, none], [.int 1, .ref 0], w)) rfl ?_
                refine mz_doP (R := mz_r109) (as := [.ref 0, .int 1]) (rest := []) (r1 := some (.int (-1000001))) (m1 := mz_up w 64 1 ((w 64 1) + 1)) rfl ((cs_err1 (m := w)).deep (by decide)) ?_
                refine mz_retP (r := (some (.int ((-1000001))), mz_up w 64 1 ((w 64 1) + 1))) rfl ⟨(-1000001), rfl, ?_⟩
                refine mz_goP 10 (c' := (14, [some (.ref 65), some (.int xa), some (.int xb), some (.int xc), some (.int xd), some (.int (xc / 10)), some (.int (xc - xc / 10 * 10)), none, none, none], [.int xb, .int xa], mz_up w 64 1 ((w 64 1) + 1))) rfl ?_
                refine mz_doP (R := mz_r131) (as := [.int xa, .int xb]) (rest := []) (r1 := some (.int 1)) (m1 := mz_up w 64 1 ((w 64 1) + 1)) rfl ⟨?_, rfl⟩ ?_
                · refine mz_go 3 (c' := (5, [some (.int xa), some (.int xb)], [.int 100, .int (-100), .int xa], mz_up w 64 1 ((w 64 1) + 1))) rfl ?_
                  refine mz_do (R := mz_r128) (as := [.int xa, .int (-100), .int 100]) (rest := []) (r1 := some (.int 1)) (m1 := mz_up w 64 1 ((w 64 1) + 1)) rfl ((ct_in1 (m := mz_up w 64 1 ((w 64 1) + 1)) (v := xa) (a := (-100)) (b := 100) (show ¬ (xa < (-100)) from (sm_plc_of q1).1.1) (show ¬ (100 < xa) from (sm_plc_of q1).1.2)).deep (by decide)) ?_
                  refine mz_go 4 (c' := (16, [some (.int xa), some (.int xb)], [.int 100, .int (-100), .int xb], mz_up w 64 1 ((w 64 1) + 1))) rfl ?_
                  refine mz_do (R := mz_r128) (as := [.int xb, .int (-100), .int 100]) (rest := []) (r1 := some (.int 1)) (m1 := mz_up w 64 1 ((w 64 1) + 1)) rfl ((ct_in1 (m := mz_up w 64 1 ((w 64 1) + 1)) (v := xb) (a := (-100)) (b := 100) (show ¬ (xb < (-100)) from (sm_plc_of q1).2.1) (show ¬ (100 < xb) from (sm_plc_of q1).2.2)).deep (by decide)) ?_
                  refine mz_go 3 (c' := (27, [some (.int xa), some (.int xb)], [.int 1], mz_up w 64 1 ((w 64 1) + 1))) rfl ?_
                  exact mz_ret rfl
                refine mz_goP 4 (c' := (25, [some (.ref 65), some (.int xa), some (.int xb), some (.int xc), some (.int xd), some (.int (xc / 10)), some (.int (xc - xc / 10 * 10)), none, none, none], [.int 6, .int 1, .int (xc / 10)], mz_up w 64 1 ((w 64 1) + 1))) rfl ?_
                refine mz_doP (R := mz_r128) (as := [.int (xc / 10), .int 1, .int 6]) (rest := []) (r1 := some (.int 1)) (m1 := mz_up w 64 1 ((w 64 1) + 1)) rfl ((ct_in1 (m := mz_up w 64 1 ((w 64 1) + 1)) (v := xc / 10) (a := 1) (b := 6) q7 q8).deep (by decide)) ?_
                refine mz_goP 4 (c' := (36, [some (.ref 65), some (.int xa), some (.int xb), some (.int xc), some (.int xd), some (.int (xc / 10)), some (.int (xc - xc / 10 * 10)), none, none, none], [.int 6, .int 1, .int (xc - xc / 10 * 10)], mz_up w 64 1 ((w 64 1) + 1))) rfl ?_
                refine mz_doP (R := mz_r128) (as := [.int (xc - xc / 10 * 10), .int 1, .int 6]) (rest := []) (r1 := some (.int 1)) (m1 := mz_up w 64 1 ((w 64 1) + 1)) rfl ((ct_in1 (m := mz_up w 64 1 ((w 64 1) + 1)) (v := xc - xc / 10 * 10) (a := 1) (b := 6) q9 q10).deep (by decide)) ?_
                refine mz_goP 4 (c' := (47, [some (.ref 65), some (.int xa), some (.int xb), some (.int xc), some (.int xd), some (.int (xc / 10)), some (.int (xc - xc / 10 * 10)), none, none, none], [.int 40, .int 1, .int xd], mz_up w 64 1 ((w 64 1) + 1))) rfl ?_
                refine mz_doP (R := mz_r128) (as := [.int xd, .int 1, .int 40]) (rest := []) (r1 := some (.int 1)) (m1 := mz_up w 64 1 ((w 64 1) + 1)) rfl ((ct_in1 (m := mz_up w 64 1 ((w 64 1) + 1)) (v := xd) (a := 1) (b := 40) (show ¬ (xd < 1) from (sm_in_lo q2)) (show ¬ (40 < xd) from (sm_in_hi q2))).deep (by decide)) ?_
                refine mz_goP 20 (c' := (83, [some (.ref 65), some (.int xa), some (.int xb), some (.int xc), some (.int xd), some (.int (xc / 10)), some (.int (xc - xc / 10 * 10)), some (.int 1), none, none], [.int (xb + (((xc - xc / 10 * 10) - 1) * xd)), .int (xa + (((xc / 10) - 1) * xd))], mz_up w 64 1 ((w 64 1) + 1))) rfl ?_
                refine mz_doP (R := mz_r131) (as := [.int (xa + (((xc / 10) - 1) * xd)), .int (xb + (((xc - xc / 10 * 10) - 1) * xd))]) (rest := []) (r1 := some (.int 0)) (m1 := mz_up w 64 1 ((w 64 1) + 1)) rfl ⟨?_, rfl⟩ ?_
                · refine mz_go 3 (c' := (5, [some (.int (xa + (((xc / 10) - 1) * xd))), some (.int (xb + (((xc - xc / 10 * 10) - 1) * xd)))], [.int 100, .int (-100), .int (xa + (((xc / 10) - 1) * xd))], mz_up w 64 1 ((w 64 1) + 1))) rfl ?_
                  refine mz_do (R := mz_r128) (as := [.int (xa + (((xc / 10) - 1) * xd)), .int (-100), .int 100]) (rest := []) (r1 := some (.int 0)) (m1 := mz_up w 64 1 ((w 64 1) + 1)) rfl ((ct_inL (m := mz_up w 64 1 ((w 64 1) + 1)) (v := xa + (((xc / 10) - 1) * xd)) (a := (-100)) (b := 100) q11).deep (by decide)) ?_
                  refine mz_go 2 (c' := (27, [some (.int (xa + (((xc / 10) - 1) * xd))), some (.int (xb + (((xc - xc / 10 * 10) - 1) * xd)))], [.int 0], mz_up w 64 1 ((w 64 1) + 1))) rfl ?_
                  exact mz_ret rfl
                refine mz_goP 3 (c' := (91, [some (.ref 65), some (.int xa), some (.int xb), some (.int xc), some (.int xd), some (.int (xc / 10)), some (.int (xc - xc / 10 * 10)), some (.int 1), none, none], [.int 1, .ref 65], mz_up w 64 1 ((w 64 1) + 1))) rfl ?_
                refine mz_doP (R := mz_r127) (as := [.ref 65, .int 1]) (rest := []) (r1 := some (.int (-1000001))) (m1 := mz_up (mz_up w 64 1 ((w 64 1) + 1)) 68 1 ((w 68 1) + 1)) rfl ((ct_err1 (m := mz_up w 64 1 ((w 64 1) + 1))).deep (by decide)) ?_
                refine mz_retP (r := (some (.int ((-1000001))), mz_up (mz_up w 64 1 ((w 64 1) + 1)) 68 1 ((w 68 1) + 1))) rfl ⟨(-1000001), rfl, ?_⟩
                show sm_I (n + 1) (mz_up (mz_up w 64 1 ((w 64 1) + 1)) 68 1 ((w 68 1) + 1))
                exact sm_I_scr hn hI2 (fun i hi => by
                  have hne : ∀ r, sm_scr r = true → i ≠ r := fun r hr e => by
                    rw [e, hr] at hi
                    cases hi
                  simp only [mz_up_ne (hne 64 rfl), mz_up_ne (hne 68 rfl)]) rfl rfl
              · by_cases q12 : 100 < (xa + (((xc / 10) - 1) * xd))
                · refine mz_doP (R := mz_r116) (as := [.int (xa + (((xc / 10) - 1) * xd)), .int (xb + (((xc - xc / 10 * 10) - 1) * xd))]) (rest := []) (r1 := some (.int 0)) (m1 := w) rfl ⟨?_, rfl⟩ ?_
                  · refine mz_go 3 (c' := (5, [some (.int (xa + (((xc / 10) - 1) * xd))), some (.int (xb + (((xc - xc / 10 * 10) - 1) * xd)))], [.int 100, .int (-100), .int (xa + (((xc / 10) - 1) * xd))], w)) rfl ?_
                    refine mz_do (R := mz_r121) (as := [.int (xa + (((xc / 10) - 1) * xd)), .int (-100), .int 100]) (rest := []) (r1 := some (.int 0)) (m1 := w) rfl ((cs_inG (m := w) (v := xa + (((xc / 10) - 1) * xd)) (a := (-100)) (b := 100) q11 q12).deep (by decide)) ?_
                    refine mz_go 2 (c' := (27, [some (.int (xa + (((xc / 10) - 1) * xd))), some (.int (xb + (((xc - xc / 10 * 10) - 1) * xd)))], [.int 0], w)) rfl ?_
                    exact mz_ret rfl
                  refine mz_goP 3 (c' := (79, [some (.ref 0), some (.int xa), some (.int xb), some (.int xc), some (.int xd), some (.int (xc / 10)), some (.int (xc - xc / 10 * 10)), none, none, none, none], [.int 1, .ref 0], w)) rfl ?_
                  refine mz_doP (R := mz_r109) (as := [.ref 0, .int 1]) (rest := []) (r1 := some (.int (-1000001))) (m1 := mz_up w 64 1 ((w 64 1) + 1)) rfl ((cs_err1 (m := w)).deep (by decide)) ?_
                  refine mz_retP (r := (some (.int ((-1000001))), mz_up w 64 1 ((w 64 1) + 1))) rfl ⟨(-1000001), rfl, ?_⟩
                  refine mz_goP 10 (c' := (14, [some (.ref 65), some (.int xa), some (.int xb), some (.int xc), some (.int xd), some (.int (xc / 10)), some (.int (xc - xc / 10 * 10)), none, none, none], [.int xb, .int xa], mz_up w 64 1 ((w 64 1) + 1))) rfl ?_
                  refine mz_doP (R := mz_r131) (as := [.int xa, .int xb]) (rest := []) (r1 := some (.int 1)) (m1 := mz_up w 64 1 ((w 64 1) + 1)) rfl ⟨?_, rfl⟩ ?_
                  · refine mz_go 3 (c' := (5, [some (.int xa), some (.int xb)], [.int 100, .int (-100), .int xa], mz_up w 64 1 ((w 64 1) + 1))) rfl ?_
                    refine mz_do (R := mz_r128) (as := [.int xa, .int (-100), .int 100]) (rest := []) (r1 := some (.int 1)) (m1 := mz_up w 64 1 ((w 64 1) + 1)) rfl ((ct_in1 (m := mz_up w 64 1 ((w 64 1) + 1)) (v := xa) (a := (-100)) (b := 100) (show ¬ (xa < (-100)) from (sm_plc_of q1).1.1) (show ¬ (100 < xa) from (sm_plc_of q1).1.2)).deep (by decide)) ?_
                    refine mz_go 4 (c' := (16, [some (.int xa), some (.int xb)], [.int 100, .int (-100), .int xb], mz_up w 64 1 ((w 64 1) + 1))) rfl ?_
                    refine mz_do (R := mz_r128) (as := [.int xb, .int (-100), .int 100]) (rest := []) (r1 := some (.int 1)) (m1 := mz_up w 64 1 ((w 64 1) + 1)) rfl ((ct_in1 (m := mz_up w 64 1 ((w 64 1) + 1)) (v := xb) (a := (-100)) (b := 100) (show ¬ (xb < (-100)) from (sm_plc_of q1).2.1) (show ¬ (100 < xb) from (sm_plc_of q1).2.2)).deep (by decide)) ?_
                    refine mz_go 3 (c' := (27, [some (.int xa), some (.int xb)], [.int 1], mz_up w 64 1 ((w 64 1) + 1))) rfl ?_
                    exact mz_ret rfl
                  refine mz_goP 4 (c' := (25, [some (.ref 65), some (.int xa), some (.int xb), some (.int xc), some (.int xd), some (.int (xc / 10)), some (.int (xc - xc / 10 * 10)), none, none, none], [.int 6, .int 1, .int (xc / 10)], mz_up w 64 1 ((w 64 1) + 1))) rfl ?_
                  refine mz_doP (R := mz_r128) (as := [.int (xc / 10), .int 1, .int 6]) (rest := []) (r1 := some (.int 1)) (m1 := mz_up w 64 1 ((w 64 1) + 1)) rfl ((ct_in1 (m := mz_up w 64 1 ((w 64 1) + 1)) (v := xc / 10) (a := 1) (b := 6) q7 q8).deep (by decide)) ?_
                  refine mz_goP 4 (c' := (36, [some (.ref 65), some (.int xa), some (.int xb), some (.int xc), some (.int xd), some (.int (xc / 10)), some (.int (xc - xc / 10 * 10)), none, none, none], [.int 6, .int 1, .int (xc - xc / 10 * 10)], mz_up w 64 1 ((w 64 1) + 1))) rfl ?_
                  refine mz_doP (R := mz_r128) (as := [.int (xc - xc / 10 * 10), .int 1, .int 6]) (rest := []) (r1 := some (.int 1)) (m1 := mz_up w 64 1 ((w 64 1) + 1)) rfl ((ct_in1 (m := mz_up w 64 1 ((w 64 1) + 1)) (v := xc - xc / 10 * 10) (a := 1) (b := 6) q9 q10).deep (by decide)) ?_
                  refine mz_goP 4 (c' := (47, [some (.ref 65), some (.int xa), some (.int xb), some (.int xc), some (.int xd), some (.int (xc / 10)), some (.int (xc - xc / 10 * 10)), none, none, none], [.int 40, .int 1, .int xd], mz_up w 64 1 ((w 64 1) + 1))) rfl ?_
                  refine mz_doP (R := mz_r128) (as := [.int xd, .int 1, .int 40]) (rest := []) (r1 := some (.int 1)) (m1 := mz_up w 64 1 ((w 64 1) + 1)) rfl ((ct_in1 (m := mz_up w 64 1 ((w 64 1) + 1)) (v := xd) (a := 1) (b := 40) (show ¬ (xd < 1) from (sm_in_lo q2)) (show ¬ (40 < xd) from (sm_in_hi q2))).deep (by decide)) ?_
                  refine mz_goP 20 (c' := (83, [some (.ref 65), some (.int xa), some (.int xb), some (.int xc), some (.int xd), some (.int (xc / 10)), some (.int (xc - xc / 10 * 10)), some (.int 1), none, none], [.int (xb + (((xc - xc / 10 * 10) - 1) * xd)), .int (xa + (((xc / 10) - 1) * xd))], mz_up w 64 1 ((w 64 1) + 1))) rfl ?_
                  refine mz_doP (R := mz_r131) (as := [.int (xa + (((xc / 10) - 1) * xd)), .int (xb + (((xc - xc / 10 * 10) - 1) * xd))]) (rest := []) (r1 := some (.int 0)) (m1 := mz_up w 64 1 ((w 64 1) + 1)) rfl ⟨?_, rfl⟩ ?_
                  · refine mz_go 3 (c' := (5, [some (.int (xa + (((xc / 10) - 1) * xd))), some (.int (xb + (((xc - xc / 10 * 10) - 1) * xd)))], [.int 100, .int (-100), .int (xa + (((xc / 10) - 1) * xd))], mz_up w 64 1 ((w 64 1) + 1))) rfl ?_
                    refine mz_do (R := mz_r128) (as := [.int (xa + (((xc / 10) - 1) * xd)), .int (-100), .int 100]) (rest := []) (r1 := some (.int 0)) (m1 := mz_up w 64 1 ((w 64 1) + 1)) rfl ((ct_inG (m := mz_up w 64 1 ((w 64 1) + 1)) (v := xa + (((xc / 10) - 1) * xd)) (a := (-100)) (b := 100) q11 q12).deep (by decide)) ?_
                    refine mz_go 2 (c' := (27, [some (.int (xa + (((xc / 10) - 1) * xd))), some (.int (xb + (((xc - xc / 10 * 10) - 1) * xd)))], [.int 0], mz_up w 64 1 ((w 64 1) + 1))) rfl ?_
                    exact mz_ret rfl
                  refine mz_goP 3 (c' := (91, [some (.ref 65), some (.int xa), some (.int xb), some (.int xc), some (.int xd), some (.int (xc / 10)), some (.int (xc - xc / 10 * 10)), some (.int 1), none, none], [.int 1, .ref 65], mz_up w 64 1 ((w 64 1) + 1))) rfl ?_
                  refine mz_doP (R := mz_r127) (as := [.ref 65, .int 1]) (rest := []) (r1 := some (.int (-1000001))) (m1 := mz_up (mz_up w 64 1 ((w 64 1) + 1)) 68 1 ((w 68 1) + 1)) rfl ((ct_err1 (m := mz_up w 64 1 ((w 64 1) + 1))).deep (by decide)) ?_
                  refine mz_retP (r := (some (.int ((-1000001))), mz_up (mz_up w 64 1 ((w 64 1) + 1)) 68 1 ((w 68 1) + 1))) rfl ⟨(-1000001), rfl, ?_⟩
                  show sm_I (n + 1) (mz_up (mz_up w 64 1 ((w 64 1) + 1)) 68 1 ((w 68 1) + 1))
                  exact sm_I_scr hn hI2 (fun i hi => by
                    have hne : ∀ r, sm_scr r = true → i ≠ r := fun r hr e => by
                      rw [e, hr] at hi
                      cases hi
                    simp only [mz_up_ne (hne 64 rfl), mz_up_ne (hne 68 rfl)]) rfl rfl
                · by_cases q13 : (xb + (((xc - xc / 10 * 10) - 1) * xd)) < (-100)
                  · refine mz_doP (R := mz_r116) (as := [.int (xa + (((xc / 10) - 1) * xd)), .int (xb + (((xc - xc / 10 * 10) - 1) * xd))]) (rest := []) (r1 := some (.int 0)) (m1 := w) rfl ⟨?_, rfl⟩ ?_
                    · refine mz_go 3 (c' := (5, [some (.int (xa + (((xc / 10) - 1) * xd))), some (.int (xb + (((xc - xc / 10 * 10) - 1) * xd)))], [.int 100, .int (-100), .int (xa + (((xc / 10) - 1) * xd))], w)) rfl ?_
                      refine mz_do (R := mz_r121) (as := [.int (xa + (((xc / 10) - 1) * xd)), .int (-100), .int 100]) (rest := []) (r1 := some (.int 1)) (m1 := w) rfl ((cs_in1 (m := w) (v := xa + (((xc / 10) - 1) * xd)) (a := (-100)) (b := 100) q11 q12).deep (by decide)) ?_
                      refine mz_go 4 (c' := (16, [some (.int (xa + (((xc / 10) - 1) * xd))), some (.int (xb + (((xc - xc / 10 * 10) - 1) * xd)))], [.int 100, .int (-100), .int (xb + (((xc - xc / 10 * 10) - 1) * xd))], w)) rfl ?_
                      refine mz_do (R := mz_r121) (as := [.int (xb + (((xc - xc / 10 * 10) - 1) * xd)), .int (-100), .int 100]) (rest := []) (r1 := some (.int 0)) (m1 := w) rfl ((cs_inL (m := w) (v := xb + (((xc - xc / 10 * 10) - 1) * xd)) (a := (-100)) (b := 100) q13).deep (by decide)) ?_
                      refine mz_go 2 (c' := (27, [some (.int (xa + (((xc / 10) - 1) * xd))), some (.int (xb + (((xc - xc / 10 * 10) - 1) * xd)))], [.int 0], w)) rfl ?_
                      exact mz_ret rfl
                    refine mz_goP 3 (c' := (79, [some (.ref 0), some (.int xa), some (.int xb), some (.int xc), some (.int xd), some (.int (xc / 10)), some (.int (xc - xc / 10 * 10)), none, none, none, none], [.int 1, .ref 0], w)) rfl ?_
                    refine mz_doP (R := mz_r109) (as := [.ref 0, .int 1]) (rest := []) (r1 := some (.int (-1000001))) (m1 := mz_up w 64 1 ((w 64 1) + 1)) rfl ((cs_err1 (m := w)).deep (by decide)) ?_
                    refine mz_retP (r := (some (.int ((-1000001))), mz_up w 64 1 ((w 64 1) + 1))) rfl ⟨(-1000001), rfl, ?_⟩
                    refine mz_goP 10 (c' := (14, [some (.ref 65), some (.int xa), some (.int xb), some (.int xc), some (.int xd), some (.int (xc / 10)), some (.int (xc - xc / 10 * 10)), none, none, none], [.int xb, .int xa], mz_up w 64 1 ((w 64 1) + 1))) rfl ?_
                    refine mz_doP (R := mz_r131) (as := [.int xa, .int xb]) (rest := []) (r1 := some (.int 1)) (m1 := mz_up w 64 1 ((w 64 1) + 1)) rfl ⟨?_, rfl⟩ ?_
                    · refine mz_go 3 (c' := (5, [some (.int xa), some (.int xb)], [.int 100, .int (-100), .int xa], mz_up w 64 1 ((w 64 1) + 1))) rfl ?_
                      refine mz_do (R := mz_r128) (as := [.int xa, .int (-100), .int 100]) (rest := []) (r1 := some (.int 1)) (m1 := mz_up w 64 1 ((w 64 1) + 1)) rfl ((ct_in1 (m := mz_up w 64 1 ((w 64 1) + 1)) (v := xa) (a := (-100)) (b := 100) (show ¬ (xa < (-100)) from (sm_plc_of q1).1.1) (show ¬ (100 < xa) from (sm_plc_of q1).1.2)).deep (by decide)) ?_
                      refine mz_go 4 (c' := (16, [some (.int xa), some (.int xb)], [.int 100, .int (-100), .int xb], mz_up w 64 1 ((w 64 1) + 1))) rfl ?_
                      refine mz_do (R := mz_r128) (as := [.int xb, .int (-100), .int 100]) (rest := []) (r1 := some (.int 1)) (m1 := mz_up w 64 1 ((w 64 1) + 1)) rfl ((ct_in1 (m := mz_up w 64 1 ((w 64 1) + 1)) (v := xb) (a := (-100)) (b := 100) (show ¬ (xb < (-100)) from (sm_plc_of q1).2.1) (show ¬ (100 < xb) from (sm_plc_of q1).2.2)).deep (by decide)) ?_
                      refine mz_go 3 (c' := (27, [some (.int xa), some (.int xb)], [.int 1], mz_up w 64 1 ((w 64 1) + 1))) rfl ?_
                      exact mz_ret rfl
                    refine mz_goP 4 (c' := (25, [some (.ref 65), some (.int xa), some (.int xb), some (.int xc), some (.int xd), some (.int (xc / 10)), some (.int (xc - xc / 10 * 10)), none, none, none], [.int 6, .int 1, .int (xc / 10)], mz_up w 64 1 ((w 64 1) + 1))) rfl ?_
                    refine mz_doP (R := mz_r128) (as := [.int (xc / 10), .int 1, .int 6]) (rest := []) (r1 := some (.int 1)) (m1 := mz_up w 64 1 ((w 64 1) + 1)) rfl ((ct_in1 (m := mz_up w 64 1 ((w 64 1) + 1)) (v := xc / 10) (a := 1) (b := 6) q7 q8).deep (by decide)) ?_
                    refine mz_goP 4 (c' := (36, [some (.ref 65), some (.int xa), some (.int xb), some (.int xc), some (.int xd), some (.int (xc / 10)), some (.int (xc - xc / 10 * 10)), none, none, none], [.int 6, .int 1, .int (xc - xc / 10 * 10)], mz_up w 64 1 ((w 64 1) + 1))) rfl ?_
                    refine mz_doP (R := mz_r128) (as := [.int (xc - xc / 10 * 10), .int 1, .int 6]) (rest := []) (r1 := some (.int 1)) (m1 := mz_up w 64 1 ((w 64 1) + 1)) rfl ((ct_in1 (m := mz_up w 64 1 ((w 64 1) + 1)) (v := xc - xc / 10 * 10) (a := 1) (b := 6) q9 q10).deep (by decide)) ?_
                    refine mz_goP 4 (c' := (47, [some (.ref 65), some (.int xa), some (.int xb), some (.int xc), some (.int xd), some (.int (xc / 10)), some (.int (xc - xc / 10 * 10)), none, none, none], [.int 40, .int 1, .int xd], mz_up w 64 1 ((w 64 1) + 1))) rfl ?_
                    refine mz_doP (R := mz_r128) (as := [.int xd, .int 1, .int 40]) (rest := []) (r1 := some (.int 1)) (m1 := mz_up w 64 1 ((w 64 1) + 1)) rfl ((ct_in1 (m := mz_up w 64 1 ((w 64 1) + 1)) (v := xd) (a := 1) (b := 40) (show ¬ (xd < 1) from (sm_in_lo q2)) (show ¬ (40 < xd) from (sm_in_hi q2))).deep (by decide)) ?_
                    refine mz_goP 20 (c' := (83, [some (.ref 65), some (.int xa), some (.int xb), some (.int xc), some (.int xd), some (.int (xc / 10)), some (.int (xc - xc / 10 * 10)), some (.int 1), none, none], [.int (xb + (((xc - xc / 10 * 10) - 1) * xd)), .int (xa + (((xc / 10) - 1) * xd))], mz_up w 64 1 ((w 64 1) + 1))) rfl ?_
                    refine mz_doP (R := mz_r131) (as := [.int (xa + (((xc / 10) - 1) * xd)), .int (xb + (((xc - xc / 10 * 10) - 1) * xd))]) (rest := []) (r1 := some (.int 0)) (m1 := mz_up w 64 1 ((w 64 1) + 1)) rfl ⟨?_, rfl⟩ ?_
                    · refine mz_go 3 (c' := (5, [some (.int (xa + (((xc / 10) - 1) * xd))), some (.int (xb + (((xc - xc / 10 * 10) - 1) * xd)))], [.int 100, .int (-100), .int (xa + (((xc / 10) - 1) * xd))], mz_up w 64 1 ((w 64 1) + 1))) rfl ?_
                      refine mz_do (R := mz_r128) (as := [.int (xa + (((xc / 10) - 1) * xd)), .int (-100), .int 100]) (rest := []) (r1 := some (.int 1)) (m1 := mz_up w 64 1 ((w 64 1) + 1)) rfl ((ct_in1 (m := mz_up w 64 1 ((w 64 1) + 1)) (v := xa + (((xc / 10) - 1) * xd)) (a := (-100)) (b := 100) q11 q12).deep (by decide)) ?_
                      refine mz_go 4 (c' := (16, [some (.int (xa + (((xc / 10) - 1) * xd))), some (.int (xb + (((xc - xc / 10 * 10) - 1) * xd)))], [.int 100, .int (-100), .int (xb + (((xc - xc / 10 * 10) - 1) * xd))], mz_up w 64 1 ((w 64 1) + 1))) rfl ?_
                      refine mz_do (R := mz_r128) (as := [.int (xb + (((xc - xc / 10 * 10) - 1) * xd)), .int (-100), .int 100]) (rest := []) (r1 := some (.int 0)) (m1 := mz_up w 64 1 ((w 64 1) + 1)) rfl ((ct_inL (m := mz_up w 64 1 ((w 64 1) + 1)) (v := xb + (((xc - xc / 10 * 10) - 1) * xd)) (a := (-100)) (b := 100) q13).deep (by decide)) ?_
                      refine mz_go 2 (c' := (27, [some (.int (xa + (((xc / 10) - 1) * xd))), some (.int (xb + (((xc - xc / 10 * 10) - 1) * xd)))], [.int 0], mz_up w 64 1 ((w 64 1) + 1))) rfl ?_
                      exact mz_ret rfl
                    refine mz_goP 3 (c' := (91, [some (.ref 65), some (.int xa), some (.int xb), some (.int xc), some (.int xd), some (.int (xc / 10)), some (.int (xc - xc / 10 * 10)), some (.int 1), none, none], [.int 1, .ref 65], mz_up w 64 1 ((w 64 1) + 1))) rfl ?_
                    refine mz_doP (R := mz_r127) (as := [.ref 65, .int 1]) (rest := []) (r1 := some (.int (-1000001))) (m1 := mz_up (mz_up w 64 1 ((w 64 1) + 1)) 68 1 ((w 68 1) + 1)) rfl ((ct_err1 (m := mz_up w 64 1 ((w 64 1) + 1))).deep (by decide)) ?_
                    refine mz_retP (r := (some (.int ((-1000001))), mz_up (mz_up w 64 1 ((w 64 1) + 1)) 68 1 ((w 68 1) + 1))) rfl ⟨(-1000001), rfl, ?_⟩
                    show sm_I (n + 1) (mz_up (mz_up w 64 1 ((w 64 1) + 1)) 68 1 ((w 68 1) + 1))
                    exact sm_I_scr hn hI2 (fun i hi => by
                      have hne : ∀ r, sm_scr r = true → i ≠ r := fun r hr e => by
                        rw [e, hr] at hi
                        cases hi
                      simp only [mz_up_ne (hne 64 rfl), mz_up_ne (hne 68 rfl)]) rfl rfl
                  · by_cases q14 : 100 < (xb + (((xc - xc / 10 * 10) - 1) * xd))
                    · refine mz_doP (R := mz_r116) (as := [.int (xa + (((xc / 10) - 1) * xd)), .int (xb + (((xc - xc / 10 * 10) - 1) * xd))]) (rest := []) (r1 := some (.int 0)) (m1 := w) rfl ⟨?_, rfl⟩ ?_
                      · refine mz_go 3 (c' := (5, [some (.int (xa + (((xc / 10) - 1) * xd))), some (.int (xb + (((xc - xc / 10 * 10) - 1) * xd)))], [.int 100, .int (-100), .int (xa + (((xc / 10) - 1) * xd))], w)) rfl ?_
                        refine mz_do (R := mz_r121) (as := [.int (xa + (((xc / 10) - 1) * xd)), .int (-100), .int 100]) (rest := []) (r1 := some (.int 1)) (m1 := w) rfl ((cs_in1 (m := w) (v := xa + (((xc / 10) - 1) * xd)) (a := (-100)) (b := 100) q11 q12).deep (by decide)) ?_
                        refine mz_go 4 (c' := (16, [some (.int (xa + (((xc / 10) - 1) * xd))), some (.int (xb + (((xc - xc / 10 * 10) - 1) * xd)))], [.int 100, .int (-100), .int (xb + (((xc - xc / 10 * 10) - 1) * xd))], w)) rfl ?_
                        refine mz_do (R := mz_r121) (as := [.int (xb + (((xc - xc / 10 * 10) - 1) * xd)), .int (-100), .int 100]) (rest := []) (r1 := some (.int 0)) (m1 := w) rfl ((cs_inG (m := w) (v := xb + (((xc - xc / 10 * 10) - 1) * xd)) (a := (-100)) (b := 100) q13 q14).deep (by decide)) ?_
                        refine mz_go 2 (c' := (27, [some (.int (xa + (((xc / 10) - 1) * xd))), some (.int (xb + (((xc - xc / 10 * 10) - 1) * xd)))], [.int 0], w)) rfl ?_
                        exact mz_ret rfl
                      refine mz_goP 3 (c' := (79, [some (.ref 0), some (.int xa), some (.int xb), some (.int xc), some (.int xd), some (.int (xc / 10)), some (.int (xc - xc / 10 * 10)), none, none, none, none], [.int 1, .ref 0], w)) rfl ?_
                      refine mz_doP (R := mz_r109) (as := [.ref 0, .int 1]) (rest := []) (r1 := some (.int (-1000001))) (m1 := mz_up w 64 1 ((w 64 1) + 1)) rfl ((cs_err1 (m := w)).deep (by decide)) ?_
                      refine mz_retP (r := (some (.int ((-1000001))), mz_up w 64 1 ((w 64 1) + 1))) rfl ⟨(-1000001), rfl, ?_⟩
                      refine mz_goP 10 (c' := (14, [some (.ref 65), some (.int xa), some (.int xb), some (.int xc), some (.int xd), some (.int (xc / 10)), some (.int (xc - xc / 10 * 10)), none, none, none], [.int xb, .int xa], mz_up w 64 1 ((w 64 1) + 1))) rfl ?_
                      refine mz_doP (R := mz_r131) (as := [.int xa, .int xb]) (rest := []) (r1 := some (.int 1)) (m1 := mz_up w 64 1 ((w 64 1) + 1)) rfl ⟨?_, rfl⟩ ?_
                      · refine mz_go 3 (c' := (5, [some (.int xa), some (.int xb)], [.int 100, .int (-100), .int xa], mz_up w 64 1 ((w 64 1) + 1))) rfl ?_
                        refine mz_do (R := mz_r128) (as := [.int xa, .int (-100), .int 100]) (rest := []) (r1 := some (.int 1)) (m1 := mz_up w 64 1 ((w 64 1) + 1)) rfl ((ct_in1 (m := mz_up w 64 1 ((w 64 1) + 1)) (v := xa) (a := (-100)) (b := 100) (show ¬ (xa < (-100)) from (sm_plc_of q1).1.1) (show ¬ (100 < xa) from (sm_plc_of q1).1.2)).deep (by decide)) ?_
                        refine mz_go 4 (c' := (16, [some (.int xa), some (.int xb)], [.int 100, .int (-100), .int xb], mz_up w 64 1 ((w 64 1) + 1))) rfl ?_
                        refine mz_do (R := mz_r128) (as := [.int xb, .int (-100), .int 100]) (rest := []) (r1 := some (.int 1)) (m1 := mz_up w 64 1 ((w 64 1) + 1)) rfl ((ct_in1 (m := mz_up w 64 1 ((w 64 1) + 1)) (v := xb) (a := (-100)) (b := 100) (show ¬ (xb < (-100)) from (sm_plc_of q1).2.1) (show ¬ (100 < xb) from (sm_plc_of q1).2.2)).deep (by decide)) ?_
                        refine mz_go 3 (c' := (27, [some (.int xa), some (.int xb)], [.int 1], mz_up w 64 1 ((w 64 1) + 1))) rfl ?_
                        exact mz_ret rfl
                      refine mz_goP 4 (c' := (25, [some (.ref 65), some (.int xa), some (.int xb), some (.int xc), some (.int xd), some (.int (xc / 10)), some (.int (xc - xc / 10 * 10)), none, none, none], [.int 6, .int 1, .int (xc / 10)], mz_up w 64 1 ((w 64 1) + 1))) rfl ?_
                      refine mz_doP (R := mz_r128) (as := [.int (xc / 10), .int 1, .int 6]) (rest := []) (r1 := some (.int 1)) (m1 := mz_up w 64 1 ((w 64 1) + 1)) rfl ((ct_in1 (m := mz_up w 64 1 ((w 64 1) + 1)) (v := xc / 10) (a := 1) (b := 6) q7 q8).deep (by decide)) ?_
                      refine mz_goP 4 (c' := (36, [some (.ref 65), some (.int xa), some (.int xb), some (.int xc), some (.int xd), some (.int (xc / 10)), some (.int (xc - xc / 10 * 10)), none, none, none], [.int 6, .int 1, .int (xc - xc / 10 * 10)], mz_up w 64 1 ((w 64 1) + 1))) rfl ?_
                      refine mz_doP (R := mz_r128) (as := [.int (xc - xc / 10 * 10), .int 1, .int 6]) (rest := []) (r1 := some (.int 1)) (m1 := mz_up w 64 1 ((w 64 1) + 1)) rfl ((ct_in1 (m := mz_up w 64 1 ((w 64 1) + 1)) (v := xc - xc / 10 * 10) (a := 1) (b := 6) q9 q10).deep (by decide)) ?_
                      refine mz_goP 4 (c' := (47, [some (.ref 65), some (.int xa), some (.int xb), some (.int xc), some (.int xd), some (.int (xc / 10)), some (.int (xc - xc / 10 * 10)), none, none, none], [.int 40, .int 1, .int xd], mz_up w 64 1 ((w 64 1) + 1))) rfl ?_
                      refine mz_doP (R := mz_r128) (as := [.int xd, .int 1, .int 40]) (rest := []) (r1 := some (.int 1)) (m1 := mz_up w 64 1 ((w 64 1) + 1)) rfl ((ct_in1 (m := mz_up w 64 1 ((w 64 1) + 1)) (v := xd) (a := 1) (b := 40) (show ¬ (xd < 1) from (sm_in_lo q2)) (show ¬ (40 < xd) from (sm_in_hi q2))).deep (by decide)) ?_
                      refine mz_goP 20 (c' := (83, [some (.ref 65), some (.int xa), some (.int xb), some (.int xc), some (.int xd), some (.int (xc / 10)), some (.int (xc - xc / 10 * 10)), some (.int 1), none, none], [.int (xb + (((xc - xc / 10 * 10) - 1) * xd)), .int (xa + (((xc / 10) - 1) * xd))], mz_up w 64 1 ((w 64 1) + 1))) rfl ?_
                      refine mz_doP (R := mz_r131) (as := [.int (xa + (((xc / 10) - 1) * xd)), .int (xb + (((xc - xc / 10 * 10) - 1) * xd))]) (rest := []) (r1 := some (.int 0)) (m1 := mz_up w 64 1 ((w 64 1) + 1)) rfl ⟨?_, rfl⟩ ?_
                      · refine mz_go 3 (c' := (5, [some (.int (xa + (((xc / 10) - 1) * xd))), some (.int (xb + (((xc - xc / 10 * 10) - 1) * xd)))], [.int 100, .int (-100), .int (xa + (((xc / 10) - 1) * xd))], mz_up w 64 1 ((w 64 1) + 1))) rfl ?_
                        refine mz_do (R := mz_r128) (as := [.int (xa + (((xc / 10) - 1) * xd)), .int (-100), .int 100]) (rest := []) (r1 := some (.int 1)) (m1 := mz_up w 64 1 ((w 64 1) + 1)) rfl ((ct_in1 (m := mz_up w 64 1 ((w 64 1) + 1)) (v := xa + (((xc / 10) - 1) * xd)) (a := (-100)) (b := 100) q11 q12).deep (by decide)) ?_
                        refine mz_go 4 (c' := (16, [some (.int (xa + (((xc / 10) - 1) * xd))), some (.int (xb + (((xc - xc / 10 * 10) - 1) * xd)))], [.int 100, .int (-100), .int (xb + (((xc - xc / 10 * 10) - 1) * xd))], mz_up w 64 1 ((w 64 1) + 1))) rfl ?_
                        refine mz_do (R := mz_r128) (as := [.int (xb + (((xc - xc / 10 * 10) - 1) * xd)), .int (-100), .int 100]) (rest := []) (r1 := some (.int 0)) (m1 := mz_up w 64 1 ((w 64 1) + 1)) rfl ((ct_inG (m := mz_up w 64 1 ((w 64 1) + 1)) (v := xb + (((xc - xc / 10 * 10) - 1) * xd)) (a := (-100)) (b := 100) q13 q14).deep (by decide)) ?_
                        refine mz_go 2 (c' := (27, [some (.int (xa + (((xc / 10) - 1) * xd))), some (.int (xb + (((xc - xc / 10 * 10) - 1) * xd)))], [.int 0], mz_up w 64 1 ((w 64 1) + 1))) rfl ?_
                        exact mz_ret rfl
                      refine mz_goP 3 (c' := (91, [some (.ref 65), some (.int xa), some (.int xb), some (.int xc), some (.int xd), some (.int (xc / 10)), some (.int (xc - xc / 10 * 10)), some (.int 1), none, none], [.int 1, .ref 65], mz_up w 64 1 ((w 64 1) + 1))) rfl ?_
                      refine mz_doP (R := mz_r127) (as := [.ref 65, .int 1]) (rest := []) (r1 := some (.int (-1000001))) (m1 := mz_up (mz_up w 64 1 ((w 64 1) + 1)) 68 1 ((w 68 1) + 1)) rfl ((ct_err1 (m := mz_up w 64 1 ((w 64 1) + 1))).deep (by decide)) ?_
                      refine mz_retP (r := (some (.int ((-1000001))), mz_up (mz_up w 64 1 ((w 64 1) + 1)) 68 1 ((w 68 1) + 1))) rfl ⟨(-1000001), rfl, ?_⟩
                      show sm_I (n + 1) (mz_up (mz_up w 64 1 ((w 64 1) + 1)) 68 1 ((w 68 1) + 1))
                      exact sm_I_scr hn hI2 (fun i hi => by
                        have hne : ∀ r, sm_scr r = true → i ≠ r := fun r hr e => by
                          rw [e, hr] at hi
                          cases hi
                        simp only [mz_up_ne (hne 64 rfl), mz_up_ne (hne 68 rfl)]) rfl rfl
                    · refine mz_doP (R := mz_r116) (as := [.int (xa + (((xc / 10) - 1) * xd)), .int (xb + (((xc - xc / 10 * 10) - 1) * xd))]) (rest := []) (r1 := some (.int 1)) (m1 := w) rfl ⟨?_, rfl⟩ ?_
                      · refine mz_go 3 (c' := (5, [some (.int (xa + (((xc / 10) - 1) * xd))), some (.int (xb + (((xc - xc / 10 * 10) - 1) * xd)))], [.int 100, .int (-100), .int (xa + (((xc / 10) - 1) * xd))], w)) rfl ?_
                        refine mz_do (R := mz_r121) (as := [.int (xa + (((xc / 10) - 1) * xd)), .int (-100), .int 100]) (rest := []) (r1 := some (.int 1)) (m1 := w) rfl ((cs_in1 (m := w) (v := xa + (((xc / 10) - 1) * xd)) (a := (-100)) (b := 100) q11 q12).deep (by decide)) ?_
                        refine mz_go 4 (c' := (16, [some (.int (xa + (((xc / 10) - 1) * xd))), some (.int (xb + (((xc - xc / 10 * 10) - 1) * xd)))], [.int 100, .int (-100), .int (xb + (((xc - xc / 10 * 10) - 1) * xd))], w)) rfl ?_
                        refine mz_do (R := mz_r121) (as := [.int (xb + (((xc - xc / 10 * 10) - 1) * xd)), .int (-100), .int 100]) (rest := []) (r1 := some (.int 1)) (m1 := w) rfl ((cs_in1 (m := w) (v := xb + (((xc - xc / 10 * 10) - 1) * xd)) (a := (-100)) (b := 100) q13 q14).deep (by decide)) ?_
                        refine mz_go 3 (c' := (27, [some (.int (xa + (((xc / 10) - 1) * xd))), some (.int (xb + (((xc - xc / 10 * 10) - 1) * xd)))], [.int 1], w)) rfl ?_
                        exact mz_ret rfl
                      refine mz_goP 11 (c' := (102, [some (.ref 0), some (.int xa), some (.int xb), some (.int xc), some (.int xd), some (.int (xc / 10)), some (.int (xc - xc / 10 * 10)), some (.ref 20), none, none, none], [.int xd, .int (xc - xc / 10 * 10), .int (xc / 10), .int xb, .int xa, .ref 20], w)) rfl ?_
                      refine mz_doP (R := mz_r5) (as := [.ref 20, .int xa, .int xb, .int (xc / 10), .int (xc - xc / 10 * 10), .int xd]) (rest := []) (r1 := none) (m1 := mz_up (mz_up (mz_up (mz_up (mz_up w 20 0 xa) 20 1 xb) 20 2 (xc / 10)) 20 3 (xc - xc / 10 * 10)) 20 4 xd) rfl ⟨?_, rfl⟩ ?_
                      · refine mz_go 15 (c' := (27, [some (.ref 20), some (.int xa), some (.int xb), some (.int (xc / 10)), some (.int (xc - xc / 10 * 10)), some (.int xd)], [], mz_up (mz_up (mz_up (mz_up (mz_up w 20 0 xa) 20 1 xb) 20 2 (xc / 10)) 20 3 (xc - xc / 10 * 10)) 20 4 xd)) rfl ?_
                        exact mz_ret rfl
                      refine mz_goP 2 (c' := (108, [some (.ref 0), some (.int xa), some (.int xb), some (.int xc), some (.int xd), some (.int (xc / 10)), some (.int (xc - xc / 10 * 10)), some (.ref 20), some (.int 0), none, none], [], mz_up (mz_up (mz_up (mz_up (mz_up w 20 0 xa) 20 1 xb) 20 2 (xc / 10)) 20 3 (xc - xc / 10 * 10)) 20 4 xd)) rfl ?_
                      obtain ⟨PW, hPW1, hPW6, ePW⟩ := sm_rngN (x := xc / 10) (a := 1) (b := 6) (by decide) (by decide) q7 q8
                      obtain ⟨PH, hPH1, hPH6, ePH⟩ := sm_rngN (x := xc - xc / 10 * 10) (a := 1) (b := 6) (by decide) (by decide) q9 q10
                      obtain ⟨PS, hPS1, hPS, ePS⟩ := sm_rngN (x := xd) (a := 1) (b := 40) (by decide) (by decide) (sm_in_lo q2) (sm_in_hi q2)
                      have hBX : ∀ k, k < PW → sm_B 100 (xa + nI k * xd) := fun k hk => sm_picB (sm_B_of (sm_plc_of q1).1.1 (sm_plc_of q1).1.2) (sm_B_of q11 q12) ePW ePS hPW1 hPW6 hPS hk
                      have hBY : ∀ k, k < PH → sm_B 100 (xb + nI k * xd) := fun k hk => sm_picB (sm_B_of (sm_plc_of q1).2.1 (sm_plc_of q1).2.2) (sm_B_of q13 q14) ePH ePS hPH1 hPH6 hPS hk
                      obtain ⟨rP, fP, gP, p9, pp, EP⟩ := cs_picj (m := mz_up (mz_up (mz_up (mz_up (mz_up w 20 0 xa) 20 1 xb) 20 2 (nI PW)) 20 3 (nI PH)) 20 4 xd) (w := w) (sm_Wl_u (by decide) (sm_Wl_u (by decide) (sm_Wl_u (by decide) (sm_Wl_u (by decide) (sm_Wl_u (by decide) (sm_Wl_r w)))))) hw hr5 hr80 (W := PW) (H := PH) hPW6 hPH6 rfl rfl (xc := xc) hBX hBY PH 0 (by omega) (w 50) (w 51) (w 52) none none
                      rw [sm_pic_0, sm_pic_0, show mz_set (mz_set (mz_set (mz_set (mz_set (mz_up (mz_up (mz_up (mz_up (mz_up w 20 0 xa) 20 1 xb) 20 2 (nI PW)) 20 3 (nI PH)) 20 4 xd) 21 ((mz_up (mz_up (mz_up (mz_up (mz_up w 20 0 xa) 20 1 xb) 20 2 (nI PW)) 20 3 (nI PH)) 20 4 xd) 21)) 22 ((mz_up (mz_up (mz_up (mz_up (mz_up w 20 0 xa) 20 1 xb) 20 2 (nI PW)) 20 3 (nI PH)) 20 4 xd) 22)) 50 (w 50)) 51 (w 51)) 52 (w 52) = mz_up (mz_up (mz_up (mz_up (mz_up w 20 0 xa) 20 1 xb) 20 2 (nI PW)) 20 3 (nI PH)) 20 4 xd from (sm_of5 (fun i _ _ _ _ _ => rfl)).symm] at EP
                      rw [ePH, ePW]
                      refine mz_hkP EP ?_
                      refine mz_goP 1 (c' := (194, [some (.ref 0), some (.int xa), some (.int xb), some (.int xc), some (.int xd), some (.int (nI PW)), some (.int (nI PH)), some (.ref 20), some (.int (nI PH)), p9, pp], [.ref 20], mz_set (mz_set (mz_set (mz_set (mz_set (mz_up (mz_up (mz_up (mz_up (mz_up w 20 0 xa) 20 1 xb) 20 2 (nI PW)) 20 3 (nI PH)) 20 4 xd) 21 (sm_pic PW PH 0 (fun i j => sm_end w (w 7 5) (xa + nI i * xd) (xb + nI j * xd) 0 0) ((mz_up (mz_up (mz_up (mz_up (mz_up w 20 0 xa) 20 1 xb) 20 2 (nI PW)) 20 3 (nI PH)) 20 4 xd) 21))) 22 (sm_pic PW PH 0 (fun i j => sm_last w (w 7 5) (xa + nI i * xd) (xb + nI j * xd) 0 0 4) ((mz_up (mz_up (mz_up (mz_up (mz_up w 20 0 xa) 20 1 xb) 20 2 (nI PW)) 20 3 (nI PH)) 20 4 xd) 22))) 50 rP) 51 fP) 52 gP)) rfl ?_
                      obtain ⟨ve1, Ee1⟩ := xc_cols (m := mz_set (mz_set (mz_set (mz_set (mz_set (mz_up (mz_up (mz_up (mz_up (mz_up w 20 0 xa) 20 1 xb) 20 2 (nI PW)) 20 3 (nI PH)) 20 4 xd) 21 (sm_pic PW PH 0 (fun i j => sm_end w (w 7 5) (xa + nI i * xd) (xb + nI j * xd) 0 0) ((mz_up (mz_up (mz_up (mz_up (mz_up w 20 0 xa) 20 1 xb) 20 2 (nI PW)) 20 3 (nI PH)) 20 4 xd) 21))) 22 (sm_pic PW PH 0 (fun i j => sm_last w (w 7 5) (xa + nI i * xd) (xb + nI j * xd) 0 0 4) ((mz_up (mz_up (mz_up (mz_up (mz_up w 20 0 xa) 20 1 xb) 20 2 (nI PW)) 20 3 (nI PH)) 20 4 xd) 22))) 50 rP) 51 fP) 52 gP) (WW := PW) (HH := PH) hPW6 hPH6 rfl rfl
                      refine mz_doP (R := mz_r11) (as := [.ref 20]) (rest := []) (r1 := some (.int ve1)) (m1 := mz_set (mz_set (mz_set (mz_set (mz_set (mz_up (mz_up (mz_up (mz_up (mz_up w 20 0 xa) 20 1 xb) 20 2 (nI PW)) 20 3 (nI PH)) 20 4 xd) 21 (sm_pic PW PH 0 (fun i j => sm_end w (w 7 5) (xa + nI i * xd) (xb + nI j * xd) 0 0) ((mz_up (mz_up (mz_up (mz_up (mz_up w 20 0 xa) 20 1 xb) 20 2 (nI PW)) 20 3 (nI PH)) 20 4 xd) 21))) 22 (sm_pic PW PH 0 (fun i j => sm_last w (w 7 5) (xa + nI i * xd) (xb + nI j * xd) 0 0 4) ((mz_up (mz_up (mz_up (mz_up (mz_up w 20 0 xa) 20 1 xb) 20 2 (nI PW)) 20 3 (nI PH)) 20 4 xd) 22))) 50 rP) 51 fP) 52 gP) rfl (Ee1.deep (by decide)) ?_
                      refine mz_retP (r := (some (.int (ve1)), mz_set (mz_set (mz_set (mz_set (mz_set (mz_up (mz_up (mz_up (mz_up (mz_up w 20 0 xa) 20 1 xb) 20 2 (nI PW)) 20 3 (nI PH)) 20 4 xd) 21 (sm_pic PW PH 0 (fun i j => sm_end w (w 7 5) (xa + nI i * xd) (xb + nI j * xd) 0 0) ((mz_up (mz_up (mz_up (mz_up (mz_up w 20 0 xa) 20 1 xb) 20 2 (nI PW)) 20 3 (nI PH)) 20 4 xd) 21))) 22 (sm_pic PW PH 0 (fun i j => sm_last w (w 7 5) (xa + nI i * xd) (xb + nI j * xd) 0 0 4) ((mz_up (mz_up (mz_up (mz_up (mz_up w 20 0 xa) 20 1 xb) 20 2 (nI PW)) 20 3 (nI PH)) 20 4 xd) 22))) 50 rP) 51 fP) 52 gP)) rfl ⟨ve1, rfl, ?_⟩
                      refine mz_goP 10 (c' := (14, [some (.ref 65), some (.int xa), some (.int xb), some (.int xc), some (.int xd), some (.int (xc / 10)), some (.int (xc - xc / 10 * 10)), none, none, none], [.int xb, .int xa], mz_set (mz_set (mz_set (mz_set (mz_set (mz_up (mz_up (mz_up (mz_up (mz_up w 20 0 xa) 20 1 xb) 20 2 (nI PW)) 20 3 (nI PH)) 20 4 xd) 21 (sm_pic PW PH 0 (fun i j => sm_end w (w 7 5) (xa + nI i * xd) (xb + nI j * xd) 0 0) ((mz_up (mz_up (mz_up (mz_up (mz_up w 20 0 xa) 20 1 xb) 20 2 (nI PW)) 20 3 (nI PH)) 20 4 xd) 21))) 22 (sm_pic PW PH 0 (fun i j => sm_last w (w 7 5) (xa + nI i * xd) (xb + nI j * xd) 0 0 4) ((mz_up (mz_up (mz_up (mz_up (mz_up w 20 0 xa) 20 1 xb) 20 2 (nI PW)) 20 3 (nI PH)) 20 4 xd) 22))) 50 rP) 51 fP) 52 gP)) rfl ?_
                      refine mz_doP (R := mz_r131) (as := [.int xa, .int xb]) (rest := []) (r1 := some (.int 1)) (m1 := mz_set (mz_set (mz_set (mz_set (mz_set (mz_up (mz_up (mz_up (mz_up (mz_up w 20 0 xa) 20 1 xb) 20 2 (nI PW)) 20 3 (nI PH)) 20 4 xd) 21 (sm_pic PW PH 0 (fun i j => sm_end w (w 7 5) (xa + nI i * xd) (xb + nI j * xd) 0 0) ((mz_up (mz_up (mz_up (mz_up (mz_up w 20 0 xa) 20 1 xb) 20 2 (nI PW)) 20 3 (nI PH)) 20 4 xd) 21))) 22 (sm_pic PW PH 0 (fun i j => sm_last w (w 7 5) (xa + nI i * xd) (xb + nI j * xd) 0 0 4) ((mz_up (mz_up (mz_up (mz_up (mz_up w 20 0 xa) 20 1 xb) 20 2 (nI PW)) 20 3 (nI PH)) 20 4 xd) 22))) 50 rP) 51 fP) 52 gP) rfl ⟨?_, rfl⟩ ?_
                      · refine mz_go 3 (c' := (5, [some (.int xa), some (.int xb)], [.int 100, .int (-100), .int xa], mz_set (mz_set (mz_set (mz_set (mz_set (mz_up (mz_up (mz_up (mz_up (mz_up w 20 0 xa) 20 1 xb) 20 2 (nI PW)) 20 3 (nI PH)) 20 4 xd) 21 (sm_pic PW PH 0 (fun i j => sm_end w (w 7 5) (xa + nI i * xd) (xb + nI j * xd) 0 0) ((mz_up (mz_up (mz_up (mz_up (mz_up w 20 0 xa) 20 1 xb) 20 2 (nI PW)) 20 3 (nI PH)) 20 4 xd) 21))) 22 (sm_pic PW PH 0 (fun i j => sm_last w (w 7 5) (xa + nI i * xd) (xb + nI j * xd) 0 0 4) ((mz_up (mz_up (mz_up (mz_up (mz_up w 20 0 xa) 20 1 xb) 20 2 (nI PW)) 20 3 (nI PH)) 20 4 xd) 22))) 50 rP) 51 fP) 52 gP)) rfl ?_
                        refine mz_do (R := mz_r128) (as := [.int xa, .int (-100), .int 100]) (rest := []) (r1 := some (.int 1)) (m1 := mz_set (mz_set (mz_set (mz_set (mz_set (mz_up (mz_up (mz_up (mz_up (mz_up w 20 0 xa) 20 1 xb) 20 2 (nI PW)) 20 3 (nI PH)) 20 4 xd) 21 (sm_pic PW PH 0 (fun i j => sm_end w (w 7 5) (xa + nI i * xd) (xb + nI j * xd) 0 0) ((mz_up (mz_up (mz_up (mz_up (mz_up w 20 0 xa) 20 1 xb) 20 2 (nI PW)) 20 3 (nI PH)) 20 4 xd) 21))) 22 (sm_pic PW PH 0 (fun i j => sm_last w (w 7 5) (xa + nI i * xd) (xb + nI j * xd) 0 0 4) ((mz_up (mz_up (mz_up (mz_up (mz_up w 20 0 xa) 20 1 xb) 20 2 (nI PW)) 20 3 (nI PH)) 20 4 xd) 22))) 50 rP) 51 fP) 52 gP) rfl ((ct_in1 (m := mz_set (mz_set (mz_set (mz_set (mz_set (mz_up (mz_up (mz_up (mz_up (mz_up w 20 0 xa) 20 1 xb) 20 2 (nI PW)) 20 3 (nI PH)) 20 4 xd) 21 (sm_pic PW PH 0 (fun i j => sm_end w (w 7 5) (xa + nI i * xd) (xb + nI j * xd) 0 0) ((mz_up (mz_up (mz_up (mz_up (mz_up w 20 0 xa) 20 1 xb) 20 2 (nI PW)) 20 3 (nI PH)) 20 4 xd) 21))) 22 (sm_pic PW PH 0 (fun i j => sm_last w (w 7 5) (xa + nI i * xd) (xb + nI j * xd) 0 0 4) ((mz_up (mz_up (mz_up (mz_up (mz_up w 20 0 xa) 20 1 xb) 20 2 (nI PW)) 20 3 (nI PH)) 20 4 xd) 22))) 50 rP) 51 fP) 52 gP) (v := xa) (a := (-100)) (b := 100) (show ¬ (xa < (-100)) from (sm_plc_of q1).1.1) (show ¬ (100 < xa) from (sm_plc_of q1).1.2)).deep (by decide)) ?_
                        refine mz_go 4 (c' := (16, [some (.int xa), some (.int xb)], [.int 100, .int (-100), .int xb], mz_set (mz_set (mz_set (mz_set (mz_set (mz_up (mz_up (mz_up (mz_up (mz_up w 20 0 xa) 20 1 xb) 20 2 (nI PW)) 20 3 (nI PH)) 20 4 xd) 21 (sm_pic PW PH 0 (fun i j => sm_end w (w 7 5) (xa + nI i * xd) (xb + nI j * xd) 0 0) ((mz_up (mz_up (mz_up (mz_up (mz_up w 20 0 xa) 20 1 xb) 20 2 (nI PW)) 20 3 (nI PH)) 20 4 xd) 21))) 22 (sm_pic PW PH 0 (fun i j => sm_last w (w 7 5) (xa + nI i * xd) (xb + nI j * xd) 0 0 4) ((mz_up (mz_up (mz_up (mz_up (mz_up w 20 0 xa) 20 1 xb) 20 2 (nI PW)) 20 3 (nI PH)) 20 4 xd) 22))) 50 rP) 51 fP) 52 gP)) rfl ?_
                        refine mz_do (R := mz_r128) (as := [.int xb, .int (-100), .int 100]) (rest := []) (r1 := some (.int 1)) (m1 := mz_set (mz_set (mz_set (mz_set (mz_set (mz_up (mz_up (mz_up (mz_up (mz_up w 20 0 xa) 20 1 xb) 20 2 (nI PW)) 20 3 (nI PH)) 20 4 xd) 21 (sm_pic PW PH 0 (fun i j => sm_end w (w 7 5) (xa + nI i * xd) (xb + nI j * xd) 0 0) ((mz_up (mz_up (mz_up (mz_up (mz_up w 20 0 xa) 20 1 xb) 20 2 (nI PW)) 20 3 (nI PH)) 20 4 xd) 21))) 22 (sm_pic PW PH 0 (fun i j => sm_last w (w 7 5) (xa + nI i * xd) (xb + nI j * xd) 0 0 4) ((mz_up (mz_up (mz_up (mz_up (mz_up w 20 0 xa) 20 1 xb) 20 2 (nI PW)) 20 3 (nI PH)) 20 4 xd) 22))) 50 rP) 51 fP) 52 gP) rfl ((ct_in1 (m := mz_set (mz_set (mz_set (mz_set (mz_set (mz_up (mz_up (mz_up (mz_up (mz_up w 20 0 xa) 20 1 xb) 20 2 (nI PW)) 20 3 (nI PH)) 20 4 xd) 21 (sm_pic PW PH 0 (fun i j => sm_end w (w 7 5) (xa + nI i * xd) (xb + nI j * xd) 0 0) ((mz_up (mz_up (mz_up (mz_up (mz_up w 20 0 xa) 20 1 xb) 20 2 (nI PW)) 20 3 (nI PH)) 20 4 xd) 21))) 22 (sm_pic PW PH 0 (fun i j => sm_last w (w 7 5) (xa + nI i * xd) (xb + nI j * xd) 0 0 4) ((mz_up (mz_up (mz_up (mz_up (mz_up w 20 0 xa) 20 1 xb) 20 2 (nI PW)) 20 3 (nI PH)) 20 4 xd) 22))) 50 rP) 51 fP) 52 gP) (v := xb) (a := (-100)) (b := 100) (show ¬ (xb < (-100)) from (sm_plc_of q1).2.1) (show ¬ (100 < xb) from (sm_plc_of q1).2.2)).deep (by decide)) ?_
                        refine mz_go 3 (c' := (27, [some (.int xa), some (.int xb)], [.int 1], mz_set (mz_set (mz_set (mz_set (mz_set (mz_up (mz_up (mz_up (mz_up (mz_up w 20 0 xa) 20 1 xb) 20 2 (nI PW)) 20 3 (nI PH)) 20 4 xd) 21 (sm_pic PW PH 0 (fun i j => sm_end w (w 7 5) (xa + nI i * xd) (xb + nI j * xd) 0 0) ((mz_up (mz_up (mz_up (mz_up (mz_up w 20 0 xa) 20 1 xb) 20 2 (nI PW)) 20 3 (nI PH)) 20 4 xd) 21))) 22 (sm_pic PW PH 0 (fun i j => sm_last w (w 7 5) (xa + nI i * xd) (xb + nI j * xd) 0 0 4) ((mz_up (mz_up (mz_up (mz_up (mz_up w 20 0 xa) 20 1 xb) 20 2 (nI PW)) 20 3 (nI PH)) 20 4 xd) 22))) 50 rP) 51 fP) 52 gP)) rfl ?_
                        exact mz_ret rfl
                      refine mz_goP 4 (c' := (25, [some (.ref 65), some (.int xa), some (.int xb), some (.int xc), some (.int xd), some (.int (xc / 10)), some (.int (xc - xc / 10 * 10)), none, none, none], [.int 6, .int 1, .int (xc / 10)], mz_set (mz_set (mz_set (mz_set (mz_set (mz_up (mz_up (mz_up (mz_up (mz_up w 20 0 xa) 20 1 xb) 20 2 (nI PW)) 20 3 (nI PH)) 20 4 xd) 21 (sm_pic PW PH 0 (fun i j => sm_end w (w 7 5) (xa + nI i * xd) (xb + nI j * xd) 0 0) ((mz_up (mz_up (mz_up (mz_up (mz_up w 20 0 xa) 20 1 xb) 20 2 (nI PW)) 20 3 (nI PH)) 20 4 xd) 21))) 22 (sm_pic PW PH 0 (fun i j => sm_last w (w 7 5) (xa + nI i * xd) (xb + nI j * xd) 0 0 4) ((mz_up (mz_up (mz_up (mz_up (mz_up w 20 0 xa) 20 1 xb) 20 2 (nI PW)) 20 3 (nI PH)) 20 4 xd) 22))) 50 rP) 51 fP) 52 gP)) rfl ?_
                      refine mz_doP (R := mz_r128) (as := [.int (xc / 10), .int 1, .int 6]) (rest := []) (r1 := some (.int 1)) (m1 := mz_set (mz_set (mz_set (mz_set (mz_set (mz_up (mz_up (mz_up (mz_up (mz_up w 20 0 xa) 20 1 xb) 20 2 (nI PW)) 20 3 (nI PH)) 20 4 xd) 21 (sm_pic PW PH 0 (fun i j => sm_end w (w 7 5) (xa + nI i * xd) (xb + nI j * xd) 0 0) ((mz_up (mz_up (mz_up (mz_up (mz_up w 20 0 xa) 20 1 xb) 20 2 (nI PW)) 20 3 (nI PH)) 20 4 xd) 21))) 22 (sm_pic PW PH 0 (fun i j => sm_last w (w 7 5) (xa + nI i * xd) (xb + nI j * xd) 0 0 4) ((mz_up (mz_up (mz_up (mz_up (mz_up w 20 0 xa) 20 1 xb) 20 2 (nI PW)) 20 3 (nI PH)) 20 4 xd) 22))) 50 rP) 51 fP) 52 gP) rfl ((ct_in1 (m := mz_set (mz_set (mz_set (mz_set (mz_set (mz_up (mz_up (mz_up (mz_up (mz_up w 20 0 xa) 20 1 xb) 20 2 (nI PW)) 20 3 (nI PH)) 20 4 xd) 21 (sm_pic PW PH 0 (fun i j => sm_end w (w 7 5) (xa + nI i * xd) (xb + nI j * xd) 0 0) ((mz_up (mz_up (mz_up (mz_up (mz_up w 20 0 xa) 20 1 xb) 20 2 (nI PW)) 20 3 (nI PH)) 20 4 xd) 21))) 22 (sm_pic PW PH 0 (fun i j => sm_last w (w 7 5) (xa + nI i * xd) (xb + nI j * xd) 0 0 4) ((mz_up (mz_up (mz_up (mz_up (mz_up w 20 0 xa) 20 1 xb) 20 2 (nI PW)) 20 3 (nI PH)) 20 4 xd) 22))) 50 rP) 51 fP) 52 gP) (v := xc / 10) (a := 1) (b := 6) q7 q8).deep (by decide)) ?_
                      refine mz_goP 4 (c' := (36, [some (.ref 65), some (.int xa), some (.int xb), some (.int xc), some (.int xd), some (.int (xc / 10)), some (.int (xc - xc / 10 * 10)), none, none, none], [.int 6, .int 1, .int (xc - xc / 10 * 10)], mz_set (mz_set (mz_set (mz_set (mz_set (mz_up (mz_up (mz_up (mz_up (mz_up w 20 0 xa) 20 1 xb) 20 2 (nI PW)) 20 3 (nI PH)) 20 4 xd) 21 (sm_pic PW PH 0 (fun i j => sm_end w (w 7 5) (xa + nI i * xd) (xb + nI j * xd) 0 0) ((mz_up (mz_up (mz_up (mz_up (mz_up w 20 0 xa) 20 1 xb) 20 2 (nI PW)) 20 3 (nI PH)) 20 4 xd) 21))) 22 (sm_pic PW PH 0 (fun i j => sm_last w (w 7 5) (xa + nI i * xd) (xb + nI j * xd) 0 0 4) ((mz_up (mz_up (mz_up (mz_up (mz_up w 20 0 xa) 20 1 xb) 20 2 (nI PW)) 20 3 (nI PH)) 20 4 xd) 22))) 50 rP) 51 fP) 52 gP)) rfl ?_
                      refine mz_doP (R := mz_r128) (as := [.int (xc - xc / 10 * 10), .int 1, .int 6]) (rest := []) (r1 := some (.int 1)) (m1 := mz_set (mz_set (mz_set (mz_set (mz_set (mz_up (mz_up (mz_up (mz_up (mz_up w 20 0 xa) 20 1 xb) 20 2 (nI PW)) 20 3 (nI PH)) 20 4 xd) 21 (sm_pic PW PH 0 (fun i j => sm_end w (w 7 5) (xa + nI i * xd) (xb + nI j * xd) 0 0) ((mz_up (mz_up (mz_up (mz_up (mz_up w 20 0 xa) 20 1 xb) 20 2 (nI PW)) 20 3 (nI PH)) 20 4 xd) 21))) 22 (sm_pic PW PH 0 (fun i j => sm_last w (w 7 5) (xa + nI i * xd) (xb + nI j * xd) 0 0 4) ((mz_up (mz_up (mz_up (mz_up (mz_up w 20 0 xa) 20 1 xb) 20 2 (nI PW)) 20 3 (nI PH)) 20 4 xd) 22))) 50 rP) 51 fP) 52 gP) rfl ((ct_in1 (m := mz_set (mz_set (mz_set (mz_set (mz_set (mz_up (mz_up (mz_up (mz_up (mz_up w 20 0 xa) 20 1 xb) 20 2 (nI PW)) 20 3 (nI PH)) 20 4 xd) 21 (sm_pic PW PH 0 (fun i j => sm_end w (w 7 5) (xa + nI i * xd) (xb + nI j * xd) 0 0) ((mz_up (mz_up (mz_up (mz_up (mz_up w 20 0 xa) 20 1 xb) 20 2 (nI PW)) 20 3 (nI PH)) 20 4 xd) 21))) 22 (sm_pic PW PH 0 (fun i j => sm_last w (w 7 5) (xa + nI i * xd) (xb + nI j * xd) 0 0 4) ((mz_up (mz_up (mz_up (mz_up (mz_up w 20 0 xa) 20 1 xb) 20 2 (nI PW)) 20 3 (nI PH)) 20 4 xd) 22))) 50 rP) 51 fP) 52 gP) (v := xc - xc / 10 * 10) (a := 1) (b := 6) q9 q10).deep (by decide)) ?_
                      refine mz_goP 4 (c' := (47, [some (.ref 65), some (.int xa), some (.int xb), some (.int xc), some (.int xd), some (.int (xc / 10)), some (.int (xc - xc / 10 * 10)), none, none, none], [.int 40, .int 1, .int xd], mz_set (mz_set (mz_set (mz_set (mz_set (mz_up (mz_up (mz_up (mz_up (mz_up w 20 0 xa) 20 1 xb) 20 2 (nI PW)) 20 3 (nI PH)) 20 4 xd) 21 (sm_pic PW PH 0 (fun i j => sm_end w (w 7 5) (xa + nI i * xd) (xb + nI j * xd) 0 0) ((mz_up (mz_up (mz_up (mz_up (mz_up w 20 0 xa) 20 1 xb) 20 2 (nI PW)) 20 3 (nI PH)) 20 4 xd) 21))) 22 (sm_pic PW PH 0 (fun i j => sm_last w (w 7 5) (xa + nI i * xd) (xb + nI j * xd) 0 0 4) ((mz_up (mz_up (mz_up (mz_up (mz_up w 20 0 xa) 20 1 xb) 20 2 (nI PW)) 20 3 (nI PH)) 20 4 xd) 22))) 50 rP) 51 fP) 52 gP)) rfl ?_
                      refine mz_doP (R := mz_r128) (as := [.int xd, .int 1, .int 40]) (rest := []) (r1 := some (.int 1)) (m1 := mz_set (mz_set (mz_set (mz_set (mz_set (mz_up (mz_up (mz_up (mz_up (mz_up w 20 0 xa) 20 1 xb) 20 2 (nI PW)) 20 3 (nI PH)) 20 4 xd) 21 (sm_pic PW PH 0 (fun i j => sm_end w (w 7 5) (xa + nI i * xd) (xb + nI j * xd) 0 0) ((mz_up (mz_up (mz_up (mz_up (mz_up w 20 0 xa) 20 1 xb) 20 2 (nI PW)) 20 3 (nI PH)) 20 4 xd) 21))) 22 (sm_pic PW PH 0 (fun i j => sm_last w (w 7 5) (xa + nI i * xd) (xb + nI j * xd) 0 0 4) ((mz_up (mz_up (mz_up (mz_up (mz_up w 20 0 xa) 20 1 xb) 20 2 (nI PW)) 20 3 (nI PH)) 20 4 xd) 22))) 50 rP) 51 fP) 52 gP) rfl ((ct_in1 (m := mz_set (mz_set (mz_set (mz_set (mz_set (mz_up (mz_up (mz_up (mz_up (mz_up w 20 0 xa) 20 1 xb) 20 2 (nI PW)) 20 3 (nI PH)) 20 4 xd) 21 (sm_pic PW PH 0 (fun i j => sm_end w (w 7 5) (xa + nI i * xd) (xb + nI j * xd) 0 0) ((mz_up (mz_up (mz_up (mz_up (mz_up w 20 0 xa) 20 1 xb) 20 2 (nI PW)) 20 3 (nI PH)) 20 4 xd) 21))) 22 (sm_pic PW PH 0 (fun i j => sm_last w (w 7 5) (xa + nI i * xd) (xb + nI j * xd) 0 0 4) ((mz_up (mz_up (mz_up (mz_up (mz_up w 20 0 xa) 20 1 xb) 20 2 (nI PW)) 20 3 (nI PH)) 20 4 xd) 22))) 50 rP) 51 fP) 52 gP) (v := xd) (a := 1) (b := 40) (show ¬ (xd < 1) from (sm_in_lo q2)) (show ¬ (40 < xd) from (sm_in_hi q2))).deep (by decide)) ?_
                      refine mz_goP 20 (c' := (83, [some (.ref 65), some (.int xa), some (.int xb), some (.int xc), some (.int xd), some (.int (xc / 10)), some (.int (xc - xc / 10 * 10)), some (.int 1), none, none], [.int (xb + (((xc - xc / 10 * 10) - 1) * xd)), .int (xa + (((xc / 10) - 1) * xd))], mz_set (mz_set (mz_set (mz_set (mz_set (mz_up (mz_up (mz_up (mz_up (mz_up w 20 0 xa) 20 1 xb) 20 2 (nI PW)) 20 3 (nI PH)) 20 4 xd) 21 (sm_pic PW PH 0 (fun i j => sm_end w (w 7 5) (xa + nI i * xd) (xb + nI j * xd) 0 0) ((mz_up (mz_up (mz_up (mz_up (mz_up w 20 0 xa) 20 1 xb) 20 2 (nI PW)) 20 3 (nI PH)) 20 4 xd) 21))) 22 (sm_pic PW PH 0 (fun i j => sm_last w (w 7 5) (xa + nI i * xd) (xb + nI j * xd) 0 0 4) ((mz_up (mz_up (mz_up (mz_up (mz_up w 20 0 xa) 20 1 xb) 20 2 (nI PW)) 20 3 (nI PH)) 20 4 xd) 22))) 50 rP) 51 fP) 52 gP)) rfl ?_
                      refine mz_doP (R := mz_r131) (as := [.int (xa + (((xc / 10) - 1) * xd)), .int (xb + (((xc - xc / 10 * 10) - 1) * xd))]) (rest := []) (r1 := some (.int 1)) (m1 := mz_set (mz_set (mz_set (mz_set (mz_set (mz_up (mz_up (mz_up (mz_up (mz_up w 20 0 xa) 20 1 xb) 20 2 (nI PW)) 20 3 (nI PH)) 20 4 xd) 21 (sm_pic PW PH 0 (fun i j => sm_end w (w 7 5) (xa + nI i * xd) (xb + nI j * xd) 0 0) ((mz_up (mz_up (mz_up (mz_up (mz_up w 20 0 xa) 20 1 xb) 20 2 (nI PW)) 20 3 (nI PH)) 20 4 xd) 21))) 22 (sm_pic PW PH 0 (fun i j => sm_last w (w 7 5) (xa + nI i * xd) (xb + nI j * xd) 0 0 4) ((mz_up (mz_up (mz_up (mz_up (mz_up w 20 0 xa) 20 1 xb) 20 2 (nI PW)) 20 3 (nI PH)) 20 4 xd) 22))) 50 rP) 51 fP) 52 gP) rfl ⟨?_, rfl⟩ ?_
                      · refine mz_go 3 (c' := (5, [some (.int (xa + (((xc / 10) - 1) * xd))), some (.int (xb + (((xc - xc / 10 * 10) - 1) * xd)))], [.int 100, .int (-100), .int (xa + (((xc / 10) - 1) * xd))], mz_set (mz_set (mz_set (mz_set (mz_set (mz_up (mz_up (mz_up (mz_up (mz_up w 20 0 xa) 20 1 xb) 20 2 (nI PW)) 20 3 (nI PH)) 20 4 xd) 21 (sm_pic PW PH 0 (fun i j => sm_end w (w 7 5) (xa + nI i * xd) (xb + nI j * xd) 0 0) ((mz_up (mz_up (mz_up (mz_up (mz_up w 20 0 xa) 20 1 xb) 20 2 (nI PW)) 20 3 (nI PH)) 20 4 xd) 21))) 22 (sm_pic PW PH 0 (fun i j => sm_last w (w 7 5) (xa + nI i * xd) (xb + nI j * xd) 0 0 4) ((mz_up (mz_up (mz_up (mz_up (mz_up w 20 0 xa) 20 1 xb) 20 2 (nI PW)) 20 3 (nI PH)) 20 4 xd) 22))) 50 rP) 51 fP) 52 gP)) rfl ?_
                        refine mz_do (R := mz_r128) (as := [.int (xa + (((xc / 10) - 1) * xd)), .int (-100), .int 100]) (rest := []) (r1 := some (.int 1)) (m1 := mz_set (mz_set (mz_set (mz_set (mz_set (mz_up (mz_up (mz_up (mz_up (mz_up w 20 0 xa) 20 1 xb) 20 2 (nI PW)) 20 3 (nI PH)) 20 4 xd) 21 (sm_pic PW PH 0 (fun i j => sm_end w (w 7 5) (xa + nI i * xd) (xb + nI j * xd) 0 0) ((mz_up (mz_up (mz_up (mz_up (mz_up w 20 0 xa) 20 1 xb) 20 2 (nI PW)) 20 3 (nI PH)) 20 4 xd) 21))) 22 (sm_pic PW PH 0 (fun i j => sm_last w (w 7 5) (xa + nI i * xd) (xb + nI j * xd) 0 0 4) ((mz_up (mz_up (mz_up (mz_up (mz_up w 20 0 xa) 20 1 xb) 20 2 (nI PW)) 20 3 (nI PH)) 20 4 xd) 22))) 50 rP) 51 fP) 52 gP) rfl ((ct_in1 (m := mz_set (mz_set (mz_set (mz_set (mz_set (mz_up (mz_up (mz_up (mz_up (mz_up w 20 0 xa) 20 1 xb) 20 2 (nI PW)) 20 3 (nI PH)) 20 4 xd) 21 (sm_pic PW PH 0 (fun i j => sm_end w (w 7 5) (xa + nI i * xd) (xb + nI j * xd) 0 0) ((mz_up (mz_up (mz_up (mz_up (mz_up w 20 0 xa) 20 1 xb) 20 2 (nI PW)) 20 3 (nI PH)) 20 4 xd) 21))) 22 (sm_pic PW PH 0 (fun i j => sm_last w (w 7 5) (xa + nI i * xd) (xb + nI j * xd) 0 0 4) ((mz_up (mz_up (mz_up (mz_up (mz_up w 20 0 xa) 20 1 xb) 20 2 (nI PW)) 20 3 (nI PH)) 20 4 xd) 22))) 50 rP) 51 fP) 52 gP) (v := xa + (((xc / 10) - 1) * xd)) (a := (-100)) (b := 100) q11 q12).deep (by decide)) ?_
                        refine mz_go 4 (c' := (16, [some (.int (xa + (((xc / 10) - 1) * xd))), some (.int (xb + (((xc - xc / 10 * 10) - 1) * xd)))], [.int 100, .int (-100), .int (xb + (((xc - xc / 10 * 10) - 1) * xd))], mz_set (mz_set (mz_set (mz_set (mz_set (mz_up (mz_up (mz_up (mz_up (mz_up w 20 0 xa) 20 1 xb) 20 2 (nI PW)) 20 3 (nI PH)) 20 4 xd) 21 (sm_pic PW PH 0 (fun i j => sm_end w (w 7 5) (xa + nI i * xd) (xb + nI j * xd) 0 0) ((mz_up (mz_up (mz_up (mz_up (mz_up w 20 0 xa) 20 1 xb) 20 2 (nI PW)) 20 3 (nI PH)) 20 4 xd) 21))) 22 (sm_pic PW PH 0 (fun i j => sm_last w (w 7 5) (xa + nI i * xd) (xb + nI j * xd) 0 0 4) ((mz_up (mz_up (mz_up (mz_up (mz_up w 20 0 xa) 20 1 xb) 20 2 (nI PW)) 20 3 (nI PH)) 20 4 xd) 22))) 50 rP) 51 fP) 52 gP)) rfl ?_
                        refine mz_do (R := mz_r128) (as := [.int (xb + (((xc - xc / 10 * 10) - 1) * xd)), .int (-100), .int 100]) (rest := []) (r1 := some (.int 1)) (m1 := mz_set (mz_set (mz_set (mz_set (mz_set (mz_up (mz_up (mz_up (mz_up (mz_up w 20 0 xa) 20 1 xb) 20 2 (nI PW)) 20 3 (nI PH)) 20 4 xd) 21 (sm_pic PW PH 0 (fun i j => sm_end w (w 7 5) (xa + nI i * xd) (xb + nI j * xd) 0 0) ((mz_up (mz_up (mz_up (mz_up (mz_up w 20 0 xa) 20 1 xb) 20 2 (nI PW)) 20 3 (nI PH)) 20 4 xd) 21))) 22 (sm_pic PW PH 0 (fun i j => sm_last w (w 7 5) (xa + nI i * xd) (xb + nI j * xd) 0 0 4) ((mz_up (mz_up (mz_up (mz_up (mz_up w 20 0 xa) 20 1 xb) 20 2 (nI PW)) 20 3 (nI PH)) 20 4 xd) 22))) 50 rP) 51 fP) 52 gP) rfl ((ct_in1 (m := mz_set (mz_set (mz_set (mz_set (mz_set (mz_up (mz_up (mz_up (mz_up (mz_up w 20 0 xa) 20 1 xb) 20 2 (nI PW)) 20 3 (nI PH)) 20 4 xd) 21 (sm_pic PW PH 0 (fun i j => sm_end w (w 7 5) (xa + nI i * xd) (xb + nI j * xd) 0 0) ((mz_up (mz_up (mz_up (mz_up (mz_up w 20 0 xa) 20 1 xb) 20 2 (nI PW)) 20 3 (nI PH)) 20 4 xd) 21))) 22 (sm_pic PW PH 0 (fun i j => sm_last w (w 7 5) (xa + nI i * xd) (xb + nI j * xd) 0 0 4) ((mz_up (mz_up (mz_up (mz_up (mz_up w 20 0 xa) 20 1 xb) 20 2 (nI PW)) 20 3 (nI PH)) 20 4 xd) 22))) 50 rP) 51 fP) 52 gP) (v := xb + (((xc - xc / 10 * 10) - 1) * xd)) (a := (-100)) (b := 100) q13 q14).deep (by decide)) ?_
                        refine mz_go 3 (c' := (27, [some (.int (xa + (((xc / 10) - 1) * xd))), some (.int (xb + (((xc - xc / 10 * 10) - 1) * xd)))], [.int 1], mz_set (mz_set (mz_set (mz_set (mz_set (mz_up (mz_up (mz_up (mz_up (mz_up w 20 0 xa) 20 1 xb) 20 2 (nI PW)) 20 3 (nI PH)) 20 4 xd) 21 (sm_pic PW PH 0 (fun i j => sm_end w (w 7 5) (xa + nI i * xd) (xb + nI j * xd) 0 0) ((mz_up (mz_up (mz_up (mz_up (mz_up w 20 0 xa) 20 1 xb) 20 2 (nI PW)) 20 3 (nI PH)) 20 4 xd) 21))) 22 (sm_pic PW PH 0 (fun i j => sm_last w (w 7 5) (xa + nI i * xd) (xb + nI j * xd) 0 0 4) ((mz_up (mz_up (mz_up (mz_up (mz_up w 20 0 xa) 20 1 xb) 20 2 (nI PW)) 20 3 (nI PH)) 20 4 xd) 22))) 50 rP) 51 fP) 52 gP)) rfl ?_
                        exact mz_ret rfl
                      refine mz_goP 24 (c' := (135, [some (.ref 65), some (.int xa), some (.int xb), some (.int xc), some (.int xd), some (.int (xc / 10)), some (.int (xc - xc / 10 * 10)), some (.int 1), none, none], [.int 64, .ref 66], mz_up (mz_up (mz_up (mz_up (mz_set (mz_set (mz_set (mz_set (mz_set (mz_up (mz_up (mz_up (mz_up (mz_up w 20 0 xa) 20 1 xb) 20 2 (nI PW)) 20 3 (nI PH)) 20 4 xd) 21 (sm_pic PW PH 0 (fun i j => sm_end w (w 7 5) (xa + nI i * xd) (xb + nI j * xd) 0 0) ((mz_up (mz_up (mz_up (mz_up (mz_up w 20 0 xa) 20 1 xb) 20 2 (nI PW)) 20 3 (nI PH)) 20 4 xd) 21))) 22 (sm_pic PW PH 0 (fun i j => sm_last w (w 7 5) (xa + nI i * xd) (xb + nI j * xd) 0 0 4) ((mz_up (mz_up (mz_up (mz_up (mz_up w 20 0 xa) 20 1 xb) 20 2 (nI PW)) 20 3 (nI PH)) 20 4 xd) 22))) 50 rP) 51 fP) 52 gP) 66 60 (xc / 10)) 66 61 (xc - xc / 10 * 10)) 66 62 xa) 66 63 xb)) rfl ?_
                      refine mz_goP 4 (c' := (141, [some (.ref 65), some (.int xa), some (.int xb), some (.int xc), some (.int xd), some (.int (xc / 10)), some (.int (xc - xc / 10 * 10)), some (.int 1), some (.int 0), none], [], mz_up (mz_up (mz_up (mz_up (mz_up (mz_set (mz_set (mz_set (mz_set (mz_set (mz_up (mz_up (mz_up (mz_up (mz_up w 20 0 xa) 20 1 xb) 20 2 (nI PW)) 20 3 (nI PH)) 20 4 xd) 21 (sm_pic PW PH 0 (fun i j => sm_end w (w 7 5) (xa + nI i * xd) (xb + nI j * xd) 0 0) ((mz_up (mz_up (mz_up (mz_up (mz_up w 20 0 xa) 20 1 xb) 20 2 (nI PW)) 20 3 (nI PH)) 20 4 xd) 21))) 22 (sm_pic PW PH 0 (fun i j => sm_last w (w 7 5) (xa + nI i * xd) (xb + nI j * xd) 0 0 4) ((mz_up (mz_up (mz_up (mz_up (mz_up w 20 0 xa) 20 1 xb) 20 2 (nI PW)) 20 3 (nI PH)) 20 4 xd) 22))) 50 rP) 51 fP) 52 gP) 66 60 (xc / 10)) 66 61 (xc - xc / 10 * 10)) 66 62 xa) 66 63 xb) 66 64 xd)) rfl ?_
                      have hT2r : ∀ i, (i < 60 ∨ 65 ≤ i) → (mz_up (mz_up (mz_up (mz_up (mz_up (mz_set (mz_set (mz_set (mz_set (mz_set (mz_up (mz_up (mz_up (mz_up (mz_up w 20 0 xa) 20 1 xb) 20 2 (nI PW)) 20 3 (nI PH)) 20 4 xd) 21 (sm_pic PW PH 0 (fun i j => sm_end w (w 7 5) (xa + nI i * xd) (xb + nI j * xd) 0 0) ((mz_up (mz_up (mz_up (mz_up (mz_up w 20 0 xa) 20 1 xb) 20 2 (nI PW)) 20 3 (nI PH)) 20 4 xd) 21))) 22 (sm_pic PW PH 0 (fun i j => sm_last w (w 7 5) (xa + nI i * xd) (xb + nI j * xd) 0 0 4) ((mz_up (mz_up (mz_up (mz_up (mz_up w 20 0 xa) 20 1 xb) 20 2 (nI PW)) 20 3 (nI PH)) 20 4 xd) 22))) 50 rP) 51 fP) 52 gP) 66 60 (nI PW)) 66 61 (nI PH)) 66 62 xa) 66 63 xb) 66 64 xd) 66 i = w 66 i := fun i hi => by rw [mz_up_eq, if_neg (by omega), mz_up_eq, if_neg (by omega), mz_up_eq, if_neg (by omega), mz_up_eq, if_neg (by omega), mz_up_eq, if_neg (by omega), mz_set_ne (show (66 : Nat) ≠ 52 by decide), mz_set_ne (show (66 : Nat) ≠ 51 by decide), mz_set_ne (show (66 : Nat) ≠ 50 by decide), mz_set_ne (show (66 : Nat) ≠ 22 by decide), mz_set_ne (show (66 : Nat) ≠ 21 by decide), mz_up_ne (show (66 : Nat) ≠ 20 by decide), mz_up_ne (show (66 : Nat) ≠ 20 by decide), mz_up_ne (show (66 : Nat) ≠ 20 by decide), mz_up_ne (show (66 : Nat) ≠ 20 by decide), mz_up_ne (show (66 : Nat) ≠ 20 by decide)]
                      obtain ⟨sP, rQ, aQ, bQ, oQ, hPS2, hKQ, EQ⟩ := ct_picj (m := mz_up (mz_up (mz_up (mz_up (mz_up (mz_set (mz_set (mz_set (mz_set (mz_set (mz_up (mz_up (mz_up (mz_up (mz_up w 20 0 xa) 20 1 xb) 20 2 (nI PW)) 20 3 (nI PH)) 20 4 xd) 21 (sm_pic PW PH 0 (fun i j => sm_end w (w 7 5) (xa + nI i * xd) (xb + nI j * xd) 0 0) ((mz_up (mz_up (mz_up (mz_up (mz_up w 20 0 xa) 20 1 xb) 20 2 (nI PW)) 20 3 (nI PH)) 20 4 xd) 21))) 22 (sm_pic PW PH 0 (fun i j => sm_last w (w 7 5) (xa + nI i * xd) (xb + nI j * xd) 0 0 4) ((mz_up (mz_up (mz_up (mz_up (mz_up w 20 0 xa) 20 1 xb) 20 2 (nI PW)) 20 3 (nI PH)) 20 4 xd) 22))) 50 rP) 51 fP) 52 gP) 66 60 (nI PW)) 66 61 (nI PH)) 66 62 xa) 66 63 xb) 66 64 xd) (w := w) hw (sm_HR_s (fun i hi => hT2r i (by omega)) hr2) h6615 hr5 hr80 (W := PW) (H := PH) hPW6 hPH6 (xc := xc) hBX hBY 1 PH 0 (by omega) ((mz_up (mz_up (mz_up (mz_up (mz_up (mz_set (mz_set (mz_set (mz_set (mz_set (mz_up (mz_up (mz_up (mz_up (mz_up w 20 0 xa) 20 1 xb) 20 2 (nI PW)) 20 3 (nI PH)) 20 4 xd) 21 (sm_pic PW PH 0 (fun i j => sm_end w (w 7 5) (xa + nI i * xd) (xb + nI j * xd) 0 0) ((mz_up (mz_up (mz_up (mz_up (mz_up w 20 0 xa) 20 1 xb) 20 2 (nI PW)) 20 3 (nI PH)) 20 4 xd) 21))) 22 (sm_pic PW PH 0 (fun i j => sm_last w (w 7 5) (xa + nI i * xd) (xb + nI j * xd) 0 0 4) ((mz_up (mz_up (mz_up (mz_up (mz_up w 20 0 xa) 20 1 xb) 20 2 (nI PW)) 20 3 (nI PH)) 20 4 xd) 22))) 50 rP) 51 fP) 52 gP) 66 60 (nI PW)) 66 61 (nI PH)) 66 62 xa) 66 63 xb) 66 64 xd) 66) (w 65) (w 70) (w 71) none sm_ps_0 (fun _ _ => rfl)
                      rw [Nat.zero_mul, show mz_set (mz_set (mz_set (mz_set (mz_up (mz_up (mz_up (mz_up (mz_up (mz_set (mz_set (mz_set (mz_set (mz_set (mz_up (mz_up (mz_up (mz_up (mz_up w 20 0 xa) 20 1 xb) 20 2 (nI PW)) 20 3 (nI PH)) 20 4 xd) 21 (sm_pic PW PH 0 (fun i j => sm_end w (w 7 5) (xa + nI i * xd) (xb + nI j * xd) 0 0) ((mz_up (mz_up (mz_up (mz_up (mz_up w 20 0 xa) 20 1 xb) 20 2 (nI PW)) 20 3 (nI PH)) 20 4 xd) 21))) 22 (sm_pic PW PH 0 (fun i j => sm_last w (w 7 5) (xa + nI i * xd) (xb + nI j * xd) 0 0 4) ((mz_up (mz_up (mz_up (mz_up (mz_up w 20 0 xa) 20 1 xb) 20 2 (nI PW)) 20 3 (nI PH)) 20 4 xd) 22))) 50 rP) 51 fP) 52 gP) 66 60 (nI PW)) 66 61 (nI PH)) 66 62 xa) 66 63 xb) 66 64 xd) 66 ((mz_up (mz_up (mz_up (mz_up (mz_up (mz_set (mz_set (mz_set (mz_set (mz_set (mz_up (mz_up (mz_up (mz_up (mz_up w 20 0 xa) 20 1 xb) 20 2 (nI PW)) 20 3 (nI PH)) 20 4 xd) 21 (sm_pic PW PH 0 (fun i j => sm_end w (w 7 5) (xa + nI i * xd) (xb + nI j * xd) 0 0) ((mz_up (mz_up (mz_up (mz_up (mz_up w 20 0 xa) 20 1 xb) 20 2 (nI PW)) 20 3 (nI PH)) 20 4 xd) 21))) 22 (sm_pic PW PH 0 (fun i j => sm_last w (w 7 5) (xa + nI i * xd) (xb + nI j * xd) 0 0 4) ((mz_up (mz_up (mz_up (mz_up (mz_up w 20 0 xa) 20 1 xb) 20 2 (nI PW)) 20 3 (nI PH)) 20 4 xd) 22))) 50 rP) 51 fP) 52 gP) 66 60 (nI PW)) 66 61 (nI PH)) 66 62 xa) 66 63 xb) 66 64 xd) 66)) 65 (w 65)) 70 (w 70)) 71 (w 71) = mz_up (mz_up (mz_up (mz_up (mz_up (mz_set (mz_set (mz_set (mz_set (mz_set (mz_up (mz_up (mz_up (mz_up (mz_up w 20 0 xa) 20 1 xb) 20 2 (nI PW)) 20 3 (nI PH)) 20 4 xd) 21 (sm_pic PW PH 0 (fun i j => sm_end w (w 7 5) (xa + nI i * xd) (xb + nI j * xd) 0 0) ((mz_up (mz_up (mz_up (mz_up (mz_up w 20 0 xa) 20 1 xb) 20 2 (nI PW)) 20 3 (nI PH)) 20 4 xd) 21))) 22 (sm_pic PW PH 0 (fun i j => sm_last w (w 7 5) (xa + nI i * xd) (xb + nI j * xd) 0 0 4) ((mz_up (mz_up (mz_up (mz_up (mz_up w 20 0 xa) 20 1 xb) 20 2 (nI PW)) 20 3 (nI PH)) 20 4 xd) 22))) 50 rP) 51 fP) 52 gP) 66 60 (nI PW)) 66 61 (nI PH)) 66 62 xa) 66 63 xb) 66 64 xd from (sm_of4 (fun i _ _ _ _ => rfl)).symm] at EQ
                      rw [ePH, ePW]
                      refine mz_hkP EQ ?_
                      refine mz_goP 5 (c' := (232, [some (.ref 65), some (.int xa), some (.int xb), some (.int xc), some (.int xd), some (.int (nI PW)), some (.int (nI PH)), some (.int 1), some (.int (nI (PH * PW + 0))), oQ], [.int (nI PH), .int (nI PW), .int 0, .int 0, .ref 65], mz_set (mz_set (mz_set (mz_set (mz_up (mz_up (mz_up (mz_up (mz_up (mz_set (mz_set (mz_set (mz_set (mz_set (mz_up (mz_up (mz_up (mz_up (mz_up w 20 0 xa) 20 1 xb) 20 2 (nI PW)) 20 3 (nI PH)) 20 4 xd) 21 (sm_pic PW PH 0 (fun i j => sm_end w (w 7 5) (xa + nI i * xd) (xb + nI j * xd) 0 0) ((mz_up (mz_up (mz_up (mz_up (mz_up w 20 0 xa) 20 1 xb) 20 2 (nI PW)) 20 3 (nI PH)) 20 4 xd) 21))) 22 (sm_pic PW PH 0 (fun i j => sm_last w (w 7 5) (xa + nI i * xd) (xb + nI j * xd) 0 0 4) ((mz_up (mz_up (mz_up (mz_up (mz_up w 20 0 xa) 20 1 xb) 20 2 (nI PW)) 20 3 (nI PH)) 20 4 xd) 22))) 50 rP) 51 fP) 52 gP) 66 60 (nI PW)) 66 61 (nI PH)) 66 62 xa) 66 63 xb) 66 64 xd) 66 sP) 65 rQ) 70 aQ) 71 bQ)) rfl ?_
                      obtain ⟨ve2, Ee2⟩ := xr_cin (m := mz_set (mz_set (mz_set (mz_set (mz_up (mz_up (mz_up (mz_up (mz_up (mz_set (mz_set (mz_set (mz_set (mz_set (mz_up (mz_up (mz_up (mz_up (mz_up w 20 0 xa) 20 1 xb) 20 2 (nI PW)) 20 3 (nI PH)) 20 4 xd) 21 (sm_pic PW PH 0 (fun i j => sm_end w (w 7 5) (xa + nI i * xd) (xb + nI j * xd) 0 0) ((mz_up (mz_up (mz_up (mz_up (mz_up w 20 0 xa) 20 1 xb) 20 2 (nI PW)) 20 3 (nI PH)) 20 4 xd) 21))) 22 (sm_pic PW PH 0 (fun i j => sm_last w (w 7 5) (xa + nI i * xd) (xb + nI j * xd) 0 0 4) ((mz_up (mz_up (mz_up (mz_up (mz_up w 20 0 xa) 20 1 xb) 20 2 (nI PW)) 20 3 (nI PH)) 20 4 xd) 22))) 50 rP) 51 fP) 52 gP) 66 60 (nI PW)) 66 61 (nI PH)) 66 62 xa) 66 63 xb) 66 64 xd) 66 sP) 65 rQ) 70 aQ) 71 bQ) (WW := PW) (HH := PH) hPW6 hPH6 (by omega) (show sP 60 = nI PW from hPS2.2.2 60 (by omega)) (show sP 61 = nI PH from hPS2.2.2 61 (by omega)) (I := 0) (J := 0) (P := PW) (Q := PH) (by omega) (by omega) (i := 0) (j := 0) (p := nI PW) (q := nI PH) rfl rfl rfl rfl
                      refine mz_doP (R := mz_r189) (as := [.ref 65, .int 0, .int 0, .int (nI PW), .int (nI PH)]) (rest := []) (r1 := some (.int ve2)) (m1 := mz_set (mz_set (mz_set (mz_set (mz_up (mz_up (mz_up (mz_up (mz_up (mz_set (mz_set (mz_set (mz_set (mz_set (mz_up (mz_up (mz_up (mz_up (mz_up w 20 0 xa) 20 1 xb) 20 2 (nI PW)) 20 3 (nI PH)) 20 4 xd) 21 (sm_pic PW PH 0 (fun i j => sm_end w (w 7 5) (xa + nI i * xd) (xb + nI j * xd) 0 0) ((mz_up (mz_up (mz_up (mz_up (mz_up w 20 0 xa) 20 1 xb) 20 2 (nI PW)) 20 3 (nI PH)) 20 4 xd) 21))) 22 (sm_pic PW PH 0 (fun i j => sm_last w (w 7 5) (xa + nI i * xd) (xb + nI j * xd) 0 0 4) ((mz_up (mz_up (mz_up (mz_up (mz_up w 20 0 xa) 20 1 xb) 20 2 (nI PW)) 20 3 (nI PH)) 20 4 xd) 22))) 50 rP) 51 fP) 52 gP) 66 60 (nI PW)) 66 61 (nI PH)) 66 62 xa) 66 63 xb) 66 64 xd) 66 sP) 65 rQ) 70 aQ) 71 bQ) rfl (Ee2.deep (by decide)) ?_
                      refine mz_retP (r := (some (.int (ve2)), mz_set (mz_set (mz_set (mz_set (mz_up (mz_up (mz_up (mz_up (mz_up (mz_set (mz_set (mz_set (mz_set (mz_set (mz_up (mz_up (mz_up (mz_up (mz_up w 20 0 xa) 20 1 xb) 20 2 (nI PW)) 20 3 (nI PH)) 20 4 xd) 21 (sm_pic PW PH 0 (fun i j => sm_end w (w 7 5) (xa + nI i * xd) (xb + nI j * xd) 0 0) ((mz_up (mz_up (mz_up (mz_up (mz_up w 20 0 xa) 20 1 xb) 20 2 (nI PW)) 20 3 (nI PH)) 20 4 xd) 21))) 22 (sm_pic PW PH 0 (fun i j => sm_last w (w 7 5) (xa + nI i * xd) (xb + nI j * xd) 0 0 4) ((mz_up (mz_up (mz_up (mz_up (mz_up w 20 0 xa) 20 1 xb) 20 2 (nI PW)) 20 3 (nI PH)) 20 4 xd) 22))) 50 rP) 51 fP) 52 gP) 66 60 (nI PW)) 66 61 (nI PH)) 66 62 xa) 66 63 xb) 66 64 xd) 66 sP) 65 rQ) 70 aQ) 71 bQ)) rfl ⟨ve2, rfl, ?_⟩
                      show sm_I (n + 1) (mz_set (mz_set (mz_set (mz_set (mz_up (mz_up (mz_up (mz_up (mz_up (mz_set (mz_set (mz_set (mz_set (mz_set (mz_up (mz_up (mz_up (mz_up (mz_up w 20 0 xa) 20 1 xb) 20 2 (nI PW)) 20 3 (nI PH)) 20 4 xd) 21 (sm_pic PW PH 0 (fun i j => sm_end w (w 7 5) (xa + nI i * xd) (xb + nI j * xd) 0 0) ((mz_up (mz_up (mz_up (mz_up (mz_up w 20 0 xa) 20 1 xb) 20 2 (nI PW)) 20 3 (nI PH)) 20 4 xd) 21))) 22 (sm_pic PW PH 0 (fun i j => sm_last w (w 7 5) (xa + nI i * xd) (xb + nI j * xd) 0 0 4) ((mz_up (mz_up (mz_up (mz_up (mz_up w 20 0 xa) 20 1 xb) 20 2 (nI PW)) 20 3 (nI PH)) 20 4 xd) 22))) 50 rP) 51 fP) 52 gP) 66 60 (nI PW)) 66 61 (nI PH)) 66 62 xa) 66 63 xb) 66 64 xd) 66 sP) 65 rQ) 70 aQ) 71 bQ)
                      obtain ⟨-, ⟨d1, d2, d3, ⟨d4, d4b, d4c⟩, d5, d6, d7, d8⟩, da, db, dc⟩ := hI2
                      have hs : ∀ i, (i < 60 ∨ 146 ≤ i) → sP i = w 66 i := fun i hi => (hPS2.2.2 i (by omega)).trans (hT2r i (by omega))
                      have h6 : ∀ i, i < 36 → sm_colB ((sm_pic PW PH 0 (fun i j => sm_end w (w 7 5) (xa + nI i * xd) (xb + nI j * xd) 0 0) ((mz_up (mz_up (mz_up (mz_up (mz_up w 20 0 xa) 20 1 xb) 20 2 (nI PW)) 20 3 (nI PH)) 20 4 xd) 21)) i) ∧ sP (70 + i) = (sm_pic PW PH 0 (fun i j => sm_end w (w 7 5) (xa + nI i * xd) (xb + nI j * xd) 0 0) ((mz_up (mz_up (mz_up (mz_up (mz_up w 20 0 xa) 20 1 xb) 20 2 (nI PW)) 20 3 (nI PH)) 20 4 xd) 21)) i ∧ sP (110 + i) = (sm_pic PW PH 0 (fun i j => sm_last w (w 7 5) (xa + nI i * xd) (xb + nI j * xd) 0 0 4) ((mz_up (mz_up (mz_up (mz_up (mz_up w 20 0 xa) 20 1 xb) 20 2 (nI PW)) 20 3 (nI PH)) 20 4 xd) 22)) i := fun i hi => by
                        obtain ⟨z1, z2, z3⟩ := hpc i hi
                        exact sm_picd6 (E := (fun i j => sm_end w (w 7 5) (xa + nI i * xd) (xb + nI j * xd) 0 0)) (L := (fun i j => sm_last w (w 7 5) (xa + nI i * xd) (xb + nI j * xd) 0 0 4)) (c := (mz_up (mz_up (mz_up (mz_up (mz_up w 20 0 xa) 20 1 xb) 20 2 (nI PW)) 20 3 (nI PH)) 20 4 xd) 21) (l := (mz_up (mz_up (mz_up (mz_up (mz_up w 20 0 xa) 20 1 xb) 20 2 (nI PW)) 20 3 (nI PH)) 20 4 xd) 22) (c' := fun q => (mz_up (mz_up (mz_up (mz_up (mz_up (mz_set (mz_set (mz_set (mz_set (mz_set (mz_up (mz_up (mz_up (mz_up (mz_up w 20 0 xa) 20 1 xb) 20 2 (nI PW)) 20 3 (nI PH)) 20 4 xd) 21 (sm_pic PW PH 0 (fun i j => sm_end w (w 7 5) (xa + nI i * xd) (xb + nI j * xd) 0 0) ((mz_up (mz_up (mz_up (mz_up (mz_up w 20 0 xa) 20 1 xb) 20 2 (nI PW)) 20 3 (nI PH)) 20 4 xd) 21))) 22 (sm_pic PW PH 0 (fun i j => sm_last w (w 7 5) (xa + nI i * xd) (xb + nI j * xd) 0 0 4) ((mz_up (mz_up (mz_up (mz_up (mz_up w 20 0 xa) 20 1 xb) 20 2 (nI PW)) 20 3 (nI PH)) 20 4 xd) 22))) 50 rP) 51 fP) 52 gP) 66 60 (nI PW)) 66 61 (nI PH)) 66 62 xa) 66 63 xb) 66 64 xd) 66 (70 + q)) (l' := fun q => (mz_up (mz_up (mz_up (mz_up (mz_up (mz_set (mz_set (mz_set (mz_set (mz_set (mz_up (mz_up (mz_up (mz_up (mz_up w 20 0 xa) 20 1 xb) 20 2 (nI PW)) 20 3 (nI PH)) 20 4 xd) 21 (sm_pic PW PH 0 (fun i j => sm_end w (w 7 5) (xa + nI i * xd) (xb + nI j * xd) 0 0) ((mz_up (mz_up (mz_up (mz_up (mz_up w 20 0 xa) 20 1 xb) 20 2 (nI PW)) 20 3 (nI PH)) 20 4 xd) 21))) 22 (sm_pic PW PH 0 (fun i j => sm_last w (w 7 5) (xa + nI i * xd) (xb + nI j * xd) 0 0 4) ((mz_up (mz_up (mz_up (mz_up (mz_up w 20 0 xa) 20 1 xb) 20 2 (nI PW)) 20 3 (nI PH)) 20 4 xd) 22))) 50 rP) 51 fP) 52 gP) 66 60 (nI PW)) 66 61 (nI PH)) 66 62 xa) 66 63 xb) 66 64 xd) 66 (110 + q)) (fun a b => sm_end_col hw _ _ _ _ _) z1 ((hT2r (70 + i) (by omega)).trans z2) ((hT2r (110 + i) (by omega)).trans z3) (hPS2.1 i hi) (hPS2.2.1 i hi)
                      have h60 : sP 60 = nI PW := hPS2.2.2 60 (by omega)
                      have h61 : sP 61 = nI PH := hPS2.2.2 61 (by omega)
                      have h62 : sP 62 = xa := hPS2.2.2 62 (by omega)
                      have h63 : sP 63 = xb := hPS2.2.2 63 (by omega)
                      have h64 : sP 64 = xd := hPS2.2.2 64 (by omega)
                      have h6c : sm_c6 ((mz_set (mz_set (mz_set (mz_set (mz_up (mz_up (mz_up (mz_up (mz_up (mz_set (mz_set (mz_set (mz_set (mz_set (mz_up (mz_up (mz_up (mz_up (mz_up w 20 0 xa) 20 1 xb) 20 2 (nI PW)) 20 3 (nI PH)) 20 4 xd) 21 (sm_pic PW PH 0 (fun i j => sm_end w (w 7 5) (xa + nI i * xd) (xb + nI j * xd) 0 0) ((mz_up (mz_up (mz_up (mz_up (mz_up w 20 0 xa) 20 1 xb) 20 2 (nI PW)) 20 3 (nI PH)) 20 4 xd) 21))) 22 (sm_pic PW PH 0 (fun i j => sm_last w (w 7 5) (xa + nI i * xd) (xb + nI j * xd) 0 0 4) ((mz_up (mz_up (mz_up (mz_up (mz_up w 20 0 xa) 20 1 xb) 20 2 (nI PW)) 20 3 (nI PH)) 20 4 xd) 22))) 50 rP) 51 fP) 52 gP) 66 60 (nI PW)) 66 61 (nI PH)) 66 62 xa) 66 63 xb) 66 64 xd) 66 sP) 65 rQ) 70 aQ) 71 bQ) 20) ((mz_set (mz_set (mz_set (mz_set (mz_up (mz_up (mz_up (mz_up (mz_up (mz_set (mz_set (mz_set (mz_set (mz_set (mz_up (mz_up (mz_up (mz_up (mz_up w 20 0 xa) 20 1 xb) 20 2 (nI PW)) 20 3 (nI PH)) 20 4 xd) 21 (sm_pic PW PH 0 (fun i j => sm_end w (w 7 5) (xa + nI i * xd) (xb + nI j * xd) 0 0) ((mz_up (mz_up (mz_up (mz_up (mz_up w 20 0 xa) 20 1 xb) 20 2 (nI PW)) 20 3 (nI PH)) 20 4 xd) 21))) 22 (sm_pic PW PH 0 (fun i j => sm_last w (w 7 5) (xa + nI i * xd) (xb + nI j * xd) 0 0 4) ((mz_up (mz_up (mz_up (mz_up (mz_up w 20 0 xa) 20 1 xb) 20 2 (nI PW)) 20 3 (nI PH)) 20 4 xd) 22))) 50 rP) 51 fP) 52 gP) 66 60 (nI PW)) 66 61 (nI PH)) 66 62 xa) 66 63 xb) 66 64 xd) 66 sP) 65 rQ) 70 aQ) 71 bQ) 21) ((mz_set (mz_set (mz_set (mz_set (mz_up (mz_up (mz_up (mz_up (mz_up (mz_set (mz_set (mz_set (mz_set (mz_set (mz_up (mz_up (mz_up (mz_up (mz_up w 20 0 xa) 20 1 xb) 20 2 (nI PW)) 20 3 (nI PH)) 20 4 xd) 21 (sm_pic PW PH 0 (fun i j => sm_end w (w 7 5) (xa + nI i * xd) (xb + nI j * xd) 0 0) ((mz_up (mz_up (mz_up (mz_up (mz_up w 20 0 xa) 20 1 xb) 20 2 (nI PW)) 20 3 (nI PH)) 20 4 xd) 21))) 22 (sm_pic PW PH 0 (fun i j => sm_last w (w 7 5) (xa + nI i * xd) (xb + nI j * xd) 0 0 4) ((mz_up (mz_up (mz_up (mz_up (mz_up w 20 0 xa) 20 1 xb) 20 2 (nI PW)) 20 3 (nI PH)) 20 4 xd) 22))) 50 rP) 51 fP) 52 gP) 66 60 (nI PW)) 66 61 (nI PH)) 66 62 xa) 66 63 xb) 66 64 xd) 66 sP) 65 rQ) 70 aQ) 71 bQ) 22) sP := ⟨⟨PW, PH, hPW6, hPH6, by omega, rfl, rfl, h60, h61⟩, h62, h63, h64, h6⟩
                      exact ⟨hn, ⟨sm_k1 (hs 0 (by omega)) (fun i h1 h2 => hs i (by omega)) d1, sm_k2 (fun i h1 h2 => hs i (by omega)) d2, sm_k3 (hs 1 (by omega)) (fun i h1 h2 => hs i (by omega)) d3, ⟨sm_k4 (fun i h1 h2 => hs i (by omega)) d4, sm_k4 (fun i h1 h2 => hs i (by omega)) d4b, sm_k4 (fun i h1 h2 => hs i (by omega)) d4c⟩, sm_k5 (fun i h1 h2 => hs i (by omega)) d5, h6c, sm_k7 (fun i h1 h2 => hs i (by omega)) d7, sm_k8 (hs 2 (by omega)) (hs 3 (by omega)) (fun i h1 h2 => hs i (by omega)) d8⟩, da, (by rw [show (mz_set (mz_set (mz_set (mz_set (mz_up (mz_up (mz_up (mz_up (mz_up (mz_set (mz_set (mz_set (mz_set (mz_set (mz_up (mz_up (mz_up (mz_up (mz_up w 20 0 xa) 20 1 xb) 20 2 (nI PW)) 20 3 (nI PH)) 20 4 xd) 21 (sm_pic PW PH 0 (fun i j => sm_end w (w 7 5) (xa + nI i * xd) (xb + nI j * xd) 0 0) ((mz_up (mz_up (mz_up (mz_up (mz_up w 20 0 xa) 20 1 xb) 20 2 (nI PW)) 20 3 (nI PH)) 20 4 xd) 21))) 22 (sm_pic PW PH 0 (fun i j => sm_last w (w 7 5) (xa + nI i * xd) (xb + nI j * xd) 0 0 4) ((mz_up (mz_up (mz_up (mz_up (mz_up w 20 0 xa) 20 1 xb) 20 2 (nI PW)) 20 3 (nI PH)) 20 4 xd) 22))) 50 rP) 51 fP) 52 gP) 66 60 (nI PW)) 66 61 (nI PH)) 66 62 xa) 66 63 xb) 66 64 xd) 66 sP) 65 rQ) 70 aQ) 71 bQ) 65 19 = w 65 19 from ((hKQ 19 (by omega)).trans rfl)]; exact db), (by rw [show (mz_set (mz_set (mz_set (mz_set (mz_up (mz_up (mz_up (mz_up (mz_up (mz_set (mz_set (mz_set (mz_set (mz_set (mz_up (mz_up (mz_up (mz_up (mz_up w 20 0 xa) 20 1 xb) 20 2 (nI PW)) 20 3 (nI PH)) 20 4 xd) 21 (sm_pic PW PH 0 (fun i j => sm_end w (w 7 5) (xa + nI i * xd) (xb + nI j * xd) 0 0) ((mz_up (mz_up (mz_up (mz_up (mz_up w 20 0 xa) 20 1 xb) 20 2 (nI PW)) 20 3 (nI PH)) 20 4 xd) 21))) 22 (sm_pic PW PH 0 (fun i j => sm_last w (w 7 5) (xa + nI i * xd) (xb + nI j * xd) 0 0 4) ((mz_up (mz_up (mz_up (mz_up (mz_up w 20 0 xa) 20 1 xb) 20 2 (nI PW)) 20 3 (nI PH)) 20 4 xd) 22))) 50 rP) 51 fP) 52 gP) 66 60 (nI PW)) 66 61 (nI PH)) 66 62 xa) 66 63 xb) 66 64 xd) 66 sP) 65 rQ) 70 aQ) 71 bQ) 65 2 = w 65 2 from ((hKQ 2 (by omega)).trans rfl)]; exact sm_cc_of (fun i h1 h2 => by simp only [mz_set_ne (show i ≠ 21 by omega), mz_set_ne (show i ≠ 22 by omega), mz_set_ne (show i ≠ 50 by omega), mz_set_ne (show i ≠ 51 by omega), mz_set_ne (show i ≠ 52 by omega), mz_set_ne (show i ≠ 65 by omega), mz_set_ne (show i ≠ 66 by omega), mz_set_ne (show i ≠ 70 by omega), mz_set_ne (show i ≠ 71 by omega), mz_up_ne (show i ≠ 20 by omega), mz_up_ne (show i ≠ 66 by omega)]) dc)⟩
