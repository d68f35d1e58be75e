/-! what waits against a row's colours: by the picture's cells, and by the numbers that wait -/
noncomputable def vq_ck (f g : Nat → Int32) (A : Nat) : Nat → Nat → Int32
  | 0, k => if k < A then 1 + nI k else 0
  | n + 1, k => if A ≤ k then 1 + nI k else if f k = g k then vq_ck f g A n (k + 1) else 1 + nI k
noncomputable def vq_cr (f g : Nat → Int32) (W : Nat) : Nat → Nat → Int32
  | 0, k => if k = W then 0 else 1 + nI k
  | n + 1, k => if W ≤ k then 1 + nI k else if f k = g k then vq_cr f g W n (k + 1) else 1 + nI k
theorem vq_ck_cr {f g f' g' : Nat → Int32} {A W : Nat} (hf : ∀ k, k < A → f' k = f k) (hg : ∀ k, k < W → g' k = g k) : ∀ n k, n ≤ A + W → k ≤ A → k ≤ W → (A - k) + (W - k) ≤ n → vq_ck f g A (W - k) k = vq_cr f' g' W (A - k) k := by
  intro n
  induction n with
  | zero =>
    intro k _ h1 h2 h3
    rw [show W - k = 0 by omega, show A - k = 0 by omega]
    show (if k < A then 1 + nI k else 0) = (if k = W then 0 else 1 + nI k)
    rw [if_neg (by omega), if_pos (by omega)]
  | succ n ih =>
    intro k hn h1 h2 h3
    rcases Nat.lt_or_ge k A with ha | ha
    · rcases Nat.lt_or_ge k W with hw | hw
      · obtain ⟨p, hp⟩ : ∃ p, W - k = p + 1 := ⟨W - k - 1, by omega⟩
        obtain ⟨q, hq⟩ : ∃ q, A - k = q + 1 := ⟨A - k - 1, by omega⟩
        rw [hp, hq]
        show (if A ≤ k then 1 + nI k else if f k = g k then vq_ck f g A p (k + 1) else 1 + nI k) = (if W ≤ k then 1 + nI k else if f' k = g' k then vq_cr f' g' W q (k + 1) else 1 + nI k)
        rw [if_neg (show ¬ A ≤ k by omega), if_neg (show ¬ W ≤ k by omega), hf k ha, hg k hw]
        by_cases e : f k = g k
        · rw [if_pos e, if_pos e]
          have h := ih (k + 1) (by omega) (by omega) (by omega) (by omega)
          rw [show W - (k + 1) = p by omega, show A - (k + 1) = q by omega] at h
          exact h
        · rw [if_neg e, if_neg e]
      · obtain ⟨q, hq⟩ : ∃ q, A - k = q + 1 := ⟨A - k - 1, by omega⟩
        rw [show W - k = 0 by omega, hq]
        show (if k < A then 1 + nI k else 0) = (if W ≤ k then 1 + nI k else if f' k = g' k then vq_cr f' g' W q (k + 1) else 1 + nI k)
        rw [if_pos ha, if_pos hw]
    · rw [show A - k = 0 by omega]
      rcases Nat.lt_or_ge k W with hw | hw
      · obtain ⟨p, hp⟩ : ∃ p, W - k = p + 1 := ⟨W - k - 1, by omega⟩
        rw [hp]
        show (if A ≤ k then 1 + nI k else if f k = g k then vq_ck f g A p (k + 1) else 1 + nI k) = (if k = W then 0 else 1 + nI k)
        rw [if_pos ha, if_neg (by omega)]
      · rw [show W - k = 0 by omega]
        show (if k < A then 1 + nI k else 0) = (if k = W then 0 else 1 + nI k)
        rw [if_neg (by omega), if_pos (by omega)]
theorem vq_ckA {f g : Nat → Int32} {A k : Nat} (h : A ≤ k) : vq_ck f g A 0 k = 0 := if_neg (Nat.not_lt.mpr h)
theorem vq_ckB {f g : Nat → Int32} {A k : Nat} (h : ¬ A ≤ k) : vq_ck f g A 0 k = 1 + nI k := if_pos (Nat.lt_of_not_le h)
theorem vq_ck1 {f g : Nat → Int32} {A n k : Nat} (h : A ≤ k) : vq_ck f g A (n + 1) k = 1 + nI k := if_pos h
theorem vq_ck2 {f g : Nat → Int32} {A n k : Nat} (h : ¬ A ≤ k) (e : f k = g k) : vq_ck f g A (n + 1) k = vq_ck f g A n (k + 1) := by
  show (if A ≤ k then 1 + nI k else if f k = g k then vq_ck f g A n (k + 1) else 1 + nI k) = _
  rw [if_neg h, if_pos e]
theorem vq_ck3 {f g : Nat → Int32} {A n k : Nat} (h : ¬ A ≤ k) (e : ¬ f k = g k) : vq_ck f g A (n + 1) k = 1 + nI k := by
  show (if A ≤ k then 1 + nI k else if f k = g k then vq_ck f g A n (k + 1) else 1 + nI k) = _
  rw [if_neg h, if_neg e]
theorem vq_crA {f g : Nat → Int32} {W k : Nat} (h : k = W) : vq_cr f g W 0 k = 0 := if_pos h
theorem vq_crB {f g : Nat → Int32} {W k : Nat} (h : ¬ k = W) : vq_cr f g W 0 k = 1 + nI k := if_neg h
theorem vq_cr1 {f g : Nat → Int32} {W n k : Nat} (h : W ≤ k) : vq_cr f g W (n + 1) k = 1 + nI k := if_pos h
theorem vq_cr2 {f g : Nat → Int32} {W n k : Nat} (h : ¬ W ≤ k) (e : f k = g k) : vq_cr f g W (n + 1) k = vq_cr f g W n (k + 1) := by
  show (if W ≤ k then 1 + nI k else if f k = g k then vq_cr f g W n (k + 1) else 1 + nI k) = _
  rw [if_neg h, if_pos e]
theorem vq_cr3 {f g : Nat → Int32} {W n k : Nat} (h : ¬ W ≤ k) (e : ¬ f k = g k) : vq_cr f g W (n + 1) k = 1 + nI k := by
  show (if W ≤ k then 1 + nI k else if f k = g k then vq_cr f g W n (k + 1) else 1 + nI k) = _
  rw [if_neg h, if_neg e]
set_option maxHeartbeats 4000000 in
set_option maxRecDepth 100000 in
theorem vr_col {m : mz_M} {A B : Nat} (hA : A < 6) (hB : B < 6) {a b : Int32} (ea : a = nI A) (eb : b = nI B) : mz_Me 3 mz_r186 [.ref 65, .int a, .int b] m (some (.int (m 66 ((70 + (6 * B)) + A)))) m := by
  subst ea
  subst eb
  refine ⟨?_, rfl⟩
  refine mz_go 9 (c' := (13, [some (.ref 65), some (.int (nI A)), some (.int (nI B))], [.int ((70 + (6 * (nI B))) + (nI A)), .ref 66], m)) rfl ?_
  refine mz_arr (c' := (14, [some (.ref 65), some (.int (nI A)), some (.int (nI B))], [.int (m 66 (((70 + (6 * (nI B))) + (nI A)).toNatClampNeg))], m)) rfl (show mz_in ((70 + (6 * (nI B))) + (nI A)) 650 = true from sm_inN (sm_addN (sm_addN rfl (sm_mulN rfl rfl)) rfl) (show ((70 + (6 * B)) + A) < 650 by omega) (by decide)) ?_
  rw [show ((70 + (6 * (nI B))) + (nI A) : Int32).toNatClampNeg = ((70 + (6 * B)) + A) from sm_clN (sm_addN (sm_addN rfl (sm_mulN rfl rfl)) rfl) (show ((70 + (6 * B)) + A) < 2 ^ 31 by omega)]
  exact mz_ret rfl
set_option maxHeartbeats 4000000 in
set_option maxRecDepth 100000 in
theorem vc_chl {w : mz_M} {WW HH AA J : Nat} (hWW : WW ≤ 6) (hHH : HH ≤ 6) (hAA : AA ≤ 24) (hJ : J < HH) (h202 : w 20 2 = nI WW) (h203 : w 20 3 = nI HH) : ∀ j k : Nat, k + j = WW → mz_Ex 100 mz_k106 (55, [some (.ref 0), some (.int (nI J)), some (.int (nI AA)), some (.ref 20), some (.int (nI k))], [], w) (some (.int (vq_ck (w 24) (fun i => w 21 ((J * 6) + i)) AA j k)), w) := by
  intro j
  induction j with
  | zero =>
    intro k hk 
    rw [show k = WW by omega]
    by_cases q1 : AA ≤ WW
    · rw [show vq_ck (w 24) (fun i => w 21 ((J * 6) + i)) AA 0 WW = 0 from vq_ckA q1]
      refine mz_go 3 (c' := (61, [some (.ref 0), some (.int (nI J)), some (.int (nI AA)), some (.ref 20), some (.int (nI WW))], [.int (w 20 2), .int (nI WW)], w)) rfl ?_
      rw [h202]
      refine mz_go 1 (c' := (if (nI WW) ≤ (nI WW) then 101 else 64, [some (.ref 0), some (.int (nI J)), some (.int (nI AA)), some (.ref 20), some (.int (nI WW))], [], w)) rfl ?_
      refine mz_ifT (show ((nI WW) ≤ (nI WW)) from (sm_leN rfl rfl (show WW ≤ WW by omega) (show WW < 2 ^ 31 by omega))) ?_
      refine mz_go 3 (c' := (106, [some (.ref 0), some (.int (nI J)), some (.int (nI AA)), some (.ref 20), some (.int (nI WW))], [.int (w 20 2), .int (nI AA)], w)) rfl ?_
      rw [h202]
      refine mz_go 1 (c' := (if (nI AA) ≤ (nI WW) then 118 else 109, [some (.ref 0), some (.int (nI J)), some (.int (nI AA)), some (.ref 20), some (.int (nI WW))], [], w)) rfl ?_
      refine mz_ifT (show ((nI AA) ≤ (nI WW)) from (sm_leN rfl rfl (show AA ≤ WW by omega) (show WW < 2 ^ 31 by omega))) ?_
      refine mz_go 1 (c' := (119, [some (.ref 0), some (.int (nI J)), some (.int (nI AA)), some (.ref 20), some (.int (nI WW))], [.int 0], w)) rfl ?_
      exact mz_ret rfl
    · rw [show vq_ck (w 24) (fun i => w 21 ((J * 6) + i)) AA 0 WW = 1 + (nI WW) from vq_ckB q1]
      refine mz_go 3 (c' := (61, [some (.ref 0), some (.int (nI J)), some (.int (nI AA)), some (.ref 20), some (.int (nI WW))], [.int (w 20 2), .int (nI WW)], w)) rfl ?_
      rw [h202]
      refine mz_go 1 (c' := (if (nI WW) ≤ (nI WW) then 101 else 64, [some (.ref 0), some (.int (nI J)), some (.int (nI AA)), some (.ref 20), some (.int (nI WW))], [], w)) rfl ?_
      refine mz_ifT (show ((nI WW) ≤ (nI WW)) from (sm_leN rfl rfl (show WW ≤ WW by omega) (show WW < 2 ^ 31 by omega))) ?_
      refine mz_go 3 (c' := (106, [some (.ref 0), some (.int (nI J)), some (.int (nI AA)), some (.ref 20), some (.int (nI WW))], [.int (w 20 2), .int (nI AA)], w)) rfl ?_
      rw [h202]
      refine mz_go 1 (c' := (if (nI AA) ≤ (nI WW) then 118 else 109, [some (.ref 0), some (.int (nI J)), some (.int (nI AA)), some (.ref 20), some (.int (nI WW))], [], w)) rfl ?_
      refine mz_ifF (show ¬ ((nI AA) ≤ (nI WW)) from (sm_nleN rfl rfl (show WW < AA by omega) (show AA < 2 ^ 31 by omega))) ?_
      refine mz_go 3 (c' := (114, [some (.ref 0), some (.int (nI J)), some (.int (nI AA)), some (.ref 20), some (.int (nI WW))], [.int (w 20 2), .int 1], w)) rfl ?_
      rw [h202]
      refine mz_go 2 (c' := (119, [some (.ref 0), some (.int (nI J)), some (.int (nI AA)), some (.ref 20), some (.int (nI WW))], [.int (1 + (nI WW))], w)) rfl ?_
      exact mz_ret rfl
  | succ j ih =>
    intro k hk 
    by_cases q1 : AA ≤ k
    · rw [show vq_ck (w 24) (fun i => w 21 ((J * 6) + i)) AA (j + 1) k = 1 + (nI k) from vq_ck1 q1]
      refine mz_go 3 (c' := (61, [some (.ref 0), some (.int (nI J)), some (.int (nI AA)), some (.ref 20), some (.int (nI k))], [.int (w 20 2), .int (nI k)], w)) rfl ?_
      rw [h202]
      refine mz_go 1 (c' := (if (nI WW) ≤ (nI k) then 101 else 64, [some (.ref 0), some (.int (nI J)), some (.int (nI AA)), some (.ref 20), some (.int (nI k))], [], w)) rfl ?_
      refine mz_ifF (show ¬ ((nI WW) ≤ (nI k)) from (sm_nleN rfl rfl (show k < WW by omega) (show WW < 2 ^ 31 by omega))) ?_
      refine mz_go 3 (c' := (if (nI AA) ≤ (nI k) then 90 else 70, [some (.ref 0), some (.int (nI J)), some (.int (nI AA)), some (.ref 20), some (.int (nI k))], [], w)) rfl ?_
      refine mz_ifT (show ((nI AA) ≤ (nI k)) from (sm_leN rfl rfl (show AA ≤ k by omega) (show k < 2 ^ 31 by omega))) ?_
      refine mz_go 3 (c' := (94, [some (.ref 0), some (.int (nI J)), some (.int (nI AA)), some (.ref 20), some (.int (nI k))], [.int (1 + (nI k))], w)) rfl ?_
      exact mz_ret rfl
    · by_cases q2 : (w 24 k) = (w 21 ((J * 6) + k))
      · rw [show vq_ck (w 24) (fun i => w 21 ((J * 6) + i)) AA (j + 1) k = vq_ck (w 24) (fun i => w 21 ((J * 6) + i)) AA j (k + 1) from vq_ck2 (f := w 24) (g := fun i => w 21 ((J * 6) + i)) q1 q2]
        have hr := ih (k + 1) (by omega) 
        rw [nI_succ k] at hr
        refine mz_go 3 (c' := (61, [some (.ref 0), some (.int (nI J)), some (.int (nI AA)), some (.ref 20), some (.int (nI k))], [.int (w 20 2), .int (nI k)], w)) rfl ?_
        rw [h202]
        refine mz_go 1 (c' := (if (nI WW) ≤ (nI k) then 101 else 64, [some (.ref 0), some (.int (nI J)), some (.int (nI AA)), some (.ref 20), some (.int (nI k))], [], w)) rfl ?_
        refine mz_ifF (show ¬ ((nI WW) ≤ (nI k)) from (sm_nleN rfl rfl (show k < WW by omega) (show WW < 2 ^ 31 by omega))) ?_
        refine mz_go 3 (c' := (if (nI AA) ≤ (nI k) then 90 else 70, [some (.ref 0), some (.int (nI J)), some (.int (nI AA)), some (.ref 20), some (.int (nI k))], [], w)) rfl ?_
        refine mz_ifF (show ¬ ((nI AA) ≤ (nI k)) from (sm_nleN rfl rfl (show k < AA by omega) (show AA < 2 ^ 31 by omega))) ?_
        refine mz_go 4 (c' := (79, [some (.ref 0), some (.int (nI J)), some (.int (nI AA)), some (.ref 20), some (.int (nI k))], [.int (nI k), .ref 24], w)) rfl ?_
        refine mz_arr (c' := (80, [some (.ref 0), some (.int (nI J)), some (.int (nI AA)), some (.ref 20), some (.int (nI k))], [.int (w 24 ((nI k).toNatClampNeg))], w)) rfl (show mz_in (nI k) 24 = true from sm_inN rfl (show k < 24 by omega) (by decide)) ?_
        rw [show (nI k : Int32).toNatClampNeg = k from sm_clN rfl (show k < 2 ^ 31 by omega)]
        refine mz_go 3 (c' := (84, [some (.ref 0), some (.int (nI J)), some (.int (nI AA)), some (.ref 20), some (.int (nI k))], [.int (nI J), .int (nI k), .ref 20, .int (w 24 k)], w)) rfl ?_
        refine mz_doQ (R := mz_r7) (as := [.ref 20, .int (nI k), .int (nI J)]) (rest := [.int (w 24 k)]) (r1 := some (.int (w 21 ((J * 6) + k)))) (m1 := w) mz_t7 mz_v7_20 rfl rfl rfl rfl rfl ⟨?_, rfl⟩ ?_
        · refine mz_go 3 (c' := (3, [some (.ref 20), some (.int (nI k)), some (.int (nI J))], [.int (nI J), .int (nI k), .ref 20], w)) rfl ?_
          refine mz_doQ (R := mz_r4) (as := [.ref 20, .int (nI k), .int (nI J)]) (rest := []) (r1 := some (.int 1)) (m1 := w) mz_t4 mz_v4_20 rfl rfl rfl rfl rfl ⟨?_, rfl⟩ ?_
          · refine mz_go 2 (c' := (if (nI k) < 0 then 40 else 4, [some (.ref 20), some (.int (nI k)), some (.int (nI J))], [], w)) rfl ?_
            refine mz_ifF (show ¬ ((nI k) < 0) from (sm_nltN rfl rfl (show 0 ≤ k by omega) (show k < 2 ^ 31 by omega))) ?_
            refine mz_go 3 (c' := (9, [some (.ref 20), some (.int (nI k)), some (.int (nI J))], [.int (w 20 2), .int (nI k)], w)) rfl ?_
            rw [h202]
            refine mz_go 1 (c' := (if (nI WW) ≤ (nI k) then 40 else 12, [some (.ref 20), some (.int (nI k)), some (.int (nI J))], [], w)) rfl ?_
            refine mz_ifF (show ¬ ((nI WW) ≤ (nI k)) from (sm_nleN rfl rfl (show k < WW by omega) (show WW < 2 ^ 31 by omega))) ?_
            refine mz_go 3 (c' := (if 6 ≤ (nI k) then 40 else 18, [some (.ref 20), some (.int (nI k)), some (.int (nI J))], [], w)) rfl ?_
            refine mz_ifF (show ¬ (6 ≤ (nI k)) from (sm_nleN rfl rfl (show k < 6 by omega) (show 6 < 2 ^ 31 by omega))) ?_
            refine mz_go 2 (c' := (if (nI J) < 0 then 40 else 22, [some (.ref 20), some (.int (nI k)), some (.int (nI J))], [], w)) rfl ?_
            refine mz_ifF (show ¬ ((nI J) < 0) from (sm_nltN rfl rfl (show 0 ≤ J by omega) (show J < 2 ^ 31 by omega))) ?_
            refine mz_go 3 (c' := (27, [some (.ref 20), some (.int (nI k)), some (.int (nI J))], [.int (w 20 3), .int (nI J)], w)) rfl ?_
            rw [h203]
            refine mz_go 1 (c' := (if (nI HH) ≤ (nI J) then 40 else 30, [some (.ref 20), some (.int (nI k)), some (.int (nI J))], [], w)) rfl ?_
            refine mz_ifF (show ¬ ((nI HH) ≤ (nI J)) from (sm_nleN rfl rfl (show J < HH by omega) (show HH < 2 ^ 31 by omega))) ?_
            refine mz_go 3 (c' := (if 6 ≤ (nI J) then 40 else 36, [some (.ref 20), some (.int (nI k)), some (.int (nI J))], [], w)) rfl ?_
            refine mz_ifF (show ¬ (6 ≤ (nI J)) from (sm_nleN rfl rfl (show J < 6 by omega) (show 6 < 2 ^ 31 by omega))) ?_
            refine mz_go 2 (c' := (41, [some (.ref 20), some (.int (nI k)), some (.int (nI J))], [.int 1], w)) rfl ?_
            exact mz_ret rfl
          refine mz_go 8 (c' := (19, [some (.ref 20), some (.int (nI k)), some (.int (nI J))], [.int (((nI J) * 6) + (nI k)), .ref 21], w)) rfl ?_
          refine mz_arr (c' := (20, [some (.ref 20), some (.int (nI k)), some (.int (nI J))], [.int (w 21 ((((nI J) * 6) + (nI k)).toNatClampNeg))], w)) rfl (show mz_in (((nI J) * 6) + (nI k)) 36 = true from sm_inN (sm_addN (sm_mulN rfl rfl) rfl) (show ((J * 6) + k) < 36 by omega) (by decide)) ?_
          rw [show (((nI J) * 6) + (nI k) : Int32).toNatClampNeg = ((J * 6) + k) from sm_clN (sm_addN (sm_mulN rfl rfl) rfl) (show ((J * 6) + k) < 2 ^ 31 by omega)]
          refine mz_go 1 (c' := (25, [some (.ref 20), some (.int (nI k)), some (.int (nI J))], [.int (w 21 ((J * 6) + k))], w)) rfl ?_
          exact mz_ret rfl
        refine mz_go 1 (c' := (if (w 24 k) = (w 21 ((J * 6) + k)) then 95 else 90, [some (.ref 0), some (.int (nI J)), some (.int (nI AA)), some (.ref 20), some (.int (nI k))], [], w)) rfl ?_
        refine mz_ifT q2 ?_
        refine mz_go 2 (c' := (55, [some (.ref 0), some (.int (nI J)), some (.int (nI AA)), some (.ref 20), some (.int ((nI k) + 1))], [], w)) rfl ?_
        exact hr
      · rw [show vq_ck (w 24) (fun i => w 21 ((J * 6) + i)) AA (j + 1) k = 1 + (nI k) from vq_ck3 (f := w 24) (g := fun i => w 21 ((J * 6) + i)) q1 q2]
        refine mz_go 3 (c' := (61, [some (.ref 0), some (.int (nI J)), some (.int (nI AA)), some (.ref 20), some (.int (nI k))], [.int (w 20 2), .int (nI k)], w)) rfl ?_
        rw [h202]
        refine mz_go 1 (c' := (if (nI WW) ≤ (nI k) then 101 else 64, [some (.ref 0), some (.int (nI J)), some (.int (nI AA)), some (.ref 20), some (.int (nI k))], [], w)) rfl ?_
        refine mz_ifF (show ¬ ((nI WW) ≤ (nI k)) from (sm_nleN rfl rfl (show k < WW by omega) (show WW < 2 ^ 31 by omega))) ?_
        refine mz_go 3 (c' := (if (nI AA) ≤ (nI k) then 90 else 70, [some (.ref 0), some (.int (nI J)), some (.int (nI AA)), some (.ref 20), some (.int (nI k))], [], w)) rfl ?_
        refine mz_ifF (show ¬ ((nI AA) ≤ (nI k)) from (sm_nleN rfl rfl (show k < AA by omega) (show AA < 2 ^ 31 by omega))) ?_
        refine mz_go 4 (c' := (79, [some (.ref 0), some (.int (nI J)), some (.int (nI AA)), some (.ref 20), some (.int (nI k))], [.int (nI k), .ref 24], w)) rfl ?_
        refine mz_arr (c' := (80, [some (.ref 0), some (.int (nI J)), some (.int (nI AA)), some (.ref 20), some (.int (nI k))], [.int (w 24 ((nI k).toNatClampNeg))], w)) rfl (show mz_in (nI k) 24 = true from sm_inN rfl (show k < 24 by omega) (by decide)) ?_
        rw [show (nI k : Int32).toNatClampNeg = k from sm_clN rfl (show k < 2 ^ 31 by omega)]
        refine mz_go 3 (c' := (84, [some (.ref 0), some (.int (nI J)), some (.int (nI AA)), some (.ref 20), some (.int (nI k))], [.int (nI J), .int (nI k), .ref 20, .int (w 24 k)], w)) rfl ?_
        refine mz_doQ (R := mz_r7) (as := [.ref 20, .int (nI k), .int (nI J)]) (rest := [.int (w 24 k)]) (r1 := some (.int (w 21 ((J * 6) + k)))) (m1 := w) mz_t7 mz_v7_20 rfl rfl rfl rfl rfl ⟨?_, rfl⟩ ?_
        · refine mz_go 3 (c' := (3, [some (.ref 20), some (.int (nI k)), some (.int (nI J))], [.int (nI J), .int (nI k), .ref 20], w)) rfl ?_
          refine mz_doQ (R := mz_r4) (as := [.ref 20, .int (nI k), .int (nI J)]) (rest := []) (r1 := some (.int 1)) (m1 := w) mz_t4 mz_v4_20 rfl rfl rfl rfl rfl ⟨?_, rfl⟩ ?_
          · refine mz_go 2 (c' := (if (nI k) < 0 then 40 else 4, [some (.ref 20), some (.int (nI k)), some (.int (nI J))], [], w)) rfl ?_
            refine mz_ifF (show ¬ ((nI k) < 0) from (sm_nltN rfl rfl (show 0 ≤ k by omega) (show k < 2 ^ 31 by omega))) ?_
            refine mz_go 3 (c' := (9, [some (.ref 20), some (.int (nI k)), some (.int (nI J))], [.int (w 20 2), .int (nI k)], w)) rfl ?_
            rw [h202]
            refine mz_go 1 (c' := (if (nI WW) ≤ (nI k) then 40 else 12, [some (.ref 20), some (.int (nI k)), some (.int (nI J))], [], w)) rfl ?_
            refine mz_ifF (show ¬ ((nI WW) ≤ (nI k)) from (sm_nleN rfl rfl (show k < WW by omega) (show WW < 2 ^ 31 by omega))) ?_
            refine mz_go 3 (c' := (if 6 ≤ (nI k) then 40 else 18, [some (.ref 20), some (.int (nI k)), some (.int (nI J))], [], w)) rfl ?_
            refine mz_ifF (show ¬ (6 ≤ (nI k)) from (sm_nleN rfl rfl (show k < 6 by omega) (show 6 < 2 ^ 31 by omega))) ?_
            refine mz_go 2 (c' := (if (nI J) < 0 then 40 else 22, [some (.ref 20), some (.int (nI k)), some (.int (nI J))], [], w)) rfl ?_
            refine mz_ifF (show ¬ ((nI J) < 0) from (sm_nltN rfl rfl (show 0 ≤ J by omega) (show J < 2 ^ 31 by omega))) ?_
            refine mz_go 3 (c' := (27, [some (.ref 20), some (.int (nI k)), some (.int (nI J))], [.int (w 20 3), .int (nI J)], w)) rfl ?_
            rw [h203]
            refine mz_go 1 (c' := (if (nI HH) ≤ (nI J) then 40 else 30, [some (.ref 20), some (.int (nI k)), some (.int (nI J))], [], w)) rfl ?_
            refine mz_ifF (show ¬ ((nI HH) ≤ (nI J)) from (sm_nleN rfl rfl (show J < HH by omega) (show HH < 2 ^ 31 by omega))) ?_
            refine mz_go 3 (c' := (if 6 ≤ (nI J) then 40 else 36, [some (.ref 20), some (.int (nI k)), some (.int (nI J))], [], w)) rfl ?_
            refine mz_ifF (show ¬ (6 ≤ (nI J)) from (sm_nleN rfl rfl (show J < 6 by omega) (show 6 < 2 ^ 31 by omega))) ?_
            refine mz_go 2 (c' := (41, [some (.ref 20), some (.int (nI k)), some (.int (nI J))], [.int 1], w)) rfl ?_
            exact mz_ret rfl
          refine mz_go 8 (c' := (19, [some (.ref 20), some (.int (nI k)), some (.int (nI J))], [.int (((nI J) * 6) + (nI k)), .ref 21], w)) rfl ?_
          refine mz_arr (c' := (20, [some (.ref 20), some (.int (nI k)), some (.int (nI J))], [.int (w 21 ((((nI J) * 6) + (nI k)).toNatClampNeg))], w)) rfl (show mz_in (((nI J) * 6) + (nI k)) 36 = true from sm_inN (sm_addN (sm_mulN rfl rfl) rfl) (show ((J * 6) + k) < 36 by omega) (by decide)) ?_
          rw [show (((nI J) * 6) + (nI k) : Int32).toNatClampNeg = ((J * 6) + k) from sm_clN (sm_addN (sm_mulN rfl rfl) rfl) (show ((J * 6) + k) < 2 ^ 31 by omega)]
          refine mz_go 1 (c' := (25, [some (.ref 20), some (.int (nI k)), some (.int (nI J))], [.int (w 21 ((J * 6) + k))], w)) rfl ?_
          exact mz_ret rfl
        refine mz_go 1 (c' := (if (w 24 k) = (w 21 ((J * 6) + k)) then 95 else 90, [some (.ref 0), some (.int (nI J)), some (.int (nI AA)), some (.ref 20), some (.int (nI k))], [], w)) rfl ?_
        refine mz_ifF q2 ?_
        refine mz_go 3 (c' := (94, [some (.ref 0), some (.int (nI J)), some (.int (nI AA)), some (.ref 20), some (.int (nI k))], [.int (1 + (nI k))], w)) rfl ?_
        exact mz_ret rfl
set_option maxHeartbeats 4000000 in
set_option maxRecDepth 100000 in
theorem vr_chl {w : mz_M} {WW HH AA J : Nat} (hWW : WW ≤ 6) (hHH : HH ≤ 6) (hAA : AA ≤ 24) (hJ : J < HH) (h6660 : w 66 60 = nI WW) : ∀ j k : Nat, k + j = AA → mz_Ex 100 mz_k227 (49, [some (.ref 65), some (.int (nI J)), some (.int (nI AA)), some (.int (nI k))], [], w) (some (.int (vq_cr (fun i => w 66 (620 + i)) (fun i => w 66 ((70 + (6 * J)) + i)) WW j k)), w) := by
  intro j
  induction j with
  | zero =>
    intro k hk 
    rw [show k = AA by omega]
    by_cases q1 : AA = WW
    · rw [show vq_cr (fun i => w 66 (620 + i)) (fun i => w 66 ((70 + (6 * J)) + i)) WW 0 AA = 0 from vq_crA q1]
      refine mz_go 3 (c' := (if (nI AA) ≤ (nI AA) then 87 else 54, [some (.ref 65), some (.int (nI J)), some (.int (nI AA)), some (.int (nI AA))], [], w)) rfl ?_
      refine mz_ifT (show ((nI AA) ≤ (nI AA)) from (sm_leN rfl rfl (show AA ≤ AA by omega) (show AA < 2 ^ 31 by omega))) ?_
      refine mz_go 3 (c' := (if (nI AA) = (nI AA) then 92 else 104, [some (.ref 65), some (.int (nI J)), some (.int (nI AA)), some (.int (nI AA))], [], w)) rfl ?_
      refine mz_ifT (show ((nI AA) = (nI AA)) from (sm_eqN rfl rfl (show AA = AA by omega))) ?_
      refine mz_go 2 (c' := (94, [some (.ref 65), some (.int (nI J)), some (.int (nI AA)), some (.int (nI AA))], [.ref 65, .int (nI AA)], w)) rfl ?_
      refine mz_doQ (R := mz_r183) (as := [.ref 65]) (rest := [.int (nI AA)]) (r1 := some (.int (nI WW))) (m1 := w) mz_t183 mz_v183_65 rfl rfl rfl rfl rfl ⟨?_, rfl⟩ ?_
      · refine mz_go 4 (c' := (7, [some (.ref 65)], [.int (w 66 60)], w)) rfl ?_
        rw [h6660]
        exact mz_ret rfl
      refine mz_go 1 (c' := (if (nI AA) = (nI WW) then 100 else 104, [some (.ref 65), some (.int (nI J)), some (.int (nI AA)), some (.int (nI AA))], [], w)) rfl ?_
      refine mz_ifT (show ((nI AA) = (nI WW)) from (sm_eqN rfl rfl (show AA = WW by omega))) ?_
      refine mz_go 2 (c' := (107, [some (.ref 65), some (.int (nI J)), some (.int (nI AA)), some (.int (nI AA))], [.int 0], w)) rfl ?_
      exact mz_ret rfl
    · rw [show vq_cr (fun i => w 66 (620 + i)) (fun i => w 66 ((70 + (6 * J)) + i)) WW 0 AA = 1 + (nI AA) from vq_crB q1]
      refine mz_go 3 (c' := (if (nI AA) ≤ (nI AA) then 87 else 54, [some (.ref 65), some (.int (nI J)), some (.int (nI AA)), some (.int (nI AA))], [], w)) rfl ?_
      refine mz_ifT (show ((nI AA) ≤ (nI AA)) from (sm_leN rfl rfl (show AA ≤ AA by omega) (show AA < 2 ^ 31 by omega))) ?_
      refine mz_go 3 (c' := (if (nI AA) = (nI AA) then 92 else 104, [some (.ref 65), some (.int (nI J)), some (.int (nI AA)), some (.int (nI AA))], [], w)) rfl ?_
      refine mz_ifT (show ((nI AA) = (nI AA)) from (sm_eqN rfl rfl (show AA = AA by omega))) ?_
      refine mz_go 2 (c' := (94, [some (.ref 65), some (.int (nI J)), some (.int (nI AA)), some (.int (nI AA))], [.ref 65, .int (nI AA)], w)) rfl ?_
      refine mz_doQ (R := mz_r183) (as := [.ref 65]) (rest := [.int (nI AA)]) (r1 := some (.int (nI WW))) (m1 := w) mz_t183 mz_v183_65 rfl rfl rfl rfl rfl ⟨?_, rfl⟩ ?_
      · refine mz_go 4 (c' := (7, [some (.ref 65)], [.int (w 66 60)], w)) rfl ?_
        rw [h6660]
        exact mz_ret rfl
      refine mz_go 1 (c' := (if (nI AA) = (nI WW) then 100 else 104, [some (.ref 65), some (.int (nI J)), some (.int (nI AA)), some (.int (nI AA))], [], w)) rfl ?_
      refine mz_ifF (show ¬ ((nI AA) = (nI WW)) from (sm_neN rfl rfl (show AA ≠ WW by omega) (show AA < 2 ^ 31 by omega) (show WW < 2 ^ 31 by omega))) ?_
      refine mz_go 3 (c' := (107, [some (.ref 65), some (.int (nI J)), some (.int (nI AA)), some (.int (nI AA))], [.int (1 + (nI AA))], w)) rfl ?_
      exact mz_ret rfl
  | succ j ih =>
    intro k hk 
    by_cases q1 : WW ≤ k
    · rw [show vq_cr (fun i => w 66 (620 + i)) (fun i => w 66 ((70 + (6 * J)) + i)) WW (j + 1) k = 1 + (nI k) from vq_cr1 q1]
      refine mz_go 3 (c' := (if (nI AA) ≤ (nI k) then 87 else 54, [some (.ref 65), some (.int (nI J)), some (.int (nI AA)), some (.int (nI k))], [], w)) rfl ?_
      refine mz_ifF (show ¬ ((nI AA) ≤ (nI k)) from (sm_nleN rfl rfl (show k < AA by omega) (show AA < 2 ^ 31 by omega))) ?_
      refine mz_go 2 (c' := (56, [some (.ref 65), some (.int (nI J)), some (.int (nI AA)), some (.int (nI k))], [.ref 65, .int (nI k)], w)) rfl ?_
      refine mz_doQ (R := mz_r183) (as := [.ref 65]) (rest := [.int (nI k)]) (r1 := some (.int (nI WW))) (m1 := w) mz_t183 mz_v183_65 rfl rfl rfl rfl rfl ⟨?_, rfl⟩ ?_
      · refine mz_go 4 (c' := (7, [some (.ref 65)], [.int (w 66 60)], w)) rfl ?_
        rw [h6660]
        exact mz_ret rfl
      refine mz_go 1 (c' := (if (nI WW) ≤ (nI k) then 87 else 62, [some (.ref 65), some (.int (nI J)), some (.int (nI AA)), some (.int (nI k))], [], w)) rfl ?_
      refine mz_ifT (show ((nI WW) ≤ (nI k)) from (sm_leN rfl rfl (show WW ≤ k by omega) (show k < 2 ^ 31 by omega))) ?_
      refine mz_go 3 (c' := (if (nI k) = (nI AA) then 92 else 104, [some (.ref 65), some (.int (nI J)), some (.int (nI AA)), some (.int (nI k))], [], w)) rfl ?_
      refine mz_ifF (show ¬ ((nI k) = (nI AA)) from (sm_neN rfl rfl (show k ≠ AA by omega) (show k < 2 ^ 31 by omega) (show AA < 2 ^ 31 by omega))) ?_
      refine mz_go 3 (c' := (107, [some (.ref 65), some (.int (nI J)), some (.int (nI AA)), some (.int (nI k))], [.int (1 + (nI k))], w)) rfl ?_
      exact mz_ret rfl
    · by_cases q2 : (w 66 (620 + k)) = (w 66 ((70 + (6 * J)) + k))
      · rw [show vq_cr (fun i => w 66 (620 + i)) (fun i => w 66 ((70 + (6 * J)) + i)) WW (j + 1) k = vq_cr (fun i => w 66 (620 + i)) (fun i => w 66 ((70 + (6 * J)) + i)) WW j (k + 1) from vq_cr2 (f := fun i => w 66 (620 + i)) (g := fun i => w 66 ((70 + (6 * J)) + i)) q1 q2]
        have hr := ih (k + 1) (by omega) 
        rw [nI_succ k] at hr
        refine mz_go 3 (c' := (if (nI AA) ≤ (nI k) then 87 else 54, [some (.ref 65), some (.int (nI J)), some (.int (nI AA)), some (.int (nI k))], [], w)) rfl ?_
        refine mz_ifF (show ¬ ((nI AA) ≤ (nI k)) from (sm_nleN rfl rfl (show k < AA by omega) (show AA < 2 ^ 31 by omega))) ?_
        refine mz_go 2 (c' := (56, [some (.ref 65), some (.int (nI J)), some (.int (nI AA)), some (.int (nI k))], [.ref 65, .int (nI k)], w)) rfl ?_
        refine mz_doQ (R := mz_r183) (as := [.ref 65]) (rest := [.int (nI k)]) (r1 := some (.int (nI WW))) (m1 := w) mz_t183 mz_v183_65 rfl rfl rfl rfl rfl ⟨?_, rfl⟩ ?_
        · refine mz_go 4 (c' := (7, [some (.ref 65)], [.int (w 66 60)], w)) rfl ?_
          rw [h6660]
          exact mz_ret rfl
        refine mz_go 1 (c' := (if (nI WW) ≤ (nI k) then 87 else 62, [some (.ref 65), some (.int (nI J)), some (.int (nI AA)), some (.int (nI k))], [], w)) rfl ?_
        refine mz_ifF (show ¬ ((nI WW) ≤ (nI k)) from (sm_nleN rfl rfl (show k < WW by omega) (show WW < 2 ^ 31 by omega))) ?_
        refine mz_go 5 (c' := (71, [some (.ref 65), some (.int (nI J)), some (.int (nI AA)), some (.int (nI k))], [.int (620 + (nI k)), .ref 66], w)) rfl ?_
        refine mz_arr (c' := (72, [some (.ref 65), some (.int (nI J)), some (.int (nI AA)), some (.int (nI k))], [.int (w 66 ((620 + (nI k)).toNatClampNeg))], w)) rfl (show mz_in (620 + (nI k)) 650 = true from sm_inN (sm_addN rfl rfl) (show (620 + k) < 650 by omega) (by decide)) ?_
        rw [show (620 + (nI k) : Int32).toNatClampNeg = (620 + k) from sm_clN (sm_addN rfl rfl) (show (620 + k) < 2 ^ 31 by omega)]
        refine mz_go 3 (c' := (75, [some (.ref 65), some (.int (nI J)), some (.int (nI AA)), some (.int (nI k))], [.int (nI J), .int (nI k), .ref 65, .int (w 66 (620 + k))], w)) rfl ?_
        refine mz_doQ (R := mz_r186) (as := [.ref 65, .int (nI k), .int (nI J)]) (rest := [.int (w 66 (620 + k))]) (r1 := some (.int (w 66 ((70 + (6 * J)) + k)))) (m1 := w) mz_t186 mz_v186_65 rfl rfl rfl rfl rfl ((vr_col (m := w) (A := k) (B := J) (by omega) (by omega) (a := nI k) (b := nI J) rfl rfl).deep (by decide)) ?_
        refine mz_go 1 (c' := (if (w 66 (620 + k)) = (w 66 ((70 + (6 * J)) + k)) then 81 else 87, [some (.ref 65), some (.int (nI J)), some (.int (nI AA)), some (.int (nI k))], [], w)) rfl ?_
        refine mz_ifT q2 ?_
        refine mz_go 2 (c' := (49, [some (.ref 65), some (.int (nI J)), some (.int (nI AA)), some (.int ((nI k) + 1))], [], w)) rfl ?_
        exact hr
      · rw [show vq_cr (fun i => w 66 (620 + i)) (fun i => w 66 ((70 + (6 * J)) + i)) WW (j + 1) k = 1 + (nI k) from vq_cr3 (f := fun i => w 66 (620 + i)) (g := fun i => w 66 ((70 + (6 * J)) + i)) q1 q2]
        refine mz_go 3 (c' := (if (nI AA) ≤ (nI k) then 87 else 54, [some (.ref 65), some (.int (nI J)), some (.int (nI AA)), some (.int (nI k))], [], w)) rfl ?_
        refine mz_ifF (show ¬ ((nI AA) ≤ (nI k)) from (sm_nleN rfl rfl (show k < AA by omega) (show AA < 2 ^ 31 by omega))) ?_
        refine mz_go 2 (c' := (56, [some (.ref 65), some (.int (nI J)), some (.int (nI AA)), some (.int (nI k))], [.ref 65, .int (nI k)], w)) rfl ?_
        refine mz_doQ (R := mz_r183) (as := [.ref 65]) (rest := [.int (nI k)]) (r1 := some (.int (nI WW))) (m1 := w) mz_t183 mz_v183_65 rfl rfl rfl rfl rfl ⟨?_, rfl⟩ ?_
        · refine mz_go 4 (c' := (7, [some (.ref 65)], [.int (w 66 60)], w)) rfl ?_
          rw [h6660]
          exact mz_ret rfl
        refine mz_go 1 (c' := (if (nI WW) ≤ (nI k) then 87 else 62, [some (.ref 65), some (.int (nI J)), some (.int (nI AA)), some (.int (nI k))], [], w)) rfl ?_
        refine mz_ifF (show ¬ ((nI WW) ≤ (nI k)) from (sm_nleN rfl rfl (show k < WW by omega) (show WW < 2 ^ 31 by omega))) ?_
        refine mz_go 5 (c' := (71, [some (.ref 65), some (.int (nI J)), some (.int (nI AA)), some (.int (nI k))], [.int (620 + (nI k)), .ref 66], w)) rfl ?_
        refine mz_arr (c' := (72, [some (.ref 65), some (.int (nI J)), some (.int (nI AA)), some (.int (nI k))], [.int (w 66 ((620 + (nI k)).toNatClampNeg))], w)) rfl (show mz_in (620 + (nI k)) 650 = true from sm_inN (sm_addN rfl rfl) (show (620 + k) < 650 by omega) (by decide)) ?_
        rw [show (620 + (nI k) : Int32).toNatClampNeg = (620 + k) from sm_clN (sm_addN rfl rfl) (show (620 + k) < 2 ^ 31 by omega)]
        refine mz_go 3 (c' := (75, [some (.ref 65), some (.int (nI J)), some (.int (nI AA)), some (.int (nI k))], [.int (nI J), .int (nI k), .ref 65, .int (w 66 (620 + k))], w)) rfl ?_
        refine mz_doQ (R := mz_r186) (as := [.ref 65, .int (nI k), .int (nI J)]) (rest := [.int (w 66 (620 + k))]) (r1 := some (.int (w 66 ((70 + (6 * J)) + k)))) (m1 := w) mz_t186 mz_v186_65 rfl rfl rfl rfl rfl ((vr_col (m := w) (A := k) (B := J) (by omega) (by omega) (a := nI k) (b := nI J) rfl rfl).deep (by decide)) ?_
        refine mz_go 1 (c' := (if (w 66 (620 + k)) = (w 66 ((70 + (6 * J)) + k)) then 81 else 87, [some (.ref 65), some (.int (nI J)), some (.int (nI AA)), some (.int (nI k))], [], w)) rfl ?_
        refine mz_ifF q2 ?_
        refine mz_go 3 (c' := (if (nI k) = (nI AA) then 92 else 104, [some (.ref 65), some (.int (nI J)), some (.int (nI AA)), some (.int (nI k))], [], w)) rfl ?_
        refine mz_ifF (show ¬ ((nI k) = (nI AA)) from (sm_neN rfl rfl (show k ≠ AA by omega) (show k < 2 ^ 31 by omega) (show AA < 2 ^ 31 by omega))) ?_
        refine mz_go 3 (c' := (107, [some (.ref 65), some (.int (nI J)), some (.int (nI AA)), some (.int (nI k))], [.int (1 + (nI k))], w)) rfl ?_
        exact mz_ret rfl
set_option maxHeartbeats 4000000 in
set_option maxRecDepth 100000 in
theorem sc_check {n : Nat} (hn : n < 64) {w : mz_M} (hI : sm_I n w) (xa : Int32) : ∃ v1 v2 m1 m2, mz_Me 100 mz_r106 [.ref 0, .int xa] w (some (.int v1)) m1 ∧ mz_Me 100 mz_r227 [.ref 65, .int xa] m1 (some (.int v2)) m2 ∧ sm_I (n + 1) m2 ∧ v1 = v2 := by
  have hI2 := hI
  obtain ⟨hn0, ⟨-, ⟨hr80, hr5, hrr⟩, ⟨⟨TT, hTT, h81, h661⟩, htp⟩, ⟨⟨T0, hT0, hU0, hV0, -⟩, ⟨T1, hT1, hU1, hV1, -⟩, ⟨T2, hT2, hU2, hV2, -⟩⟩, ⟨hbx, hby, hbl⟩, ⟨⟨WW, HH, hWW, hHH, hWH, h202, h203, h6660, h6661⟩, h6662, h6663, h6664, hpc⟩, ⟨hth, h66160, hthr⟩, ⟨⟨AA, hAA, h111, h662⟩, h663, hwt⟩⟩, ⟨hsh, hsn⟩, ⟨hcb1, hcb2⟩, ⟨JJ, hJJ, h07, h652, hkept⟩⟩ := hI
  obtain ⟨N, hw, hr2, h660, -, -, h6615⟩ := sm_world hI2
  have hw2 := hw
  obtain ⟨hN, h4, hpb, -, -⟩ := hw2
  have hT60a := sm_T60 hV0
  have hT60b := sm_T60 hV1
  have hT60c := sm_T60 hV2
  obtain ⟨B1, hB1, e571⟩ := sm_Nof (by decide) hcb1
  obtain ⟨B2, hB2, e6519⟩ := sm_Nof (by decide) hcb2
  refine mz_two (fun _ => rfl) (fun _ => rfl) ?_
  by_cases q1 : WW ≤ 0
  · refine mz_goP 3 (c' := (7, [some (.ref 0), some (.int xa), none, none, none], [.int (w 1 11)], w)) rfl ?_
    rw [h111]
    refine mz_goP 10 (c' := (25, [some (.ref 0), some (.int xa), some (.int (nI AA)), some (.ref 20), none], [.ref 20], mz_up w 1 11 0)) rfl ?_
    refine mz_doPQ (R := mz_r2) (as := [.ref 20]) (rest := []) (r1 := some (.int 0)) (m1 := mz_up w 1 11 0) mz_t2 mz_v2_20 rfl rfl rfl rfl rfl ⟨?_, rfl⟩ ?_
    · refine mz_go 2 (c' := (4, [some (.ref 20)], [.int (w 20 2)], mz_up w 1 11 0)) rfl ?_
      rw [h202]
      refine mz_go 1 (c' := (if (nI WW) ≤ 0 then 18 else 7, [some (.ref 20)], [], mz_up w 1 11 0)) rfl ?_
      refine mz_ifT (show ((nI WW) ≤ 0) from (sm_leN rfl rfl (show WW ≤ 0 by omega) (show 0 < 2 ^ 31 by omega))) ?_
      refine mz_go 1 (c' := (19, [some (.ref 20)], [.int 0], mz_up w 1 11 0)) rfl ?_
      exact mz_ret rfl
    refine mz_goP 3 (c' := (33, [some (.ref 0), some (.int xa), some (.int (nI AA)), some (.ref 20), none], [.int 2, .ref 0], mz_up w 1 11 0)) rfl ?_
    refine mz_doPQ (R := mz_r109) (as := [.ref 0, .int 2]) (rest := []) (r1 := some (.int (-1000002))) (m1 := mz_up (mz_up w 1 11 0) 64 2 ((w 64 2) + 1)) mz_t109 mz_v109_0 rfl rfl rfl rfl rfl ((cs_err2 (m := mz_up w 1 11 0)).deep (by decide)) ?_
    refine mz_retP (r := (some (.int ((-1000002))), mz_up (mz_up w 1 11 0) 64 2 ((w 64 2) + 1))) rfl ⟨(-1000002), rfl, ?_⟩
    refine mz_goP 4 (c' := (6, [some (.ref 65), some (.int xa), none, none], [.int (w 66 2)], mz_up (mz_up w 1 11 0) 64 2 ((w 64 2) + 1))) rfl ?_
    rw [h662]
    refine mz_goP 7 (c' := (15, [some (.ref 65), some (.int xa), some (.int (nI AA)), none], [.ref 65], mz_up (mz_up (mz_up w 1 11 0) 64 2 ((w 64 2) + 1)) 66 2 0)) rfl ?_
    refine mz_doPQ (R := mz_r185) (as := [.ref 65]) (rest := []) (r1 := some (.int 0)) (m1 := mz_up (mz_up (mz_up w 1 11 0) 64 2 ((w 64 2) + 1)) 66 2 0) mz_t185 mz_v185_65 rfl rfl rfl rfl rfl ⟨?_, rfl⟩ ?_
    · refine mz_go 1 (c' := (1, [some (.ref 65)], [.ref 65], mz_up (mz_up (mz_up w 1 11 0) 64 2 ((w 64 2) + 1)) 66 2 0)) rfl ?_
      refine mz_doQ (R := mz_r183) (as := [.ref 65]) (rest := []) (r1 := some (.int (nI WW))) (m1 := mz_up (mz_up (mz_up w 1 11 0) 64 2 ((w 64 2) + 1)) 66 2 0) mz_t183 mz_v183_65 rfl rfl rfl rfl rfl ⟨?_, rfl⟩ ?_
      · refine mz_go 4 (c' := (7, [some (.ref 65)], [.int (w 66 60)], mz_up (mz_up (mz_up w 1 11 0) 64 2 ((w 64 2) + 1)) 66 2 0)) rfl ?_
        rw [h6660]
        exact mz_ret rfl
      refine mz_go 1 (c' := (if (nI WW) ≤ 0 then 11 else 7, [some (.ref 65)], [], mz_up (mz_up (mz_up w 1 11 0) 64 2 ((w 64 2) + 1)) 66 2 0)) rfl ?_
      refine mz_ifT (show ((nI WW) ≤ 0) from (sm_leN rfl rfl (show WW ≤ 0 by omega) (show 0 < 2 ^ 31 by omega))) ?_
      refine mz_go 1 (c' := (12, [some (.ref 65)], [.int 0], mz_up (mz_up (mz_up w 1 11 0) 64 2 ((w 64 2) + 1)) 66 2 0)) rfl ?_
      exact mz_ret rfl
    refine mz_goP 3 (c' := (23, [some (.ref 65), some (.int xa), some (.int (nI AA)), none], [.int 2, .ref 65], mz_up (mz_up (mz_up w 1 11 0) 64 2 ((w 64 2) + 1)) 66 2 0)) rfl ?_
    refine mz_doPQ (R := mz_r127) (as := [.ref 65, .int 2]) (rest := []) (r1 := some (.int (-1000002))) (m1 := mz_up (mz_up (mz_up (mz_up w 1 11 0) 64 2 ((w 64 2) + 1)) 66 2 0) 68 2 ((w 68 2) + 1)) mz_t127 mz_v127_65 rfl rfl rfl rfl rfl ((ct_err2 (m := mz_up (mz_up (mz_up w 1 11 0) 64 2 ((w 64 2) + 1)) 66 2 0)).deep (by decide)) ?_
    refine mz_retP (r := (some (.int ((-1000002))), mz_up (mz_up (mz_up (mz_up w 1 11 0) 64 2 ((w 64 2) + 1)) 66 2 0) 68 2 ((w 68 2) + 1))) rfl ⟨(-1000002), rfl, ?_, rfl⟩
    show sm_I (n + 1) (mz_up (mz_up (mz_up (mz_up w 1 11 0) 64 2 ((w 64 2) + 1)) 66 2 0) 68 2 ((w 68 2) + 1))
    obtain ⟨-, ⟨d1, d2, d3, ⟨d4, d4b, d4c⟩, d5, d6, d7, d8⟩, da, db, dc⟩ := hI2
    have hs : ∀ i, i ≠ 2 → (mz_up (mz_up (mz_up (mz_up w 1 11 0) 64 2 ((w 64 2) + 1)) 66 2 0) 68 2 ((w 68 2) + 1)) 66 i = w 66 i := fun i p0 => by rw [mz_up_ne (show (66 : Nat) ≠ 68 by decide), mz_up_eq, if_neg (by omega), mz_up_ne (show (66 : Nat) ≠ 64 by decide), mz_up_ne (show (66 : Nat) ≠ 1 by decide)]
    exact ⟨hn, ⟨sm_k1 (hs 0 (by omega)) (fun i h1 h2 => hs i (by omega)) d1, sm_k2 (fun i h1 h2 => hs i (by omega)) d2, sm_k3 (hs 1 (by omega)) (fun i h1 h2 => hs i (by omega)) d3, ⟨sm_k4 (fun i h1 h2 => hs i (by omega)) d4, sm_k4 (fun i h1 h2 => hs i (by omega)) d4b, sm_k4 (fun i h1 h2 => hs i (by omega)) d4c⟩, sm_k5 (fun i h1 h2 => hs i (by omega)) d5, sm_k6 (fun i h1 h2 => hs i (by omega)) d6, sm_k7 (fun i h1 h2 => hs i (by omega)) d7, ⟨⟨0, by omega, rfl, rfl⟩, (hs 3 (by omega)).trans d8.2.1, fun i h => (hs _ (by omega)).trans (d8.2.2 i h)⟩⟩, da, db, sm_cc_of (fun i h1 h2 => by simp only [mz_up_ne (show i ≠ 1 by omega), mz_up_ne (show i ≠ 64 by omega), mz_up_ne (show i ≠ 66 by omega), mz_up_ne (show i ≠ 68 by omega)]) dc⟩
  · by_cases q2 : xa < 0
    · refine mz_goP 3 (c' := (7, [some (.ref 0), some (.int xa), none, none, none], [.int (w 1 11)], w)) rfl ?_
      rw [h111]
      refine mz_goP 10 (c' := (25, [some (.ref 0), some (.int xa), some (.int (nI AA)), some (.ref 20), none], [.ref 20], mz_up w 1 11 0)) rfl ?_
      refine mz_doPQ (R := mz_r2) (as := [.ref 20]) (rest := []) (r1 := some (.int 1)) (m1 := mz_up w 1 11 0) mz_t2 mz_v2_20 rfl rfl rfl rfl rfl ⟨?_, rfl⟩ ?_
      · refine mz_go 2 (c' := (4, [some (.ref 20)], [.int (w 20 2)], mz_up w 1 11 0)) rfl ?_
        rw [h202]
        refine mz_go 1 (c' := (if (nI WW) ≤ 0 then 18 else 7, [some (.ref 20)], [], mz_up w 1 11 0)) rfl ?_
        refine mz_ifF (show ¬ ((nI WW) ≤ 0) from (sm_nleN rfl rfl (show 0 < WW by omega) (show WW < 2 ^ 31 by omega))) ?_
        refine mz_go 2 (c' := (11, [some (.ref 20)], [.int (w 20 3)], mz_up w 1 11 0)) rfl ?_
        rw [h203]
        refine mz_go 1 (c' := (if (nI HH) ≤ 0 then 18 else 14, [some (.ref 20)], [], mz_up w 1 11 0)) rfl ?_
        refine mz_ifF (show ¬ ((nI HH) ≤ 0) from (sm_nleN rfl rfl (show 0 < HH by omega) (show HH < 2 ^ 31 by omega))) ?_
        refine mz_go 2 (c' := (19, [some (.ref 20)], [.int 1], mz_up w 1 11 0)) rfl ?_
        exact mz_ret rfl
      refine mz_goP 4 (c' := (40, [some (.ref 0), some (.int xa), some (.int (nI AA)), some (.ref 20), none], [.int xa, .int 0, .ref 20], mz_up w 1 11 0)) rfl ?_
      refine mz_doPQ (R := mz_r4) (as := [.ref 20, .int 0, .int xa]) (rest := []) (r1 := some (.int 0)) (m1 := mz_up w 1 11 0) mz_t4 mz_v4_20 rfl rfl rfl rfl rfl ⟨?_, rfl⟩ ?_
      · refine mz_go 5 (c' := (9, [some (.ref 20), some (.int 0), some (.int xa)], [.int (w 20 2), .int 0], mz_up w 1 11 0)) rfl ?_
        rw [h202]
        refine mz_go 1 (c' := (if (nI WW) ≤ 0 then 40 else 12, [some (.ref 20), some (.int 0), some (.int xa)], [], mz_up w 1 11 0)) rfl ?_
        refine mz_ifF (show ¬ ((nI WW) ≤ 0) from (sm_nleN rfl rfl (show 0 < WW by omega) (show WW < 2 ^ 31 by omega))) ?_
        refine mz_go 5 (c' := (if xa < 0 then 40 else 22, [some (.ref 20), some (.int 0), some (.int xa)], [], mz_up w 1 11 0)) rfl ?_
        refine mz_ifT q2 ?_
        refine mz_go 1 (c' := (41, [some (.ref 20), some (.int 0), some (.int xa)], [.int 0], mz_up w 1 11 0)) rfl ?_
        exact mz_ret rfl
      refine mz_goP 3 (c' := (48, [some (.ref 0), some (.int xa), some (.int (nI AA)), some (.ref 20), none], [.int 1, .ref 0], mz_up w 1 11 0)) rfl ?_
      refine mz_doPQ (R := mz_r109) (as := [.ref 0, .int 1]) (rest := []) (r1 := some (.int (-1000001))) (m1 := mz_up (mz_up w 1 11 0) 64 1 ((w 64 1) + 1)) mz_t109 mz_v109_0 rfl rfl rfl rfl rfl ((cs_err1 (m := mz_up w 1 11 0)).deep (by decide)) ?_
      refine mz_retP (r := (some (.int ((-1000001))), mz_up (mz_up w 1 11 0) 64 1 ((w 64 1) + 1))) rfl ⟨(-1000001), rfl, ?_⟩
      refine mz_goP 4 (c' := (6, [some (.ref 65), some (.int xa), none, none], [.int (w 66 2)], mz_up (mz_up w 1 11 0) 64 1 ((w 64 1) + 1))) rfl ?_
      rw [h662]
      refine mz_goP 7 (c' := (15, [some (.ref 65), some (.int xa), some (.int (nI AA)), none], [.ref 65], mz_up (mz_up (mz_up w 1 11 0) 64 1 ((w 64 1) + 1)) 66 2 0)) rfl ?_
      refine mz_doPQ (R := mz_r185) (as := [.ref 65]) (rest := []) (r1 := some (.int 1)) (m1 := mz_up (mz_up (mz_up w 1 11 0) 64 1 ((w 64 1) + 1)) 66 2 0) mz_t185 mz_v185_65 rfl rfl rfl rfl rfl ⟨?_, rfl⟩ ?_
      · refine mz_go 1 (c' := (1, [some (.ref 65)], [.ref 65], mz_up (mz_up (mz_up w 1 11 0) 64 1 ((w 64 1) + 1)) 66 2 0)) rfl ?_
        refine mz_doQ (R := mz_r183) (as := [.ref 65]) (rest := []) (r1 := some (.int (nI WW))) (m1 := mz_up (mz_up (mz_up w 1 11 0) 64 1 ((w 64 1) + 1)) 66 2 0) mz_t183 mz_v183_65 rfl rfl rfl rfl rfl ⟨?_, rfl⟩ ?_
        · refine mz_go 4 (c' := (7, [some (.ref 65)], [.int (w 66 60)], mz_up (mz_up (mz_up w 1 11 0) 64 1 ((w 64 1) + 1)) 66 2 0)) rfl ?_
          rw [h6660]
          exact mz_ret rfl
        refine mz_go 1 (c' := (if (nI WW) ≤ 0 then 11 else 7, [some (.ref 65)], [], mz_up (mz_up (mz_up w 1 11 0) 64 1 ((w 64 1) + 1)) 66 2 0)) rfl ?_
        refine mz_ifF (show ¬ ((nI WW) ≤ 0) from (sm_nleN rfl rfl (show 0 < WW by omega) (show WW < 2 ^ 31 by omega))) ?_
        refine mz_go 2 (c' := (12, [some (.ref 65)], [.int 1], mz_up (mz_up (mz_up w 1 11 0) 64 1 ((w 64 1) + 1)) 66 2 0)) rfl ?_
        exact mz_ret rfl
      refine mz_goP 4 (c' := (30, [some (.ref 65), some (.int xa), some (.int (nI AA)), none], [.ref 65, .int 0, .int xa], mz_up (mz_up (mz_up w 1 11 0) 64 1 ((w 64 1) + 1)) 66 2 0)) rfl ?_
      refine mz_doPQ (R := mz_r184) (as := [.ref 65]) (rest := [.int 0, .int xa]) (r1 := some (.int (nI HH))) (m1 := mz_up (mz_up (mz_up w 1 11 0) 64 1 ((w 64 1) + 1)) 66 2 0) mz_t184 mz_v184_65 rfl rfl rfl rfl rfl ⟨?_, rfl⟩ ?_
      · refine mz_go 4 (c' := (7, [some (.ref 65)], [.int (w 66 61)], mz_up (mz_up (mz_up w 1 11 0) 64 1 ((w 64 1) + 1)) 66 2 0)) rfl ?_
        rw [h6661]
        exact mz_ret rfl
      refine mz_goP 2 (c' := (35, [some (.ref 65), some (.int xa), some (.int (nI AA)), none], [.int ((nI HH) - 1), .int 0, .int xa], mz_up (mz_up (mz_up w 1 11 0) 64 1 ((w 64 1) + 1)) 66 2 0)) rfl ?_
      refine mz_doPQ (R := mz_r128) (as := [.int xa, .int 0, .int ((nI HH) - 1)]) (rest := []) (r1 := some (.int 0)) (m1 := mz_up (mz_up (mz_up w 1 11 0) 64 1 ((w 64 1) + 1)) 66 2 0) mz_t128 mz_v128 rfl rfl rfl rfl rfl ((ct_inL (m := mz_up (mz_up (mz_up w 1 11 0) 64 1 ((w 64 1) + 1)) 66 2 0) (v := xa) (a := 0) (b := (nI HH) - 1) q2).deep (by decide)) ?_
      refine mz_goP 3 (c' := (43, [some (.ref 65), some (.int xa), some (.int (nI AA)), none], [.int 1, .ref 65], mz_up (mz_up (mz_up w 1 11 0) 64 1 ((w 64 1) + 1)) 66 2 0)) rfl ?_
      refine mz_doPQ (R := mz_r127) (as := [.ref 65, .int 1]) (rest := []) (r1 := some (.int (-1000001))) (m1 := mz_up (mz_up (mz_up (mz_up w 1 11 0) 64 1 ((w 64 1) + 1)) 66 2 0) 68 1 ((w 68 1) + 1)) mz_t127 mz_v127_65 rfl rfl rfl rfl rfl ((ct_err1 (m := mz_up (mz_up (mz_up w 1 11 0) 64 1 ((w 64 1) + 1)) 66 2 0)).deep (by decide)) ?_
      refine mz_retP (r := (some (.int ((-1000001))), mz_up (mz_up (mz_up (mz_up w 1 11 0) 64 1 ((w 64 1) + 1)) 66 2 0) 68 1 ((w 68 1) + 1))) rfl ⟨(-1000001), rfl, ?_, rfl⟩
      show sm_I (n + 1) (mz_up (mz_up (mz_up (mz_up w 1 11 0) 64 1 ((w 64 1) + 1)) 66 2 0) 68 1 ((w 68 1) + 1))
      obtain ⟨-, ⟨d1, d2, d3, ⟨d4, d4b, d4c⟩, d5, d6, d7, d8⟩, da, db, dc⟩ := hI2
      have hs : ∀ i, i ≠ 2 → (mz_up (mz_up (mz_up (mz_up w 1 11 0) 64 1 ((w 64 1) + 1)) 66 2 0) 68 1 ((w 68 1) + 1)) 66 i = w 66 i := fun i p0 => by rw [mz_up_ne (show (66 : Nat) ≠ 68 by decide), mz_up_eq, if_neg (by omega), mz_up_ne (show (66 : Nat) ≠ 64 by decide), mz_up_ne (show (66 : Nat) ≠ 1 by decide)]
      exact ⟨hn, ⟨sm_k1 (hs 0 (by omega)) (fun i h1 h2 => hs i (by omega)) d1, sm_k2 (fun i h1 h2 => hs i (by omega)) d2, sm_k3 (hs 1 (by omega)) (fun i h1 h2 => hs i (by omega)) d3, ⟨sm_k4 (fun i h1 h2 => hs i (by omega)) d4, sm_k4 (fun i h1 h2 => hs i (by omega)) d4b, sm_k4 (fun i h1 h2 => hs i (by omega)) d4c⟩, sm_k5 (fun i h1 h2 => hs i (by omega)) d5, sm_k6 (fun i h1 h2 => hs i (by omega)) d6, sm_k7 (fun i h1 h2 => hs i (by omega)) d7, ⟨⟨0, by omega, rfl, rfl⟩, (hs 3 (by omega)).trans d8.2.1, fun i h => (hs _ (by omega)).trans (d8.2.2 i h)⟩⟩, da, db, sm_cc_of (fun i h1 h2 => by simp only [mz_up_ne (show i ≠ 1 by omega), mz_up_ne (show i ≠ 64 by omega), mz_up_ne (show i ≠ 66 by omega), mz_up_ne (show i ≠ 68 by omega)]) dc⟩
    · obtain ⟨jxa, hjxa, rfl⟩ := nI_of q2
      refine mz_goP 3 (c' := (7, [some (.ref 0), some (.int (nI jxa)), none, none, none], [.int (w 1 11)], w)) rfl ?_
      rw [h111]
      refine mz_goP 10 (c' := (25, [some (.ref 0), some (.int (nI jxa)), some (.int (nI AA)), some (.ref 20), none], [.ref 20], mz_up w 1 11 0)) rfl ?_
      refine mz_doPQ (R := mz_r2) (as := [.ref 20]) (rest := []) (r1 := some (.int 1)) (m1 := mz_up w 1 11 0) mz_t2 mz_v2_20 rfl rfl rfl rfl rfl ⟨?_, rfl⟩ ?_
      · refine mz_go 2 (c' := (4, [some (.ref 20)], [.int (w 20 2)], mz_up w 1 11 0)) rfl ?_
        rw [h202]
        refine mz_go 1 (c' := (if (nI WW) ≤ 0 then 18 else 7, [some (.ref 20)], [], mz_up w 1 11 0)) rfl ?_
        refine mz_ifF (show ¬ ((nI WW) ≤ 0) from (sm_nleN rfl rfl (show 0 < WW by omega) (show WW < 2 ^ 31 by omega))) ?_
        refine mz_go 2 (c' := (11, [some (.ref 20)], [.int (w 20 3)], mz_up w 1 11 0)) rfl ?_
        rw [h203]
        refine mz_go 1 (c' := (if (nI HH) ≤ 0 then 18 else 14, [some (.ref 20)], [], mz_up w 1 11 0)) rfl ?_
        refine mz_ifF (show ¬ ((nI HH) ≤ 0) from (sm_nleN rfl rfl (show 0 < HH by omega) (show HH < 2 ^ 31 by omega))) ?_
        refine mz_go 2 (c' := (19, [some (.ref 20)], [.int 1], mz_up w 1 11 0)) rfl ?_
        exact mz_ret rfl
      refine mz_goP 4 (c' := (40, [some (.ref 0), some (.int (nI jxa)), some (.int (nI AA)), some (.ref 20), none], [.int (nI jxa), .int 0, .ref 20], mz_up w 1 11 0)) rfl ?_
      by_cases q3 : HH ≤ jxa
      · refine mz_doPQ (R := mz_r4) (as := [.ref 20, .int 0, .int (nI jxa)]) (rest := []) (r1 := some (.int 0)) (m1 := mz_up w 1 11 0) mz_t4 mz_v4_20 rfl rfl rfl rfl rfl ⟨?_, rfl⟩ ?_
        · refine mz_go 5 (c' := (9, [some (.ref 20), some (.int 0), some (.int (nI jxa))], [.int (w 20 2), .int 0], mz_up w 1 11 0)) rfl ?_
          rw [h202]
          refine mz_go 1 (c' := (if (nI WW) ≤ 0 then 40 else 12, [some (.ref 20), some (.int 0), some (.int (nI jxa))], [], mz_up w 1 11 0)) rfl ?_
          refine mz_ifF (show ¬ ((nI WW) ≤ 0) from (sm_nleN rfl rfl (show 0 < WW by omega) (show WW < 2 ^ 31 by omega))) ?_
          refine mz_go 5 (c' := (if (nI jxa) < 0 then 40 else 22, [some (.ref 20), some (.int 0), some (.int (nI jxa))], [], mz_up w 1 11 0)) rfl ?_
          refine mz_ifF q2 ?_
          refine mz_go 3 (c' := (27, [some (.ref 20), some (.int 0), some (.int (nI jxa))], [.int (w 20 3), .int (nI jxa)], mz_up w 1 11 0)) rfl ?_
          rw [h203]
          refine mz_go 1 (c' := (if (nI HH) ≤ (nI jxa) then 40 else 30, [some (.ref 20), some (.int 0), some (.int (nI jxa))], [], mz_up w 1 11 0)) rfl ?_
          refine mz_ifT (show ((nI HH) ≤ (nI jxa)) from (sm_leN rfl rfl (show HH ≤ jxa by omega) (show jxa < 2 ^ 31 by omega))) ?_
          refine mz_go 1 (c' := (41, [some (.ref 20), some (.int 0), some (.int (nI jxa))], [.int 0], mz_up w 1 11 0)) rfl ?_
          exact mz_ret rfl
        refine mz_goP 3 (c' := (48, [some (.ref 0), some (.int (nI jxa)), some (.int (nI AA)), some (.ref 20), none], [.int 1, .ref 0], mz_up w 1 11 0)) rfl ?_
        refine mz_doPQ (R := mz_r109) (as := [.ref 0, .int 1]) (rest := []) (r1 := some (.int (-1000001))) (m1 := mz_up (mz_up w 1 11 0) 64 1 ((w 64 1) + 1)) mz_t109 mz_v109_0 rfl rfl rfl rfl rfl ((cs_err1 (m := mz_up w 1 11 0)).deep (by decide)) ?_
        refine mz_retP (r := (some (.int ((-1000001))), mz_up (mz_up w 1 11 0) 64 1 ((w 64 1) + 1))) rfl ⟨(-1000001), rfl, ?_⟩
        refine mz_goP 4 (c' := (6, [some (.ref 65), some (.int (nI jxa)), none, none], [.int (w 66 2)], mz_up (mz_up w 1 11 0) 64 1 ((w 64 1) + 1))) rfl ?_
        rw [h662]
        refine mz_goP 7 (c' := (15, [some (.ref 65), some (.int (nI jxa)), some (.int (nI AA)), none], [.ref 65], mz_up (mz_up (mz_up w 1 11 0) 64 1 ((w 64 1) + 1)) 66 2 0)) rfl ?_
        refine mz_doPQ (R := mz_r185) (as := [.ref 65]) (rest := []) (r1 := some (.int 1)) (m1 := mz_up (mz_up (mz_up w 1 11 0) 64 1 ((w 64 1) + 1)) 66 2 0) mz_t185 mz_v185_65 rfl rfl rfl rfl rfl ⟨?_, rfl⟩ ?_
        · refine mz_go 1 (c' := (1, [some (.ref 65)], [.ref 65], mz_up (mz_up (mz_up w 1 11 0) 64 1 ((w 64 1) + 1)) 66 2 0)) rfl ?_
          refine mz_doQ (R := mz_r183) (as := [.ref 65]) (rest := []) (r1 := some (.int (nI WW))) (m1 := mz_up (mz_up (mz_up w 1 11 0) 64 1 ((w 64 1) + 1)) 66 2 0) mz_t183 mz_v183_65 rfl rfl rfl rfl rfl ⟨?_, rfl⟩ ?_
          · refine mz_go 4 (c' := (7, [some (.ref 65)], [.int (w 66 60)], mz_up (mz_up (mz_up w 1 11 0) 64 1 ((w 64 1) + 1)) 66 2 0)) rfl ?_
            rw [h6660]
            exact mz_ret rfl
          refine mz_go 1 (c' := (if (nI WW) ≤ 0 then 11 else 7, [some (.ref 65)], [], mz_up (mz_up (mz_up w 1 11 0) 64 1 ((w 64 1) + 1)) 66 2 0)) rfl ?_
          refine mz_ifF (show ¬ ((nI WW) ≤ 0) from (sm_nleN rfl rfl (show 0 < WW by omega) (show WW < 2 ^ 31 by omega))) ?_
          refine mz_go 2 (c' := (12, [some (.ref 65)], [.int 1], mz_up (mz_up (mz_up w 1 11 0) 64 1 ((w 64 1) + 1)) 66 2 0)) rfl ?_
          exact mz_ret rfl
        refine mz_goP 4 (c' := (30, [some (.ref 65), some (.int (nI jxa)), some (.int (nI AA)), none], [.ref 65, .int 0, .int (nI jxa)], mz_up (mz_up (mz_up w 1 11 0) 64 1 ((w 64 1) + 1)) 66 2 0)) rfl ?_
        refine mz_doPQ (R := mz_r184) (as := [.ref 65]) (rest := [.int 0, .int (nI jxa)]) (r1 := some (.int (nI HH))) (m1 := mz_up (mz_up (mz_up w 1 11 0) 64 1 ((w 64 1) + 1)) 66 2 0) mz_t184 mz_v184_65 rfl rfl rfl rfl rfl ⟨?_, rfl⟩ ?_
        · refine mz_go 4 (c' := (7, [some (.ref 65)], [.int (w 66 61)], mz_up (mz_up (mz_up w 1 11 0) 64 1 ((w 64 1) + 1)) 66 2 0)) rfl ?_
          rw [h6661]
          exact mz_ret rfl
        refine mz_goP 2 (c' := (35, [some (.ref 65), some (.int (nI jxa)), some (.int (nI AA)), none], [.int ((nI HH) - 1), .int 0, .int (nI jxa)], mz_up (mz_up (mz_up w 1 11 0) 64 1 ((w 64 1) + 1)) 66 2 0)) rfl ?_
        refine mz_doPQ (R := mz_r128) (as := [.int (nI jxa), .int 0, .int ((nI HH) - 1)]) (rest := []) (r1 := some (.int 0)) (m1 := mz_up (mz_up (mz_up w 1 11 0) 64 1 ((w 64 1) + 1)) 66 2 0) mz_t128 mz_v128 rfl rfl rfl rfl rfl ((ct_inG (m := mz_up (mz_up (mz_up w 1 11 0) 64 1 ((w 64 1) + 1)) 66 2 0) (v := nI jxa) (a := 0) (b := (nI HH) - 1) q2 (show (((nI HH) - 1) < (nI jxa)) from (sm_ltN (sm_subN (a := HH) (b := 1) rfl rfl (by omega)) rfl (show (HH - 1) < jxa by omega) (show jxa < 2 ^ 31 by omega)))).deep (by decide)) ?_
        refine mz_goP 3 (c' := (43, [some (.ref 65), some (.int (nI jxa)), some (.int (nI AA)), none], [.int 1, .ref 65], mz_up (mz_up (mz_up w 1 11 0) 64 1 ((w 64 1) + 1)) 66 2 0)) rfl ?_
        refine mz_doPQ (R := mz_r127) (as := [.ref 65, .int 1]) (rest := []) (r1 := some (.int (-1000001))) (m1 := mz_up (mz_up (mz_up (mz_up w 1 11 0) 64 1 ((w 64 1) + 1)) 66 2 0) 68 1 ((w 68 1) + 1)) mz_t127 mz_v127_65 rfl rfl rfl rfl rfl ((ct_err1 (m := mz_up (mz_up (mz_up w 1 11 0) 64 1 ((w 64 1) + 1)) 66 2 0)).deep (by decide)) ?_
        refine mz_retP (r := (some (.int ((-1000001))), mz_up (mz_up (mz_up (mz_up w 1 11 0) 64 1 ((w 64 1) + 1)) 66 2 0) 68 1 ((w 68 1) + 1))) rfl ⟨(-1000001), rfl, ?_, rfl⟩
        show sm_I (n + 1) (mz_up (mz_up (mz_up (mz_up w 1 11 0) 64 1 ((w 64 1) + 1)) 66 2 0) 68 1 ((w 68 1) + 1))
        obtain ⟨-, ⟨d1, d2, d3, ⟨d4, d4b, d4c⟩, d5, d6, d7, d8⟩, da, db, dc⟩ := hI2
        have hs : ∀ i, i ≠ 2 → (mz_up (mz_up (mz_up (mz_up w 1 11 0) 64 1 ((w 64 1) + 1)) 66 2 0) 68 1 ((w 68 1) + 1)) 66 i = w 66 i := fun i p0 => by rw [mz_up_ne (show (66 : Nat) ≠ 68 by decide), mz_up_eq, if_neg (by omega), mz_up_ne (show (66 : Nat) ≠ 64 by decide), mz_up_ne (show (66 : Nat) ≠ 1 by decide)]
        exact ⟨hn, ⟨sm_k1 (hs 0 (by omega)) (fun i h1 h2 => hs i (by omega)) d1, sm_k2 (fun i h1 h2 => hs i (by omega)) d2, sm_k3 (hs 1 (by omega)) (fun i h1 h2 => hs i (by omega)) d3, ⟨sm_k4 (fun i h1 h2 => hs i (by omega)) d4, sm_k4 (fun i h1 h2 => hs i (by omega)) d4b, sm_k4 (fun i h1 h2 => hs i (by omega)) d4c⟩, sm_k5 (fun i h1 h2 => hs i (by omega)) d5, sm_k6 (fun i h1 h2 => hs i (by omega)) d6, sm_k7 (fun i h1 h2 => hs i (by omega)) d7, ⟨⟨0, by omega, rfl, rfl⟩, (hs 3 (by omega)).trans d8.2.1, fun i h => (hs _ (by omega)).trans (d8.2.2 i h)⟩⟩, da, db, sm_cc_of (fun i h1 h2 => by simp only [mz_up_ne (show i ≠ 1 by omega), mz_up_ne (show i ≠ 64 by omega), mz_up_ne (show i ≠ 66 by omega), mz_up_ne (show i ≠ 68 by omega)]) dc⟩
      · refine mz_doPQ (R := mz_r4) (as := [.ref 20, .int 0, .int (nI jxa)]) (rest := []) (r1 := some (.int 1)) (m1 := mz_up w 1 11 0) mz_t4 mz_v4_20 rfl rfl rfl rfl rfl ⟨?_, rfl⟩ ?_
        · refine mz_go 5 (c' := (9, [some (.ref 20), some (.int 0), some (.int (nI jxa))], [.int (w 20 2), .int 0], mz_up w 1 11 0)) rfl ?_
          rw [h202]
          refine mz_go 1 (c' := (if (nI WW) ≤ 0 then 40 else 12, [some (.ref 20), some (.int 0), some (.int (nI jxa))], [], mz_up w 1 11 0)) rfl ?_
          refine mz_ifF (show ¬ ((nI WW) ≤ 0) from (sm_nleN rfl rfl (show 0 < WW by omega) (show WW < 2 ^ 31 by omega))) ?_
          refine mz_go 5 (c' := (if (nI jxa) < 0 then 40 else 22, [some (.ref 20), some (.int 0), some (.int (nI jxa))], [], mz_up w 1 11 0)) rfl ?_
          refine mz_ifF q2 ?_
          refine mz_go 3 (c' := (27, [some (.ref 20), some (.int 0), some (.int (nI jxa))], [.int (w 20 3), .int (nI jxa)], mz_up w 1 11 0)) rfl ?_
          rw [h203]
          refine mz_go 1 (c' := (if (nI HH) ≤ (nI jxa) then 40 else 30, [some (.ref 20), some (.int 0), some (.int (nI jxa))], [], mz_up w 1 11 0)) rfl ?_
          refine mz_ifF (show ¬ ((nI HH) ≤ (nI jxa)) from (sm_nleN rfl rfl (show jxa < HH by omega) (show HH < 2 ^ 31 by omega))) ?_
          refine mz_go 3 (c' := (if 6 ≤ (nI jxa) then 40 else 36, [some (.ref 20), some (.int 0), some (.int (nI jxa))], [], mz_up w 1 11 0)) rfl ?_
          refine mz_ifF (show ¬ (6 ≤ (nI jxa)) from (sm_nleN rfl rfl (show jxa < 6 by omega) (show 6 < 2 ^ 31 by omega))) ?_
          refine mz_go 2 (c' := (41, [some (.ref 20), some (.int 0), some (.int (nI jxa))], [.int 1], mz_up w 1 11 0)) rfl ?_
          exact mz_ret rfl
        refine mz_goP 3 (c' := (55, [some (.ref 0), some (.int (nI jxa)), some (.int (nI AA)), some (.ref 20), some (.int 0)], [], mz_up w 1 11 0)) rfl ?_
        have Eck := vc_chl (w := mz_up w 1 11 0) (J := jxa) hWW hHH hAA (by omega) (show (mz_up w 1 11 0) 20 2 = nI WW from h202) (show (mz_up w 1 11 0) 20 3 = nI HH from h203) WW 0 (by omega)
        refine mz_exP Eck ⟨vq_ck (w 24) (fun i => w 21 ((jxa * 6) + i)) AA WW 0, rfl, ?_⟩
        refine mz_goP 4 (c' := (6, [some (.ref 65), some (.int (nI jxa)), none, none], [.int (w 66 2)], mz_up w 1 11 0)) rfl ?_
        rw [h662]
        refine mz_goP 7 (c' := (15, [some (.ref 65), some (.int (nI jxa)), some (.int (nI AA)), none], [.ref 65], mz_up (mz_up w 1 11 0) 66 2 0)) rfl ?_
        refine mz_doPQ (R := mz_r185) (as := [.ref 65]) (rest := []) (r1 := some (.int 1)) (m1 := mz_up (mz_up w 1 11 0) 66 2 0) mz_t185 mz_v185_65 rfl rfl rfl rfl rfl ⟨?_, rfl⟩ ?_
        · refine mz_go 1 (c' := (1, [some (.ref 65)], [.ref 65], mz_up (mz_up w 1 11 0) 66 2 0)) rfl ?_
          refine mz_doQ (R := mz_r183) (as := [.ref 65]) (rest := []) (r1 := some (.int (nI WW))) (m1 := mz_up (mz_up w 1 11 0) 66 2 0) mz_t183 mz_v183_65 rfl rfl rfl rfl rfl ⟨?_, rfl⟩ ?_
          · refine mz_go 4 (c' := (7, [some (.ref 65)], [.int (w 66 60)], mz_up (mz_up w 1 11 0) 66 2 0)) rfl ?_
            rw [h6660]
            exact mz_ret rfl
          refine mz_go 1 (c' := (if (nI WW) ≤ 0 then 11 else 7, [some (.ref 65)], [], mz_up (mz_up w 1 11 0) 66 2 0)) rfl ?_
          refine mz_ifF (show ¬ ((nI WW) ≤ 0) from (sm_nleN rfl rfl (show 0 < WW by omega) (show WW < 2 ^ 31 by omega))) ?_
          refine mz_go 2 (c' := (12, [some (.ref 65)], [.int 1], mz_up (mz_up w 1 11 0) 66 2 0)) rfl ?_
          exact mz_ret rfl
        refine mz_goP 4 (c' := (30, [some (.ref 65), some (.int (nI jxa)), some (.int (nI AA)), none], [.ref 65, .int 0, .int (nI jxa)], mz_up (mz_up w 1 11 0) 66 2 0)) rfl ?_
        refine mz_doPQ (R := mz_r184) (as := [.ref 65]) (rest := [.int 0, .int (nI jxa)]) (r1 := some (.int (nI HH))) (m1 := mz_up (mz_up w 1 11 0) 66 2 0) mz_t184 mz_v184_65 rfl rfl rfl rfl rfl ⟨?_, rfl⟩ ?_
        · refine mz_go 4 (c' := (7, [some (.ref 65)], [.int (w 66 61)], mz_up (mz_up w 1 11 0) 66 2 0)) rfl ?_
          rw [h6661]
          exact mz_ret rfl
        refine mz_goP 2 (c' := (35, [some (.ref 65), some (.int (nI jxa)), some (.int (nI AA)), none], [.int ((nI HH) - 1), .int 0, .int (nI jxa)], mz_up (mz_up w 1 11 0) 66 2 0)) rfl ?_
        refine mz_doPQ (R := mz_r128) (as := [.int (nI jxa), .int 0, .int ((nI HH) - 1)]) (rest := []) (r1 := some (.int 1)) (m1 := mz_up (mz_up w 1 11 0) 66 2 0) mz_t128 mz_v128 rfl rfl rfl rfl rfl ((ct_in1 (m := mz_up (mz_up w 1 11 0) 66 2 0) (v := nI jxa) (a := 0) (b := (nI HH) - 1) q2 (show ¬ (((nI HH) - 1) < (nI jxa)) from (sm_nltN (sm_subN (a := HH) (b := 1) rfl rfl (by omega)) rfl (show jxa ≤ (HH - 1) by omega) (show (HH - 1) < 2 ^ 31 by omega)))).deep (by decide)) ?_
        refine mz_goP 3 (c' := (49, [some (.ref 65), some (.int (nI jxa)), some (.int (nI AA)), some (.int 0)], [], mz_up (mz_up w 1 11 0) 66 2 0)) rfl ?_
        have Ecr := vr_chl (w := mz_up (mz_up w 1 11 0) 66 2 0) (J := jxa) hWW hHH hAA (by omega) (show (mz_up (mz_up w 1 11 0) 66 2 0) 66 60 = nI WW from h6660) AA 0 (by omega)
        have hcf : ∀ k, k < AA → (fun i => (mz_up (mz_up w 1 11 0) 66 2 0) 66 (620 + i)) k = w 24 k := fun k hk => by
          show (mz_up (mz_up w 1 11 0) 66 2 0) 66 (620 + k) = w 24 k
          rw [mz_up_eq, if_neg (by omega), mz_up_ne (show (66 : Nat) ≠ 1 by decide)]
          exact hwt k (by omega)
        have hcg : ∀ k, k < WW → (fun i => (mz_up (mz_up w 1 11 0) 66 2 0) 66 ((70 + (6 * jxa)) + i)) k = (fun i => w 21 ((jxa * 6) + i)) k := fun k hk => by
          show (mz_up (mz_up w 1 11 0) 66 2 0) 66 ((70 + (6 * jxa)) + k) = w 21 ((jxa * 6) + k)
          rw [mz_up_eq, if_neg (by omega), mz_up_ne (show (66 : Nat) ≠ 1 by decide), show (70 + (6 * jxa)) + k = 70 + ((jxa * 6) + k) by omega]
          exact (hpc _ (by omega)).2.1
        rw [show vq_cr (fun i => (mz_up (mz_up w 1 11 0) 66 2 0) 66 (620 + i)) (fun i => (mz_up (mz_up w 1 11 0) 66 2 0) 66 ((70 + (6 * jxa)) + i)) WW AA 0 = vq_ck (w 24) (fun i => w 21 ((jxa * 6) + i)) AA WW 0 from (vq_ck_cr hcf hcg (AA + WW) 0 (by omega) (by omega) (by omega) (by omega)).symm] at Ecr
        refine mz_exP Ecr ⟨vq_ck (w 24) (fun i => w 21 ((jxa * 6) + i)) AA WW 0, rfl, ?_, rfl⟩
        show sm_I (n + 1) (mz_up (mz_up w 1 11 0) 66 2 0)
        obtain ⟨-, ⟨d1, d2, d3, ⟨d4, d4b, d4c⟩, d5, d6, d7, d8⟩, da, db, dc⟩ := hI2
        have hs : ∀ i, i ≠ 2 → (mz_up (mz_up w 1 11 0) 66 2 0) 66 i = w 66 i := fun i p0 => by rw [mz_up_eq, if_neg (by omega), mz_up_ne (show (66 : Nat) ≠ 1 by decide)]
        exact ⟨hn, ⟨sm_k1 (hs 0 (by omega)) (fun i h1 h2 => hs i (by omega)) d1, sm_k2 (fun i h1 h2 => hs i (by omega)) d2, sm_k3 (hs 1 (by omega)) (fun i h1 h2 => hs i (by omega)) d3, ⟨sm_k4 (fun i h1 h2 => hs i (by omega)) d4, sm_k4 (fun i h1 h2 => hs i (by omega)) d4b, sm_k4 (fun i h1 h2 => hs i (by omega)) d4c⟩, sm_k5 (fun i h1 h2 => hs i (by omega)) d5, sm_k6 (fun i h1 h2 => hs i (by omega)) d6, sm_k7 (fun i h1 h2 => hs i (by omega)) d7, ⟨⟨0, by omega, rfl, rfl⟩, (hs 3 (by omega)).trans d8.2.1, fun i h => (hs _ (by omega)).trans (d8.2.2 i h)⟩⟩, da, db, sm_cc_of (fun i h1 h2 => by simp only [mz_up_ne (show i ≠ 1 by omega), mz_up_ne (show i ≠ 66 by omega)]) dc⟩
