def sm_tks (m : mz_M) (f : Int32) : Nat → (Nat → Int32) → Nat → Int32
  | 0, b => b
  | n + 1, b => sm_tks m f n (sm_tick m f b)
theorem sm_tks_like {m : mz_M} {f : Int32} : ∀ (n : Nat) {b c : Nat → Int32}, sm_like b c → sm_like (sm_tks m f n b) (sm_tks m f n c) := by
  intro n
  induction n with
  | zero => exact fun h => h
  | succ n ih =>
    intro b c h
    unfold sm_tks
    rw [sm_tick_like h]
    exact sm_like_rfl _
set_option maxHeartbeats 4000000 in
set_option maxRecDepth 100000 in
theorem cs_tksl {w : mz_M} {N : Nat} (hw : sm_W w N) (hf : w 7 5 = 1 ∨ w 7 5 = 2) {K D : Nat} (hK : K < 2 ^ 31) : ∀ j k : Nat, k + j = K → ∀ r f g : Nat → Int32, sm_B 1600 (r 0) → sm_B 1600 (r 1) → ∃ r' f' g', sm_like r' (sm_tks w (w 7 5) j r) ∧ (sm_B 1600 (r' 0) ∧ sm_B 1600 (r' 1)) ∧ ∀ res, mz_Ex (D + 41) mz_k79 (77, [some (.ref 0), some (.int (nI K)), some (.int (nI K))], [], mz_set (mz_set (mz_set w 19 r') 51 f') 52 g') res → mz_Ex (D + 41) mz_k79 (43, [some (.ref 0), some (.int (nI K)), some (.int (nI k))], [], mz_set (mz_set (mz_set w 19 r) 51 f) 52 g) res := by
  intro j
  induction j with
  | zero =>
    intro k hk r f g hx hy
    have hk2 : k = K := by omega
    subst hk2
    refine ⟨r, f, g, sm_like_rfl _, ⟨hx, hy⟩, fun res hr => ?_⟩
    refine mz_go 3 (c' := (if (nI k) ≤ (nI k) then 77 else 48, [some (.ref 0), some (.int (nI k)), some (.int (nI k))], [], mz_set (mz_set (mz_set w 19 r) 51 f) 52 g)) rfl ?_
    refine mz_ifT (show ((nI k) ≤ (nI k)) from (sm_leN rfl rfl (show k ≤ k by omega) (show k < 2 ^ 31 by omega))) ?_
    exact hr
  | succ j ih =>
    intro k hk r f g hx hy
    obtain ⟨r1, f1, g1, hl, S⟩ := cw_step19 (m := mz_set (mz_set (mz_set w 19 r) 51 f) 52 g) (w := w) (sm_Wl_s (by decide) (sm_Wl_s (by decide) (sm_Wl_s (by decide) (sm_Wl_r w)))) hw (hf.imp id Or.inl) hx hy
    have hm : mz_set (mz_set (mz_set (mz_set (mz_set (mz_set w 19 r) 51 f) 52 g) 19 r1) 51 f1) 52 g1 = mz_set (mz_set (mz_set w 19 r1) 51 f1) 52 g1 := sm_of3 (fun i h1 h2 h3 => by simp only [mz_up_ne h1, mz_set_ne h1, mz_set_ne h2, mz_set_ne h3])
    rw [hm] at S
    replace hl : sm_like r1 (sm_tick w (w 7 5) r) := hl
    have hB := sm_tick_B (m := w) (f := w 7 5) (b := r)
    obtain ⟨r', f', g', h1, hb, E⟩ := ih (k + 1) (by omega) r1 f1 g1 (by rw [hl.1]; exact hB.1) (by rw [hl.2.1]; exact hB.2)
    refine ⟨r', f', g', sm_like_tr h1 (sm_tks_like j hl), hb, fun res hr => ?_⟩
    rw [nI_succ k] at E
    refine mz_go 3 (c' := (if (nI K) ≤ (nI k) then 77 else 48, [some (.ref 0), some (.int (nI K)), some (.int (nI k))], [], mz_set (mz_set (mz_set w 19 r) 51 f) 52 g)) rfl ?_
    refine mz_ifF (show ¬ ((nI K) ≤ (nI k)) from (sm_nleN rfl rfl (show k < K by omega) (show K < 2 ^ 31 by omega))) ?_
    refine mz_go 10 (c' := (68, [some (.ref 0), some (.int (nI K)), some (.int (nI k))], [.int (w 7 5), .ref 19, .ref 49], mz_set (mz_set (mz_set w 19 r) 51 f) 52 g)) rfl ?_
    refine mz_do (R := mz_r38) (as := [.ref 49, .ref 19, .int (w 7 5)]) (rest := []) (r1 := none) (m1 := mz_set (mz_set (mz_set w 19 r1) 51 f1) 52 g1) rfl (S.deep (by omega)) ?_
    refine mz_go 2 (c' := (43, [some (.ref 0), some (.int (nI K)), some (.int ((nI k) + 1))], [], mz_set (mz_set (mz_set w 19 r1) 51 f1) 52 g1)) rfl ?_
    exact E res hr
set_option maxHeartbeats 4000000 in
set_option maxRecDepth 100000 in
theorem ct_tksl {w w1 : mz_M} {N : Nat} (hw : sm_W w N) (hr : sm_HR w (w1 66)) (h15 : w1 66 15 = w 7 5) (hf : w 7 5 = 1 ∨ w 7 5 = 2) {K D : Nat} (hK : K < 2 ^ 31) : ∀ j k : Nat, k + j = K → ∀ r a b B : Nat → Int32, sm_like (fun k => r (4 + k)) B → sm_B 1600 (B 0) → sm_B 1600 (B 1) → (∀ k, k < 4 ∨ 8 < k → r k = w1 65 k) → ∃ r' a' b', sm_like (fun k => r' (4 + k)) (sm_tks w (w 7 5) j B) ∧ (∀ k, k < 4 ∨ 8 < k → r' k = w1 65 k) ∧ ∀ res, mz_Ex (D + 41) mz_k177 (63, [some (.ref 65), some (.int (nI K)), some (.int (nI K))], [], mz_set (mz_set (mz_set w1 65 r') 70 a') 71 b') res → mz_Ex (D + 41) mz_k177 (44, [some (.ref 65), some (.int (nI K)), some (.int (nI k))], [], mz_set (mz_set (mz_set w1 65 r) 70 a) 71 b) res := by
  intro j
  induction j with
  | zero =>
    intro k hk r a b B hl hx hy hkp
    have hk2 : k = K := by omega
    subst hk2
    refine ⟨r, a, b, hl, hkp, fun res hr => ?_⟩
    refine mz_go 3 (c' := (if (nI k) ≤ (nI k) then 63 else 49, [some (.ref 65), some (.int (nI k)), some (.int (nI k))], [], mz_set (mz_set (mz_set w1 65 r) 70 a) 71 b)) rfl ?_
    refine mz_ifT (show ((nI k) ≤ (nI k)) from (sm_leN rfl rfl (show k ≤ k by omega) (show k < 2 ^ 31 by omega))) ?_
    exact hr
  | succ j ih =>
    intro k hk r a b B hl hx hy hkp
    obtain ⟨r1, a1, b1, hl1, hkp1, S⟩ := ct_tick (m := mz_set (mz_set (mz_set w1 65 r) 70 a) 71 b) hw hr (hf.imp id Or.inl) hl hx hy
    have hm : mz_set (mz_set (mz_set (mz_set (mz_set (mz_set w1 65 r) 70 a) 71 b) 65 r1) 70 a1) 71 b1 = mz_set (mz_set (mz_set w1 65 r1) 70 a1) 71 b1 := sm_of3 (fun i h1 h2 h3 => by simp only [mz_up_ne h1, mz_set_ne h1, mz_set_ne h2, mz_set_ne h3])
    rw [hm] at S
    have hB := sm_tick_B (m := w) (f := w 7 5) (b := B)
    obtain ⟨r', a', b', h1, hkp2, E⟩ := ih (k + 1) (by omega) r1 a1 b1 (sm_tick w (w 7 5) B) hl1 hB.1 hB.2 (fun i hi => (hkp1 i hi).trans (hkp i hi))
    refine ⟨r', a', b', h1, hkp2, fun res hr => ?_⟩
    rw [nI_succ k] at E
    refine mz_go 3 (c' := (if (nI K) ≤ (nI k) then 63 else 49, [some (.ref 65), some (.int (nI K)), some (.int (nI k))], [], mz_set (mz_set (mz_set w1 65 r) 70 a) 71 b)) rfl ?_
    refine mz_ifF (show ¬ ((nI K) ≤ (nI k)) from (sm_nleN rfl rfl (show k < K by omega) (show K < 2 ^ 31 by omega))) ?_
    refine mz_go 2 (c' := (51, [some (.ref 65), some (.int (nI K)), some (.int (nI k))], [.ref 65, .ref 65], mz_set (mz_set (mz_set w1 65 r) 70 a) 71 b)) rfl ?_
    refine mz_do (R := mz_r156) (as := [.ref 65]) (rest := [.ref 65]) (r1 := some (.int (w 7 5))) (m1 := mz_set (mz_set (mz_set w1 65 r) 70 a) 71 b) rfl ⟨?_, rfl⟩ ?_
    · refine mz_go 4 (c' := (7, [some (.ref 65)], [.int (w1 66 15)], mz_set (mz_set (mz_set w1 65 r) 70 a) 71 b)) rfl ?_
      rw [h15]
      exact mz_ret rfl
    refine mz_do (R := mz_r152) (as := [.ref 65, .int (w 7 5)]) (rest := []) (r1 := none) (m1 := mz_set (mz_set (mz_set w1 65 r1) 70 a1) 71 b1) rfl (S.deep (by omega)) ?_
    refine mz_go 2 (c' := (44, [some (.ref 65), some (.int (nI K)), some (.int ((nI k) + 1))], [], mz_set (mz_set (mz_set w1 65 r1) 70 a1) 71 b1)) rfl ?_
    exact E res hr
