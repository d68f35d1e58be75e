noncomputable def sm_tks (m : mz_M) (f : Int32) : Nat → (Nat → Int32) → Nat → Int32
  | 0, b => b
  | n + 1, b => sm_tks m f n (sm_tick m f b)
theorem sm_tks_like {m : mz_M} {f : Int32} : ∀ (n : Nat) {b c : Nat → Int32}, sm_like b c → sm_like (sm_tks m f n b) (sm_tks m f n c) := by
  intro n
  induction n with
  | zero => exact fun h => h
  | succ n ih =>
    intro b c h
    unfold sm_tks
    rw [sm_tick_like h]
    exact sm_like_rfl _
set_option maxHeartbeats 4000000 in
set_option maxRecDepth 100000 in
theorem cs_tksl {w : mz_M} {N : Nat} (hw : sm_W w N) (hf : w 7 5 = 1 ∨ w 7 5 = 2) {K D : Nat} (hK : K < 2 ^ 31) : ∀ j k : Nat, k + j = K → ∀ r f g : Nat → Int32, sm_B 1600 (r 0) → sm_B 1600 (r 1) → ∃ r' f' g', sm_like r' (sm_tks w (w 7 5) j r) ∧ (sm_B 1600 (r' 0) ∧ sm_B 1600 (r' 1)) ∧ ∀ res, mz_Ex (D + 41) mz_k79 (77, [some (.ref 0), some (.int (nI K)), some (.int (nI K))], [], mz_set (mz_set (mz_set w 19 r') 51 f') 52 g') res → mz_Ex (D + 41) mz_k79 (43, [some (.ref 0), some (.int (nI K)), some (.int (nI k))], [], mz_set (mz_set (mz_set w 19 r) 51 f) 52 g) res := by
  intro j
  induction j with
  | zero =>
    intro k hk r f g hx hy
    have hk2 : k = K := by omega
    subst hk2
    refine ⟨r, f, g, sm_like_rfl _, ⟨hx, hy⟩, fun res hr => ?_⟩
    refine mz_go 3 (c' := (if (nI k) ≤ (nI k) then 77 else 48, [some (.ref 0), some (.int (nI k)), some (.int (nI k))], [], mz_set (mz_set (mz_set w 19 r) 51 f) 52 g)) rfl ?_
    refine mz_ifT (show ((nI k) ≤ (nI k)) from (sm_leN rfl rfl (show k ≤ k by omega) (show k < 2 ^ 31 by omega))) ?_
    exact hr
  | succ j ih =>
    intro k hk r f g hx hy
    obtain ⟨r1, f1, g1, hl, S⟩ := cw_step19 (m := mz_set (mz_set (mz_set w 19 r) 51 f) 52 g) (w := w) (sm_Wl_s (by decide) (sm_Wl_s (by decide) (sm_Wl_s (by decide) (sm_Wl_r w)))) hw (hf.imp id Or.inl) hx hy
    have hm : mz_set (mz_set (mz_set (mz_set (mz_set (mz_set w 19 r) 51 f) 52 g) 19 r1) 51 f1) 52 g1 = mz_set (mz_set (mz_set w 19 r1) 51 f1) 52 g1 := sm_of3 (fun i h1 h2 h3 => by simp only [mz_up_ne h1, mz_set_ne h1, mz_set_ne h2, mz_set_ne h3])
    rw [hm] at S
    replace hl : sm_like r1 (sm_tick w (w 7 5) r) := hl
    have hB := sm_tick_B (m := w) (f := w 7 5) (b := r)
    obtain ⟨r', f', g', h1, hb, E⟩ := ih (k + 1) (by omega) r1 f1 g1 (by rw [hl.1]; exact hB.1) (by rw [hl.2.1]; exact hB.2)
    refine ⟨r', f', g', sm_like_tr h1 (sm_tks_like j hl), hb, fun res hr => ?_⟩
    rw [nI_succ k] at E
    refine mz_go 3 (c' := (if (nI K) ≤ (nI k) then 77 else 48, [some (.ref 0), some (.int (nI K)), some (.int (nI k))], [], mz_set (mz_set (mz_set w 19 r) 51 f) 52 g)) rfl ?_
    refine mz_ifF (show ¬ ((nI K) ≤ (nI k)) from (sm_nleN rfl rfl (show k < K by omega) (show K < 2 ^ 31 by omega))) ?_
    refine mz_go 10 (c' := (68, [some (.ref 0), some (.int (nI K)), some (.int (nI k))], [.int (w 7 5), .ref 19, .ref 49], mz_set (mz_set (mz_set w 19 r) 51 f) 52 g)) rfl ?_
    refine mz_doQ (R := mz_r38) (as := [.ref 49, .ref 19, .int (w 7 5)]) (rest := []) (r1 := none) (m1 := mz_set (mz_set (mz_set w 19 r1) 51 f1) 52 g1) mz_t38 mz_v38_49 rfl rfl rfl rfl rfl (S.deep (by omega)) ?_
    refine mz_go 2 (c' := (43, [some (.ref 0), some (.int (nI K)), some (.int ((nI k) + 1))], [], mz_set (mz_set (mz_set w 19 r1) 51 f1) 52 g1)) rfl ?_
    exact E res hr
set_option maxHeartbeats 4000000 in
set_option maxRecDepth 100000 in
theorem ct_tksl {w w1 : mz_M} {N : Nat} (hw : sm_W w N) (hr : sm_HR w (w1 66)) (h15 : w1 66 15 = w 7 5) (hf : w 7 5 = 1 ∨ w 7 5 = 2) {K D : Nat} (hK : K < 2 ^ 31) : ∀ j k : Nat, k + j = K → ∀ r a b B : Nat → Int32, sm_like (fun k => r (4 + k)) B → sm_B 1600 (B 0) → sm_B 1600 (B 1) → (∀ k, k < 4 ∨ 8 < k → r k = w1 65 k) → ∃ r' a' b', sm_like (fun k => r' (4 + k)) (sm_tks w (w 7 5) j B) ∧ (∀ k, k < 4 ∨ 8 < k → r' k = w1 65 k) ∧ ∀ res, mz_Ex (D + 41) mz_k177 (63, [some (.ref 65), some (.int (nI K)), some (.int (nI K))], [], mz_set (mz_set (mz_set w1 65 r') 70 a') 71 b') res → mz_Ex (D + 41) mz_k177 (44, [some (.ref 65), some (.int (nI K)), some (.int (nI k))], [], mz_set (mz_set (mz_set w1 65 r) 70 a) 71 b) res := by
  intro j
  induction j with
  | zero =>
    intro k hk r a b B hl hx hy hkp
    have hk2 : k = K := by omega
    subst hk2
    refine ⟨r, a, b, hl, hkp, fun res hr => ?_⟩
    refine mz_go 3 (c' := (if (nI k) ≤ (nI k) then 63 else 49, [some (.ref 65), some (.int (nI k)), some (.int (nI k))], [], mz_set (mz_set (mz_set w1 65 r) 70 a) 71 b)) rfl ?_
    refine mz_ifT (show ((nI k) ≤ (nI k)) from (sm_leN rfl rfl (show k ≤ k by omega) (show k < 2 ^ 31 by omega))) ?_
    exact hr
  | succ j ih =>
    intro k hk r a b B hl hx hy hkp
    obtain ⟨r1, a1, b1, hl1, hkp1, S⟩ := ct_tick (m := mz_set (mz_set (mz_set w1 65 r) 70 a) 71 b) hw hr (hf.imp id Or.inl) hl hx hy
    have hm : mz_set (mz_set (mz_set (mz_set (mz_set (mz_set w1 65 r) 70 a) 71 b) 65 r1) 70 a1) 71 b1 = mz_set (mz_set (mz_set w1 65 r1) 70 a1) 71 b1 := sm_of3 (fun i h1 h2 h3 => by simp only [mz_up_ne h1, mz_set_ne h1, mz_set_ne h2, mz_set_ne h3])
    rw [hm] at S
    have hB := sm_tick_B (m := w) (f := w 7 5) (b := B)
    obtain ⟨r', a', b', h1, hkp2, E⟩ := ih (k + 1) (by omega) r1 a1 b1 (sm_tick w (w 7 5) B) hl1 hB.1 hB.2 (fun i hi => (hkp1 i hi).trans (hkp i hi))
    refine ⟨r', a', b', h1, hkp2, fun res hr => ?_⟩
    rw [nI_succ k] at E
    refine mz_go 3 (c' := (if (nI K) ≤ (nI k) then 63 else 49, [some (.ref 65), some (.int (nI K)), some (.int (nI k))], [], mz_set (mz_set (mz_set w1 65 r) 70 a) 71 b)) rfl ?_
    refine mz_ifF (show ¬ ((nI K) ≤ (nI k)) from (sm_nleN rfl rfl (show k < K by omega) (show K < 2 ^ 31 by omega))) ?_
    refine mz_go 2 (c' := (51, [some (.ref 65), some (.int (nI K)), some (.int (nI k))], [.ref 65, .ref 65], mz_set (mz_set (mz_set w1 65 r) 70 a) 71 b)) rfl ?_
    refine mz_doQ (R := mz_r156) (as := [.ref 65]) (rest := [.ref 65]) (r1 := some (.int (w 7 5))) (m1 := mz_set (mz_set (mz_set w1 65 r) 70 a) 71 b) mz_t156 mz_v156_65 rfl rfl rfl rfl rfl ⟨?_, rfl⟩ ?_
    · refine mz_go 4 (c' := (7, [some (.ref 65)], [.int (w1 66 15)], mz_set (mz_set (mz_set w1 65 r) 70 a) 71 b)) rfl ?_
      rw [h15]
      exact mz_ret rfl
    refine mz_doQ (R := mz_r152) (as := [.ref 65, .int (w 7 5)]) (rest := []) (r1 := none) (m1 := mz_set (mz_set (mz_set w1 65 r1) 70 a1) 71 b1) mz_t152 mz_v152_65 rfl rfl rfl rfl rfl (S.deep (by omega)) ?_
    refine mz_go 2 (c' := (44, [some (.ref 65), some (.int (nI K)), some (.int ((nI k) + 1))], [], mz_set (mz_set (mz_set w1 65 r1) 70 a1) 71 b1)) rfl ?_
    exact E res hr
set_option maxHeartbeats 4000000 in
set_option maxRecDepth 100000 in
theorem cs_layl {m : mz_M} {S D : Nat} (hS : S < 4) (b c : Int32) : ∀ j k : Nat, k + j = 24 → ∀ g : Nat → Int32, ∃ g' : Nat → Int32, (∀ i, g' i = (if 24 * S + k ≤ i ∧ i < 24 * S + 24 then 0 else g i)) ∧ ∀ res, mz_Ex (D + 1) mz_k47 (61, [some (.ref 60), some (.int (nI S)), some (.int b), some (.int c), some (.int (nI 24))], [], mz_set m 63 g') res → mz_Ex (D + 1) mz_k47 (35, [some (.ref 60), some (.int (nI S)), some (.int b), some (.int c), some (.int (nI k))], [], mz_set m 63 g) res := by
  intro j
  induction j with
  | zero =>
    intro k hk g
    have hk2 : k = 24 := by omega
    subst hk2
    refine ⟨g, fun i => by rw [if_neg (by omega)], fun res hr => ?_⟩
    refine mz_go 3 (c' := (if 24 ≤ (nI 24) then 61 else 42, [some (.ref 60), some (.int (nI S)), some (.int b), some (.int c), some (.int (nI 24))], [], mz_set m 63 g)) rfl ?_
    refine mz_ifT (show (24 ≤ (nI 24)) from (sm_leN rfl rfl (show 24 ≤ 24 by omega) (show 24 < 2 ^ 31 by omega))) ?_
    exact hr
  | succ j ih =>
    intro k hk g
    obtain ⟨g', h, E⟩ := ih (k + 1) (by omega) (sm_upd g ((S * 24) + k) 0)
    refine ⟨g', fun i => ?_, fun res hr => ?_⟩
    · rw [h i]
      unfold sm_upd
      by_cases e : i = 24 * S + k
      · rw [if_neg (by omega), if_pos (by omega), if_pos (by omega)]
      · by_cases e2 : 24 * S + (k + 1) ≤ i ∧ i < 24 * S + 24
        · rw [if_pos e2, if_pos (by omega)]
        · rw [if_neg e2, if_neg (by omega), if_neg (by omega)]
    · rw [nI_succ k, ← sm_up_set] at E
      refine mz_go 3 (c' := (if 24 ≤ (nI k) then 61 else 42, [some (.ref 60), some (.int (nI S)), some (.int b), some (.int c), some (.int (nI k))], [], mz_set m 63 g)) rfl ?_
      refine mz_ifF (show ¬ (24 ≤ (nI k)) from (sm_nleN rfl rfl (show k < 24 by omega) (show 24 < 2 ^ 31 by omega))) ?_
      refine mz_go 8 (c' := (54, [some (.ref 60), some (.int (nI S)), some (.int b), some (.int c), some (.int (nI k))], [.int 0, .int (((nI S) * 24) + (nI k)), .ref 63], mz_set m 63 g)) rfl ?_
      refine mz_arr (c' := (55, [some (.ref 60), some (.int (nI S)), some (.int b), some (.int c), some (.int (nI k))], [], mz_up (mz_set m 63 g) 63 ((((nI S) * 24) + (nI k)).toNatClampNeg) 0)) rfl (show mz_in (((nI S) * 24) + (nI k)) 96 = true from sm_inN (sm_addN (sm_mulN rfl rfl) rfl) (show ((S * 24) + k) < 96 by omega) (by decide)) ?_
      rw [show (((nI S) * 24) + (nI k) : Int32).toNatClampNeg = ((S * 24) + k) from sm_clN (sm_addN (sm_mulN rfl rfl) rfl) (show ((S * 24) + k) < 2 ^ 31 by omega)]
      refine mz_go 2 (c' := (35, [some (.ref 60), some (.int (nI S)), some (.int b), some (.int c), some (.int ((nI k) + 1))], [], mz_up (mz_set m 63 g) 63 ((S * 24) + k) 0)) rfl ?_
      exact E res hr
set_option maxHeartbeats 4000000 in
set_option maxRecDepth 100000 in
theorem ct_layl {m : mz_M} {S D : Nat} (hS : S < 4) (b c : Int32) : ∀ j k : Nat, k + j = 24 → ∀ g : Nat → Int32, ∃ g' : Nat → Int32, (∀ i, g' i = (if 24 * S + k ≤ i ∧ i < 24 * S + 24 then 0 else g i)) ∧ ∀ res, mz_Ex (D + 1) mz_k220 (116, [some (.ref 65), some (.int (nI S)), some (.int b), some (.int c), some (.int (nI 24))], [], mz_set m 77 g') res → mz_Ex (D + 1) mz_k220 (90, [some (.ref 65), some (.int (nI S)), some (.int b), some (.int c), some (.int (nI k))], [], mz_set m 77 g) res := by
  intro j
  induction j with
  | zero =>
    intro k hk g
    have hk2 : k = 24 := by omega
    subst hk2
    refine ⟨g, fun i => by rw [if_neg (by omega)], fun res hr => ?_⟩
    refine mz_go 3 (c' := (if 24 ≤ (nI 24) then 116 else 97, [some (.ref 65), some (.int (nI S)), some (.int b), some (.int c), some (.int (nI 24))], [], mz_set m 77 g)) rfl ?_
    refine mz_ifT (show (24 ≤ (nI 24)) from (sm_leN rfl rfl (show 24 ≤ 24 by omega) (show 24 < 2 ^ 31 by omega))) ?_
    exact hr
  | succ j ih =>
    intro k hk g
    obtain ⟨g', h, E⟩ := ih (k + 1) (by omega) (sm_upd g ((24 * S) + k) 0)
    refine ⟨g', fun i => ?_, fun res hr => ?_⟩
    · rw [h i]
      unfold sm_upd
      by_cases e : i = 24 * S + k
      · rw [if_neg (by omega), if_pos (by omega), if_pos (by omega)]
      · by_cases e2 : 24 * S + (k + 1) ≤ i ∧ i < 24 * S + 24
        · rw [if_pos e2, if_pos (by omega)]
        · rw [if_neg e2, if_neg (by omega), if_neg (by omega)]
    · rw [nI_succ k, ← sm_up_set] at E
      refine mz_go 3 (c' := (if 24 ≤ (nI k) then 116 else 97, [some (.ref 65), some (.int (nI S)), some (.int b), some (.int c), some (.int (nI k))], [], mz_set m 77 g)) rfl ?_
      refine mz_ifF (show ¬ (24 ≤ (nI k)) from (sm_nleN rfl rfl (show k < 24 by omega) (show 24 < 2 ^ 31 by omega))) ?_
      refine mz_go 8 (c' := (109, [some (.ref 65), some (.int (nI S)), some (.int b), some (.int c), some (.int (nI k))], [.int 0, .int ((24 * (nI S)) + (nI k)), .ref 77], mz_set m 77 g)) rfl ?_
      refine mz_arr (c' := (110, [some (.ref 65), some (.int (nI S)), some (.int b), some (.int c), some (.int (nI k))], [], mz_up (mz_set m 77 g) 77 (((24 * (nI S)) + (nI k)).toNatClampNeg) 0)) rfl (show mz_in ((24 * (nI S)) + (nI k)) 96 = true from sm_inN (sm_addN (sm_mulN rfl rfl) rfl) (show ((24 * S) + k) < 96 by omega) (by decide)) ?_
      rw [show ((24 * (nI S)) + (nI k) : Int32).toNatClampNeg = ((24 * S) + k) from sm_clN (sm_addN (sm_mulN rfl rfl) rfl) (show ((24 * S) + k) < 2 ^ 31 by omega)]
      refine mz_go 2 (c' := (90, [some (.ref 65), some (.int (nI S)), some (.int b), some (.int c), some (.int ((nI k) + 1))], [], mz_up (mz_set m 77 g) 77 ((24 * S) + k) 0)) rfl ?_
      exact E res hr
theorem sm_sheeted {a b c a' b' c' A B C A' B' C' : Nat → Int32} {S : Nat} {x y : Int32} (h : sm_ca a b c a' b' c') (hx : x = 0 ∨ x = 8 ∨ x = 16 ∨ x = 32) (hy : sm_N 24 y) (hA : ∀ i, A i = if i = S then x else a i) (hB : ∀ i, B i = if i = S then y else b i) (hA' : ∀ i, A' i = if i = S then x else a' i) (hB' : ∀ i, B' i = if i = S then y else b' i) (hC : ∀ i, C i = (if 24 * S + 0 ≤ i ∧ i < 24 * S + 24 then 0 else c i)) (hC' : ∀ i, C' i = (if 24 * S + 0 ≤ i ∧ i < 24 * S + 24 then 0 else c' i)) : sm_ca A B C A' B' C' := by
  refine ⟨fun i hi => ?_, fun i hi => ?_⟩
  · obtain ⟨h1, h2, h3, h4⟩ := h.1 i hi
    rw [hA, hB, hA', hB']
    by_cases e : i = S
    · simp only [if_pos e]
      exact ⟨hx, hy, trivial, trivial⟩
    · simp only [if_neg e]
      exact ⟨h1, h2, h3, h4⟩
  · rw [hC, hC', h.2 i hi]
