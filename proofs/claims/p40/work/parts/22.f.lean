set_option maxHeartbeats 4000000 in
set_option maxRecDepth 100000 in
theorem cs_stepl50 {m : mz_M} {N : Nat} (hw : sm_W m N) {x y u v t f : Int32} (hx : sm_B 1600 x) (hy : sm_B 1600 y) (hf : ¬ f = 0) (fi : Int32) : ∀ n k : Nat, k + n = N → ∀ (r f1 g1 : Nat → Int32) (l6 l7 l8 l9 : Option Value), r 0 = x → r 1 = y → r 4 = t → r 2 = (sm_uv m f x y u v t k).1 → r 3 = (sm_uv m f x y u v t k).2 → ∃ (r' f' g' : Nat → Int32) (o6 o7 o8 o9 : Option Value), (r' 0 = x ∧ r' 1 = y ∧ r' 4 = t ∧ r' 2 = (sm_uv m f x y u v t N).1 ∧ r' 3 = (sm_uv m f x y u v t N).2) ∧ ∀ res, mz_Ex 30 mz_k38 (178, [some (.ref 49), some (.ref 50), some (.int fi), some (.int f), some (.ref 2), some (.int (nI N)), o6, o7, o8, o9], [], mz_set (mz_set (mz_set m 50 r') 51 f') 52 g') res → mz_Ex 30 mz_k38 (18, [some (.ref 49), some (.ref 50), some (.int fi), some (.int f), some (.ref 2), some (.int (nI k)), l6, l7, l8, l9], [], mz_set (mz_set (mz_set m 50 r) 51 f1) 52 g1) res := by
  obtain ⟨hN, h4, hb, hx0, hx1⟩ := hw
  intro n
  induction n with
  | zero =>
    intro k hk r f1 g1 l6 l7 l8 l9 hr0 hr1 hr4 hr2 hr3
    have hk2 : k = N := by omega
    subst hk2
    refine ⟨r, f1, g1, l6, l7, l8, l9, ⟨hr0, hr1, hr4, hr2, hr3⟩, fun res hr => ?_⟩
    refine mz_go 2 (c' := (22, [some (.ref 49), some (.ref 50), some (.int fi), some (.int f), some (.ref 2), some (.int (nI k)), l6, l7, l8, l9], [.int (nI k), .ref 2], mz_set (mz_set (mz_set m 50 r) 51 f1) 52 g1)) rfl ?_
    refine mz_doQ (R := mz_r21) (as := [.ref 2, .int (nI k)]) (rest := []) (r1 := some (.int 0)) (m1 := mz_set (mz_set (mz_set m 50 r) 51 f1) 52 g1) mz_t21 mz_v21_2 rfl rfl rfl rfl rfl ((cs_hasN hN (m := mz_set (mz_set (mz_set m 50 r) 51 f1) 52 g1) h4 (show k ≤ k by omega) (by omega)).deep (by decide)) ?_
    refine mz_go 1 (c' := (178, [some (.ref 49), some (.ref 50), some (.int fi), some (.int f), some (.ref 2), some (.int (nI k)), l6, l7, l8, l9], [], mz_set (mz_set (mz_set m 50 r) 51 f1) 52 g1)) rfl ?_
    exact hr
  | succ n ih =>
    intro k hk r f1 g1 l6 l7 l8 l9 hr0 hr1 hr4 hr2 hr3
    have hbk := hb k (by omega)
    have hfn := sm_far_N hbk.2.1 hbk.2.2.1 hx hy
    obtain ⟨U, hU⟩ : ∃ U, (sm_uv m f x y u v t k).1 = U := ⟨_, rfl⟩
    obtain ⟨V, hV⟩ : ∃ V, (sm_uv m f x y u v t k).2 = V := ⟨_, rfl⟩
    obtain ⟨F, hF⟩ : ∃ F, sm_far (m 4 k) (m 5 k) x y = F := ⟨_, rfl⟩
    obtain ⟨p, hp⟩ : ∃ p, sm_full m (m 6 k) F t = p := ⟨_, rfl⟩
    obtain ⟨q, hq⟩ : ∃ q, sm_kind (m 3 k) p F t = q := ⟨_, rfl⟩
    rw [hU] at hr2
    rw [hV] at hr3
    rw [hF] at hfn
    have hby := sm_by hfn
    have hB := sm_full_B (m := m) (t := t) hbk.2.2.2 hfn
    rw [hp] at hB
    obtain ⟨f2, g2, E1⟩ := cw_full (m := mz_set (mz_set (mz_set m 50 r) 51 f1) 52 g1) (w := m) (sm_Wl_s (by decide) (sm_Wl_s (by decide) (sm_Wl_s (by decide) (sm_Wl_r m)))) hx0 (m 6 k) F t hby.2
    have e1 : (sm_uv m f x y u v t (k + 1)).1 = U + (16 * m 4 k - x) * q / (16 * (F + 1)) / f := by
      subst hq
      subst hp
      subst hF
      subst hU
      rfl
    have e2 : (sm_uv m f x y u v t (k + 1)).2 = V + (16 * m 5 k - y) * q / (16 * (F + 1)) / f := by
      subst hq
      subst hp
      subst hF
      subst hV
      rfl
    obtain ⟨r', f', g', o6, o7, o8, o9, hh, E⟩ := ih (k + 1) (by omega) ((mz_up (mz_up (mz_set (mz_set (mz_set (mz_set (mz_set m 50 r) 51 f1) 52 g1) 51 f2) 52 g2) 50 2 (U + (((((16 * (m 4 k)) - x) * q) / (16 * (F + 1))) / f))) 50 3 (V + (((((16 * (m 5 k)) - y) * q) / (16 * (F + 1))) / f))) 50) ((mz_up (mz_up (mz_set (mz_set (mz_set (mz_set (mz_set m 50 r) 51 f1) 52 g1) 51 f2) 52 g2) 50 2 (U + (((((16 * (m 4 k)) - x) * q) / (16 * (F + 1))) / f))) 50 3 (V + (((((16 * (m 5 k)) - y) * q) / (16 * (F + 1))) / f))) 51) ((mz_up (mz_up (mz_set (mz_set (mz_set (mz_set (mz_set m 50 r) 51 f1) 52 g1) 51 f2) 52 g2) 50 2 (U + (((((16 * (m 4 k)) - x) * q) / (16 * (F + 1))) / f))) 50 3 (V + (((((16 * (m 5 k)) - y) * q) / (16 * (F + 1))) / f))) 52) (some (.int F)) (some (.int p)) (some (.int q)) (some (.int (16 * (F + 1)))) hr0 hr1 hr4 e1.symm e2.symm
    rw [nI_succ k, ← sm_of3 (m := m) (m' := mz_up (mz_up (mz_set (mz_set (mz_set (mz_set (mz_set m 50 r) 51 f1) 52 g1) 51 f2) 52 g2) 50 2 (U + (((((16 * (m 4 k)) - x) * q) / (16 * (F + 1))) / f))) 50 3 (V + (((((16 * (m 5 k)) - y) * q) / (16 * (F + 1))) / f))) (fun i h1 h2 h3 => by simp only [mz_up_ne h1, mz_set_ne h1, mz_set_ne h2, mz_set_ne h3])] at E
    refine ⟨r', f', g', o6, o7, o8, o9, hh, fun res hr => ?_⟩
    replace E := E res hr
    refine mz_go 2 (c' := (22, [some (.ref 49), some (.ref 50), some (.int fi), some (.int f), some (.ref 2), some (.int (nI k)), l6, l7, l8, l9], [.int (nI k), .ref 2], mz_set (mz_set (mz_set m 50 r) 51 f1) 52 g1)) rfl ?_
    refine mz_doQ (R := mz_r21) (as := [.ref 2, .int (nI k)]) (rest := []) (r1 := some (.int 1)) (m1 := mz_set (mz_set (mz_set m 50 r) 51 f1) 52 g1) mz_t21 mz_v21_2 rfl rfl rfl rfl rfl ((cs_has hN (m := mz_set (mz_set (mz_set m 50 r) 51 f1) 52 g1) h4 (show k < N by omega)).deep (by decide)) ?_
    refine mz_go 4 (c' := (if 6 ≤ (nI k) then 178 else 35, [some (.ref 49), some (.ref 50), some (.int fi), some (.int f), some (.ref 2), some (.int (nI k)), l6, l7, l8, l9], [], mz_set (mz_set (mz_set m 50 r) 51 f1) 52 g1)) rfl ?_
    refine mz_ifF (show ¬ (6 ≤ (nI k)) from (sm_nleN rfl rfl (show k < 6 by omega) (show 6 < 2 ^ 31 by omega))) ?_
    refine mz_go 4 (c' := (43, [some (.ref 49), some (.ref 50), some (.int fi), some (.int f), some (.ref 2), some (.int (nI k)), l6, l7, l8, l9], [.int (r 0), .int (nI k), .ref 2], mz_set (mz_set (mz_set m 50 r) 51 f1) 52 g1)) rfl ?_
    rw [hr0]
    refine mz_go 2 (c' := (47, [some (.ref 49), some (.ref 50), some (.int fi), some (.int f), some (.ref 2), some (.int (nI k)), l6, l7, l8, l9], [.int (r 1), .int x, .int (nI k), .ref 2], mz_set (mz_set (mz_set m 50 r) 51 f1) 52 g1)) rfl ?_
    rw [hr1]
    refine mz_doQ (R := mz_r24) (as := [.ref 2, .int (nI k), .int x, .int y]) (rest := []) (r1 := some (.int (sm_far (m 4 k) (m 5 k) x y))) (m1 := mz_set (mz_set (mz_set m 50 r) 51 f1) 52 g1) mz_t24 mz_v24_2 rfl rfl rfl rfl rfl ((cs_far hN (m := mz_set (mz_set (mz_set m 50 r) 51 f1) 52 g1) h4 (show k < N by omega) x y).deep (by decide)) ?_
    rw [hF]
    refine mz_go 5 (c' := (60, [some (.ref 49), some (.ref 50), some (.int fi), some (.int f), some (.ref 2), some (.int (nI k)), some (.int F), l7, l8, l9], [.int (nI k), .ref 6, .ref 49], mz_set (mz_set (mz_set m 50 r) 51 f1) 52 g1)) rfl ?_
    refine mz_arr (c' := (61, [some (.ref 49), some (.ref 50), some (.int fi), some (.int f), some (.ref 2), some (.int (nI k)), some (.int F), l7, l8, l9], [.int (m 6 ((nI k).toNatClampNeg)), .ref 49], mz_set (mz_set (mz_set m 50 r) 51 f1) 52 g1)) rfl (show mz_in (nI k) 6 = true from sm_inN rfl (show k < 6 by omega) (by decide)) ?_
    rw [show (nI k : Int32).toNatClampNeg = k from sm_clN rfl (show k < 2 ^ 31 by omega)]
    refine mz_go 3 (c' := (67, [some (.ref 49), some (.ref 50), some (.int fi), some (.int f), some (.ref 2), some (.int (nI k)), some (.int F), l7, l8, l9], [.int (r 4), .int F, .int (m 6 k), .ref 49], mz_set (mz_set (mz_set m 50 r) 51 f1) 52 g1)) rfl ?_
    rw [hr4]
    refine mz_doQ (R := mz_r42) (as := [.ref 49, .int (m 6 k), .int F, .int t]) (rest := []) (r1 := some (.int (sm_full m (m 6 k) F t))) (m1 := mz_set (mz_set (mz_set (mz_set (mz_set m 50 r) 51 f1) 52 g1) 51 f2) 52 g2) mz_t42 mz_v42_49 rfl rfl rfl rfl rfl (E1.deep (by decide)) ?_
    rw [hp]
    refine mz_go 4 (c' := (79, [some (.ref 49), some (.ref 50), some (.int fi), some (.int f), some (.ref 2), some (.int (nI k)), some (.int F), some (.int p), l8, l9], [.int (nI k), .ref 3], mz_set (mz_set (mz_set (mz_set (mz_set m 50 r) 51 f1) 52 g1) 51 f2) 52 g2)) rfl ?_
    refine mz_arr (c' := (80, [some (.ref 49), some (.ref 50), some (.int fi), some (.int f), some (.ref 2), some (.int (nI k)), some (.int F), some (.int p), l8, l9], [.int (m 3 ((nI k).toNatClampNeg))], mz_set (mz_set (mz_set (mz_set (mz_set m 50 r) 51 f1) 52 g1) 51 f2) 52 g2)) rfl (show mz_in (nI k) 6 = true from sm_inN rfl (show k < 6 by omega) (by decide)) ?_
    rw [show (nI k : Int32).toNatClampNeg = k from sm_clN rfl (show k < 2 ^ 31 by omega)]
    refine mz_go 4 (c' := (88, [some (.ref 49), some (.ref 50), some (.int fi), some (.int f), some (.ref 2), some (.int (nI k)), some (.int F), some (.int p), l8, l9], [.int (r 4), .int F, .int p, .int (m 3 k)], mz_set (mz_set (mz_set (mz_set (mz_set m 50 r) 51 f1) 52 g1) 51 f2) 52 g2)) rfl ?_
    rw [hr4]
    refine mz_doQ (R := mz_r41) (as := [.int (m 3 k), .int p, .int F, .int t]) (rest := []) (r1 := some (.int (sm_kind (m 3 k) p F t))) (m1 := mz_set (mz_set (mz_set (mz_set (mz_set m 50 r) 51 f1) 52 g1) 51 f2) 52 g2) mz_t41 mz_v41 rfl rfl rfl rfl rfl ((cs_kindN (m := mz_set (mz_set (mz_set (mz_set (mz_set m 50 r) 51 f1) 52 g1) 51 f2) 52 g2) hbk.1 hB F t).deep (by decide)) ?_
    rw [hq]
    refine mz_go 10 (c' := (107, [some (.ref 49), some (.ref 50), some (.int fi), some (.int f), some (.ref 2), some (.int (nI k)), some (.int F), some (.int p), some (.int q), some (.int (16 * (F + 1)))], [.int (r 2), .ref 50], mz_set (mz_set (mz_set (mz_set (mz_set m 50 r) 51 f1) 52 g1) 51 f2) 52 g2)) rfl ?_
    rw [hr2]
    refine mz_go 4 (c' := (116, [some (.ref 49), some (.ref 50), some (.int fi), some (.int f), some (.ref 2), some (.int (nI k)), some (.int F), some (.int p), some (.int q), some (.int (16 * (F + 1)))], [.int (nI k), .ref 4, .int 16, .int U, .ref 50], mz_set (mz_set (mz_set (mz_set (mz_set m 50 r) 51 f1) 52 g1) 51 f2) 52 g2)) rfl ?_
    refine mz_arr (c' := (117, [some (.ref 49), some (.ref 50), some (.int fi), some (.int f), some (.ref 2), some (.int (nI k)), some (.int F), some (.int p), some (.int q), some (.int (16 * (F + 1)))], [.int (m 4 ((nI k).toNatClampNeg)), .int 16, .int U, .ref 50], mz_set (mz_set (mz_set (mz_set (mz_set m 50 r) 51 f1) 52 g1) 51 f2) 52 g2)) rfl (show mz_in (nI k) 6 = true from sm_inN rfl (show k < 6 by omega) (by decide)) ?_
    rw [show (nI k : Int32).toNatClampNeg = k from sm_clN rfl (show k < 2 ^ 31 by omega)]
    refine mz_go 3 (c' := (122, [some (.ref 49), some (.ref 50), some (.int fi), some (.int f), some (.ref 2), some (.int (nI k)), some (.int F), some (.int p), some (.int q), some (.int (16 * (F + 1)))], [.int (r 0), .int (16 * (m 4 k)), .int U, .ref 50], mz_set (mz_set (mz_set (mz_set (mz_set m 50 r) 51 f1) 52 g1) 51 f2) 52 g2)) rfl ?_
    rw [hr0]
    refine mz_go 4 (c' := (128, [some (.ref 49), some (.ref 50), some (.int fi), some (.int f), some (.ref 2), some (.int (nI k)), some (.int F), some (.int p), some (.int q), some (.int (16 * (F + 1)))], [.int (16 * (F + 1)), .int (((16 * (m 4 k)) - x) * q), .int U, .ref 50], mz_set (mz_set (mz_set (mz_set (mz_set m 50 r) 51 f1) 52 g1) 51 f2) 52 g2)) rfl ?_
    refine mz_doQ (R := mz_r123) (as := [.int (((16 * (m 4 k)) - x) * q), .int (16 * (F + 1))]) (rest := [.int U, .ref 50]) (r1 := some (.int ((((16 * (m 4 k)) - x) * q) / (16 * (F + 1))))) (m1 := mz_set (mz_set (mz_set (mz_set (mz_set m 50 r) 51 f1) 52 g1) 51 f2) 52 g2) mz_t123 mz_v123 rfl rfl rfl rfl rfl ((cs_cut (m := mz_set (mz_set (mz_set (mz_set (mz_set m 50 r) 51 f1) 52 g1) 51 f2) 52 g2) (a := (((16 * (m 4 k)) - x) * q)) hby.1).deep (by decide)) ?_
    refine mz_go 1 (c' := (132, [some (.ref 49), some (.ref 50), some (.int fi), some (.int f), some (.ref 2), some (.int (nI k)), some (.int F), some (.int p), some (.int q), some (.int (16 * (F + 1)))], [.int f, .int ((((16 * (m 4 k)) - x) * q) / (16 * (F + 1))), .int U, .ref 50], mz_set (mz_set (mz_set (mz_set (mz_set m 50 r) 51 f1) 52 g1) 51 f2) 52 g2)) rfl ?_
    refine mz_div (c' := (133, [some (.ref 49), some (.ref 50), some (.int fi), some (.int f), some (.ref 2), some (.int (nI k)), some (.int F), some (.int p), some (.int q), some (.int (16 * (F + 1)))], [.int (((((16 * (m 4 k)) - x) * q) / (16 * (F + 1))) / f), .int U, .ref 50], mz_set (mz_set (mz_set (mz_set (mz_set m 50 r) 51 f1) 52 g1) 51 f2) 52 g2)) rfl hf ?_
    refine mz_go 5 (c' := (142, [some (.ref 49), some (.ref 50), some (.int fi), some (.int f), some (.ref 2), some (.int (nI k)), some (.int F), some (.int p), some (.int q), some (.int (16 * (F + 1)))], [.int (r 3), .ref 50], mz_up (mz_set (mz_set (mz_set (mz_set (mz_set m 50 r) 51 f1) 52 g1) 51 f2) 52 g2) 50 2 (U + (((((16 * (m 4 k)) - x) * q) / (16 * (F + 1))) / f)))) rfl ?_
    rw [hr3]
    refine mz_go 4 (c' := (151, [some (.ref 49), some (.ref 50), some (.int fi), some (.int f), some (.ref 2), some (.int (nI k)), some (.int F), some (.int p), some (.int q), some (.int (16 * (F + 1)))], [.int (nI k), .ref 5, .int 16, .int V, .ref 50], mz_up (mz_set (mz_set (mz_set (mz_set (mz_set m 50 r) 51 f1) 52 g1) 51 f2) 52 g2) 50 2 (U + (((((16 * (m 4 k)) - x) * q) / (16 * (F + 1))) / f)))) rfl ?_
    refine mz_arr (c' := (152, [some (.ref 49), some (.ref 50), some (.int fi), some (.int f), some (.ref 2), some (.int (nI k)), some (.int F), some (.int p), some (.int q), some (.int (16 * (F + 1)))], [.int (m 5 ((nI k).toNatClampNeg)), .int 16, .int V, .ref 50], mz_up (mz_set (mz_set (mz_set (mz_set (mz_set m 50 r) 51 f1) 52 g1) 51 f2) 52 g2) 50 2 (U + (((((16 * (m 4 k)) - x) * q) / (16 * (F + 1))) / f)))) rfl (show mz_in (nI k) 6 = true from sm_inN rfl (show k < 6 by omega) (by decide)) ?_
    rw [show (nI k : Int32).toNatClampNeg = k from sm_clN rfl (show k < 2 ^ 31 by omega)]
    refine mz_go 3 (c' := (157, [some (.ref 49), some (.ref 50), some (.int fi), some (.int f), some (.ref 2), some (.int (nI k)), some (.int F), some (.int p), some (.int q), some (.int (16 * (F + 1)))], [.int (r 1), .int (16 * (m 5 k)), .int V, .ref 50], mz_up (mz_set (mz_set (mz_set (mz_set (mz_set m 50 r) 51 f1) 52 g1) 51 f2) 52 g2) 50 2 (U + (((((16 * (m 4 k)) - x) * q) / (16 * (F + 1))) / f)))) rfl ?_
    rw [hr1]
    refine mz_go 4 (c' := (163, [some (.ref 49), some (.ref 50), some (.int fi), some (.int f), some (.ref 2), some (.int (nI k)), some (.int F), some (.int p), some (.int q), some (.int (16 * (F + 1)))], [.int (16 * (F + 1)), .int (((16 * (m 5 k)) - y) * q), .int V, .ref 50], mz_up (mz_set (mz_set (mz_set (mz_set (mz_set m 50 r) 51 f1) 52 g1) 51 f2) 52 g2) 50 2 (U + (((((16 * (m 4 k)) - x) * q) / (16 * (F + 1))) / f)))) rfl ?_
    refine mz_doQ (R := mz_r123) (as := [.int (((16 * (m 5 k)) - y) * q), .int (16 * (F + 1))]) (rest := [.int V, .ref 50]) (r1 := some (.int ((((16 * (m 5 k)) - y) * q) / (16 * (F + 1))))) (m1 := mz_up (mz_set (mz_set (mz_set (mz_set (mz_set m 50 r) 51 f1) 52 g1) 51 f2) 52 g2) 50 2 (U + (((((16 * (m 4 k)) - x) * q) / (16 * (F + 1))) / f))) mz_t123 mz_v123 rfl rfl rfl rfl rfl ((cs_cut (m := mz_up (mz_set (mz_set (mz_set (mz_set (mz_set m 50 r) 51 f1) 52 g1) 51 f2) 52 g2) 50 2 (U + (((((16 * (m 4 k)) - x) * q) / (16 * (F + 1))) / f))) (a := (((16 * (m 5 k)) - y) * q)) hby.1).deep (by decide)) ?_
    refine mz_go 1 (c' := (167, [some (.ref 49), some (.ref 50), some (.int fi), some (.int f), some (.ref 2), some (.int (nI k)), some (.int F), some (.int p), some (.int q), some (.int (16 * (F + 1)))], [.int f, .int ((((16 * (m 5 k)) - y) * q) / (16 * (F + 1))), .int V, .ref 50], mz_up (mz_set (mz_set (mz_set (mz_set (mz_set m 50 r) 51 f1) 52 g1) 51 f2) 52 g2) 50 2 (U + (((((16 * (m 4 k)) - x) * q) / (16 * (F + 1))) / f)))) rfl ?_
    refine mz_div (c' := (168, [some (.ref 49), some (.ref 50), some (.int fi), some (.int f), some (.ref 2), some (.int (nI k)), some (.int F), some (.int p), some (.int q), some (.int (16 * (F + 1)))], [.int (((((16 * (m 5 k)) - y) * q) / (16 * (F + 1))) / f), .int V, .ref 50], mz_up (mz_set (mz_set (mz_set (mz_set (mz_set m 50 r) 51 f1) 52 g1) 51 f2) 52 g2) 50 2 (U + (((((16 * (m 4 k)) - x) * q) / (16 * (F + 1))) / f)))) rfl hf ?_
    refine mz_go 4 (c' := (18, [some (.ref 49), some (.ref 50), some (.int fi), some (.int f), some (.ref 2), some (.int ((nI k) + 1)), some (.int F), some (.int p), some (.int q), some (.int (16 * (F + 1)))], [], mz_up (mz_up (mz_set (mz_set (mz_set (mz_set (mz_set m 50 r) 51 f1) 52 g1) 51 f2) 52 g2) 50 2 (U + (((((16 * (m 4 k)) - x) * q) / (16 * (F + 1))) / f))) 50 3 (V + (((((16 * (m 5 k)) - y) * q) / (16 * (F + 1))) / f)))) rfl ?_
    exact E
