theorem sm_fitb (a : Bool) : mz_fit (some .boolean) (some (.int (sm_bI a))) = true := by cases a <;> rfl
set_option maxHeartbeats 4000000 in
set_option maxRecDepth 100000 in
theorem tr_lp0 {u T : Nat} {b : Nat → Int32} (hu : u < 3) (hT : T ≤ 60) {o D : Nat} {f : Nat → tx_R} (hG : ∀ q, q ≤ T → tx_G u T q (f q)) (hC : tx_D u T b (tx_ch u) (D + 20) mz_r163 o f) {m : mz_M} (k1 : m 66 1 = nI T) (k2 : ∀ i, i < 60 → m 66 (550 + i) = b i) {p0 s : Nat} (hs0 : s ≤ p0) {x0 g0 : Nat → Int32} (hu1 : x0 12 = nI u) : ∀ (j : Nat) (r : tx_R) (x g : Nat → Int32), tx_G u T p0 r → tx_T u o (tx_ch u) r s x0 g0 x g → r.1 = true → 60 ≤ j + r.2.1 → ∃ x' g', mz_Ex (D + 21) mz_k162 (9, [some (.ref 65)], [], mz_set (mz_set m 65 x) 69 g) (some (.int (sm_bI (tx_lp T b 0 f j r).1)), mz_set (mz_set m 65 x') 69 g') ∧ tx_T u o (tx_ch u) (tx_lp T b 0 f j r) s x0 g0 x' g' := by
  intro j
  induction j with
  | zero =>
    intro r x g hGr hTr ok h60
    show ∃ x' g', mz_Ex (D + 21) mz_k162 (9, [some (.ref 65)], [], mz_set (mz_set m 65 x) 69 g) (some (.int (sm_bI (r).1)), mz_set (mz_set m 65 x') 69 g') ∧ tx_T u o (tx_ch u) (r) s x0 g0 x' g'
    have hGr2 := hGr
    obtain ⟨-, GT, -⟩ := hGr2
    have hT2 := hTr
    obtain ⟨a1, a2, a3⟩ := hT2
    obtain ⟨a10, a11, a4, a5⟩ := a3 ok
    have hu2 : x 12 = nI u := (a2 12 (by decide) (by decide) (by decide)).trans hu1
    obtain ⟨G1, G2, G3⟩ := hGr
    have jn : ¬ tx_joins 0 (tx_at T b r.2.1) = true := fun z => absurd (tx_joins_lt z) (by omega)
    have n0 : ¬ tx_at T b r.2.1 = 124 := fun z => jn (by rw [z]; decide)
    refine ⟨x, g, ?_, hTr⟩
    rw [ok]
    refine mz_go 1 (c' := (10, [some (.ref 65)], [.ref 65], mz_set (mz_set m 65 x) 69 g)) rfl ?_
    refine mz_doQ (R := mz_r159) (as := [.ref 65]) (rest := []) (r1 := some (.int (tx_at T b r.2.1))) (m1 := mz_set (mz_set m 65 x) 69 g) mz_t159 mz_v159_65 rfl rfl rfl rfl rfl ((tr_look (m := mz_set (mz_set m 65 x) 69 g) hT k1 k2 (p := r.2.1) (show (mz_set (mz_set m 65 x) 69 g) 65 9 = nI r.2.1 from a1) (by omega)).deep (by omega)) ?_
    refine mz_go 2 (c' := (if (tx_at T b r.2.1) = 124 then 18 else 47, [some (.ref 65)], [], mz_set (mz_set m 65 x) 69 g)) rfl ?_
    refine mz_ifF n0 ?_
    refine mz_go 1 (c' := (48, [some (.ref 65)], [.int 1], mz_set (mz_set m 65 x) 69 g)) rfl ?_
    exact mz_ret rfl
  | succ j ih =>
    intro r x g hGr hTr ok h60
    have hGr2 := hGr
    obtain ⟨-, GT, -⟩ := hGr2
    have hT2 := hTr
    obtain ⟨a1, a2, a3⟩ := hT2
    obtain ⟨a10, a11, a4, a5⟩ := a3 ok
    have hu2 : x 12 = nI u := (a2 12 (by decide) (by decide) (by decide)).trans hu1
    by_cases jn : tx_joins 0 (tx_at T b r.2.1) = true
    · have hlp : tx_lp T b 0 f (j + 1) r = tx_lp T b 0 f j ((f (r.2.1 + 1)).1, (f (r.2.1 + 1)).2.1, r.2.2 ++ (f (r.2.1 + 1)).2.2 ++ [(tx_at T b r.2.1, 0)]) := if_pos ⟨ok, jn⟩
      have hGn : tx_G u T p0 ((f (r.2.1 + 1)).1, (f (r.2.1 + 1)).2.1, r.2.2 ++ (f (r.2.1 + 1)).2.2 ++ [(tx_at T b r.2.1, 0)]) := by
        have h := tx_lp_G (b := b) (l := 0) (f := f) hG 1 p0 r hGr
        rw [show tx_lp T b 0 f 1 r = tx_lp T b 0 f 0 ((f (r.2.1 + 1)).1, (f (r.2.1 + 1)).2.1, r.2.2 ++ (f (r.2.1 + 1)).2.2 ++ [(tx_at T b r.2.1, 0)]) from if_pos ⟨ok, jn⟩] at h
        exact h
      have hlt := tx_joins_lt jn
      obtain ⟨G1, G2, G3⟩ := hGr
      obtain ⟨G4, G5, -⟩ := G3 ok
      obtain ⟨x1, g1, E1, q1⟩ := hC m (sm_upd x 9 ((nI r.2.1) + 1)) g k1 k2 (r.2.1 + 1) (s + r.2.2.length) (by omega) (by omega) (Eq.trans tx_upE (nI_succ r.2.1).symm) (Eq.trans (tx_upN (by decide)) a10) (Eq.trans (tx_upN (by decide)) a11) (Eq.trans (tx_upN (by decide)) hu2)
      have q2 := q1
      obtain ⟨c1, c2, c3⟩ := q2
      have hG1 := hG (r.2.1 + 1) (by omega)
      have hG2 := hG1
      obtain ⟨G6, G7, G8⟩ := hG2
      have hy : ∀ k, k ≠ 9 → k ≠ 10 → k ≠ 11 → (sm_upd x 9 ((nI r.2.1) + 1)) k = x k := fun k h1 h2 h3 => tx_upN h1
      have hy0 : ∀ k, k ≠ 9 → k ≠ 10 → k ≠ 11 → (sm_upd x 9 ((nI r.2.1) + 1)) k = x0 k := fun k h1 h2 h3 => (tx_upN h1).trans (a2 k h1 h2 h3)
      rw [hlp]
      by_cases ok2 : (f (r.2.1 + 1)).1 = true
      · have hok : ¬ sm_bI (f (r.2.1 + 1)).1 = 0 := by rw [ok2]; decide
        obtain ⟨d1, d2, d3, d4⟩ := c3 ok2
        obtain ⟨G9, G10, -⟩ := G8 ok2
        have hj : tx_at T b r.2.1 = 124 := of_decide_eq_true jn
        have EL := tr_lay (m := m) (x := x1) (g := g1) (s := (s + r.2.2.length + (f (r.2.1 + 1)).2.2.length)) (by omega) d2 3 124
        have hTn : tx_T u o (tx_ch u) ((f (r.2.1 + 1)).1, (f (r.2.1 + 1)).2.1, r.2.2 ++ (f (r.2.1 + 1)).2.2 ++ [(tx_at T b r.2.1, 0)]) s x0 g0 (sm_upd x1 11 ((nI (s + r.2.2.length + (f (r.2.1 + 1)).2.2.length)) + 1)) (tx_ly g1 (s + r.2.2.length + (f (r.2.1 + 1)).2.2.length) 3 124) := tx_T_step (P := (f (r.2.1 + 1)).2.1) ok hTr hy q1 ok2 (show sm_lk (tx_ch u) (tx_at T b r.2.1) 0 3 124 from by rw [hj]; exact sm_lk_sgn (by decide)) (Eq.trans (tx_upN (by decide)) c1) rfl (Eq.trans (tx_upN (by decide)) d1) tx_upE (fun k h1 h2 h3 => tx_upN h3)
        obtain ⟨x', g', hr, t1⟩ := ih ((f (r.2.1 + 1)).1, (f (r.2.1 + 1)).2.1, r.2.2 ++ (f (r.2.1 + 1)).2.2 ++ [(tx_at T b r.2.1, 0)]) _ _ hGn hTn ok2 (by show 60 ≤ j + (f (r.2.1 + 1)).2.1; omega)
        refine ⟨x', g', ?_, t1⟩
        refine mz_go 1 (c' := (10, [some (.ref 65)], [.ref 65], mz_set (mz_set m 65 x) 69 g)) rfl ?_
        refine mz_doQ (R := mz_r159) (as := [.ref 65]) (rest := []) (r1 := some (.int (tx_at T b r.2.1))) (m1 := mz_set (mz_set m 65 x) 69 g) mz_t159 mz_v159_65 rfl rfl rfl rfl rfl ((tr_look (m := mz_set (mz_set m 65 x) 69 g) hT k1 k2 (p := r.2.1) (show (mz_set (mz_set m 65 x) 69 g) 65 9 = nI r.2.1 from a1) (by omega)).deep (by omega)) ?_
        refine mz_go 2 (c' := (if (tx_at T b r.2.1) = 124 then 18 else 47, [some (.ref 65)], [], mz_set (mz_set m 65 x) 69 g)) rfl ?_
        refine mz_ifT hj ?_
        refine mz_go 3 (c' := (23, [some (.ref 65)], [.int (x 9), .ref 65], mz_set (mz_set m 65 x) 69 g)) rfl ?_
        rw [a1]
        refine mz_go 3 (c' := (28, [some (.ref 65)], [], mz_up (mz_set (mz_set m 65 x) 69 g) 65 9 ((nI r.2.1) + 1))) rfl ?_
        rw [tx_up65]
        refine mz_go 1 (c' := (29, [some (.ref 65)], [.ref 65], mz_set (mz_set m 65 (sm_upd x 9 ((nI r.2.1) + 1))) 69 g)) rfl ?_
        refine mz_doQ (R := mz_r163) (as := [.ref 65]) (rest := []) (r1 := some (.int (sm_bI (f (r.2.1 + 1)).1))) (m1 := mz_set (mz_set m 65 x1) 69 g1) mz_t163 mz_v163_65 rfl rfl rfl rfl rfl (E1.deep (by omega)) ?_
        refine mz_go 1 (c' := (if (sm_bI (f (r.2.1 + 1)).1) = 0 then 35 else 37, [some (.ref 65)], [], mz_set (mz_set m 65 x1) 69 g1)) rfl ?_
        refine mz_ifF hok ?_
        refine mz_go 3 (c' := (41, [some (.ref 65)], [.int 124, .int 3, .ref 65], mz_set (mz_set m 65 x1) 69 g1)) rfl ?_
        refine mz_doQ (R := mz_r161) (as := [.ref 65, .int 3, .int 124]) (rest := []) (r1 := none) (m1 := mz_set (mz_set m 65 (sm_upd x1 11 ((nI (s + r.2.2.length + (f (r.2.1 + 1)).2.2.length)) + 1))) 69 (tx_ly g1 (s + r.2.2.length + (f (r.2.1 + 1)).2.2.length) 3 124)) mz_t161 mz_v161_65 rfl rfl rfl rfl rfl (EL.deep (by omega)) ?_
        refine mz_go 1 (c' := (9, [some (.ref 65)], [], mz_set (mz_set m 65 (sm_upd x1 11 ((nI (s + r.2.2.length + (f (r.2.1 + 1)).2.2.length)) + 1))) 69 (tx_ly g1 (s + r.2.2.length + (f (r.2.1 + 1)).2.2.length) 3 124))) rfl ?_
        exact hr
      · have hok : sm_bI (f (r.2.1 + 1)).1 = 0 := by rw [eq_false_of_ne_true ok2]; rfl
        rw [show tx_lp T b 0 f j ((f (r.2.1 + 1)).1, (f (r.2.1 + 1)).2.1, r.2.2 ++ (f (r.2.1 + 1)).2.2 ++ [(tx_at T b r.2.1, 0)]) = ((f (r.2.1 + 1)).1, (f (r.2.1 + 1)).2.1, r.2.2 ++ (f (r.2.1 + 1)).2.2 ++ [(tx_at T b r.2.1, 0)]) from tx_lp_false j _ ok2]
        refine ⟨x1, g1, ?_, tx_T_fail hy0 q1 ok2⟩
        rw [hok]
        have hj : tx_at T b r.2.1 = 124 := of_decide_eq_true jn
        refine mz_go 1 (c' := (10, [some (.ref 65)], [.ref 65], mz_set (mz_set m 65 x) 69 g)) rfl ?_
        refine mz_doQ (R := mz_r159) (as := [.ref 65]) (rest := []) (r1 := some (.int (tx_at T b r.2.1))) (m1 := mz_set (mz_set m 65 x) 69 g) mz_t159 mz_v159_65 rfl rfl rfl rfl rfl ((tr_look (m := mz_set (mz_set m 65 x) 69 g) hT k1 k2 (p := r.2.1) (show (mz_set (mz_set m 65 x) 69 g) 65 9 = nI r.2.1 from a1) (by omega)).deep (by omega)) ?_
        refine mz_go 2 (c' := (if (tx_at T b r.2.1) = 124 then 18 else 47, [some (.ref 65)], [], mz_set (mz_set m 65 x) 69 g)) rfl ?_
        refine mz_ifT hj ?_
        refine mz_go 3 (c' := (23, [some (.ref 65)], [.int (x 9), .ref 65], mz_set (mz_set m 65 x) 69 g)) rfl ?_
        rw [a1]
        refine mz_go 3 (c' := (28, [some (.ref 65)], [], mz_up (mz_set (mz_set m 65 x) 69 g) 65 9 ((nI r.2.1) + 1))) rfl ?_
        rw [tx_up65]
        refine mz_go 1 (c' := (29, [some (.ref 65)], [.ref 65], mz_set (mz_set m 65 (sm_upd x 9 ((nI r.2.1) + 1))) 69 g)) rfl ?_
        refine mz_doQ (R := mz_r163) (as := [.ref 65]) (rest := []) (r1 := some (.int (sm_bI (f (r.2.1 + 1)).1))) (m1 := mz_set (mz_set m 65 x1) 69 g1) mz_t163 mz_v163_65 rfl rfl rfl rfl rfl (E1.deep (by omega)) ?_
        refine mz_go 1 (c' := (if (sm_bI (f (r.2.1 + 1)).1) = 0 then 35 else 37, [some (.ref 65)], [], mz_set (mz_set m 65 x1) 69 g1)) rfl ?_
        refine mz_ifT hok ?_
        refine mz_go 1 (c' := (36, [some (.ref 65)], [.int 0], mz_set (mz_set m 65 x1) 69 g1)) rfl ?_
        exact mz_ret rfl
    · rw [show tx_lp T b 0 f (j + 1) r = r from if_neg (fun z => jn z.2)]
      have n0 : ¬ tx_at T b r.2.1 = 124 := fun z => jn (by rw [z]; decide)
      refine ⟨x, g, ?_, hTr⟩
      rw [ok]
      refine mz_go 1 (c' := (10, [some (.ref 65)], [.ref 65], mz_set (mz_set m 65 x) 69 g)) rfl ?_
      refine mz_doQ (R := mz_r159) (as := [.ref 65]) (rest := []) (r1 := some (.int (tx_at T b r.2.1))) (m1 := mz_set (mz_set m 65 x) 69 g) mz_t159 mz_v159_65 rfl rfl rfl rfl rfl ((tr_look (m := mz_set (mz_set m 65 x) 69 g) hT k1 k2 (p := r.2.1) (show (mz_set (mz_set m 65 x) 69 g) 65 9 = nI r.2.1 from a1) (by omega)).deep (by omega)) ?_
      refine mz_go 2 (c' := (if (tx_at T b r.2.1) = 124 then 18 else 47, [some (.ref 65)], [], mz_set (mz_set m 65 x) 69 g)) rfl ?_
      refine mz_ifF n0 ?_
      refine mz_go 1 (c' := (48, [some (.ref 65)], [.int 1], mz_set (mz_set m 65 x) 69 g)) rfl ?_
      exact mz_ret rfl
set_option maxHeartbeats 4000000 in
set_option maxRecDepth 100000 in
theorem tr_lv0 {u T : Nat} {b : Nat → Int32} (hu : u < 3) (hT : T ≤ 60) {o D : Nat} {f : Nat → tx_R} (hG : ∀ q, q ≤ T → tx_G u T q (f q)) (hC : tx_D u T b (tx_ch u) (D + 20) mz_r163 o f) : tx_D u T b (tx_ch u) (D + 21) mz_r162 o (fun p => tx_lp T b 0 f 60 (f p)) := by
  intro m x g k1 k2 p s hsp hpT hp ho1 hs1 hu1
  show ∃ x' g', mz_Me (D + 21) mz_r162 _ _ (some (.int (sm_bI (tx_lp T b 0 f 60 (f p)).1))) _ ∧ tx_T u o (tx_ch u) (tx_lp T b 0 f 60 (f p)) s x g x' g'
  obtain ⟨x1, g1, E1, q1⟩ := hC m x g k1 k2 p s hsp hpT hp ho1 hs1 hu1
  by_cases ok : (f p).1 = true
  · have hok : ¬ sm_bI (f p).1 = 0 := by rw [ok]; decide
    obtain ⟨x', g', hr, t1⟩ := tr_lp0 hu hT hG hC (m := m) k1 k2 (p0 := p) (s := s) hsp (x0 := x) (g0 := g) hu1 60 (f p) x1 g1 (hG p hpT) q1 ok (by omega)
    refine ⟨x', g', ⟨?_, sm_fitb _⟩, t1⟩
    refine mz_go 1 (c' := (1, [some (.ref 65)], [.ref 65], mz_set (mz_set m 65 x) 69 g)) rfl ?_
    refine mz_doQ (R := mz_r163) (as := [.ref 65]) (rest := []) (r1 := some (.int (sm_bI (f p).1))) (m1 := mz_set (mz_set m 65 x1) 69 g1) mz_t163 mz_v163_65 rfl rfl rfl rfl rfl (E1.deep (by omega)) ?_
    refine mz_go 1 (c' := (if (sm_bI (f p).1) = 0 then 7 else 9, [some (.ref 65)], [], mz_set (mz_set m 65 x1) 69 g1)) rfl ?_
    refine mz_ifF hok ?_
    exact hr
  · have hok : sm_bI (f p).1 = 0 := by rw [eq_false_of_ne_true ok]; rfl
    refine ⟨x1, g1, ⟨?_, sm_fitb _⟩, ?_⟩
    · rw [show tx_lp T b 0 f 60 (f p) = f p from tx_lp_false 60 _ ok, hok]
      refine mz_go 1 (c' := (1, [some (.ref 65)], [.ref 65], mz_set (mz_set m 65 x) 69 g)) rfl ?_
      refine mz_doQ (R := mz_r163) (as := [.ref 65]) (rest := []) (r1 := some (.int (sm_bI (f p).1))) (m1 := mz_set (mz_set m 65 x1) 69 g1) mz_t163 mz_v163_65 rfl rfl rfl rfl rfl (E1.deep (by omega)) ?_
      refine mz_go 1 (c' := (if (sm_bI (f p).1) = 0 then 7 else 9, [some (.ref 65)], [], mz_set (mz_set m 65 x1) 69 g1)) rfl ?_
      refine mz_ifT hok ?_
      refine mz_go 1 (c' := (8, [some (.ref 65)], [.int 0], mz_set (mz_set m 65 x1) 69 g1)) rfl ?_
      exact mz_ret rfl
    · rw [show tx_lp T b 0 f 60 (f p) = f p from tx_lp_false 60 _ ok]
      exact q1
set_option maxHeartbeats 4000000 in
set_option maxRecDepth 100000 in
theorem tr_lp1 {u T : Nat} {b : Nat → Int32} (hu : u < 3) (hT : T ≤ 60) {o D : Nat} {f : Nat → tx_R} (hG : ∀ q, q ≤ T → tx_G u T q (f q)) (hC : tx_D u T b (tx_ch u) (D + 20) mz_r164 o f) {m : mz_M} (k1 : m 66 1 = nI T) (k2 : ∀ i, i < 60 → m 66 (550 + i) = b i) {p0 s : Nat} (hs0 : s ≤ p0) {x0 g0 : Nat → Int32} (hu1 : x0 12 = nI u) : ∀ (j : Nat) (r : tx_R) (x g : Nat → Int32), tx_G u T p0 r → tx_T u o (tx_ch u) r s x0 g0 x g → r.1 = true → 60 ≤ j + r.2.1 → ∃ x' g', mz_Ex (D + 21) mz_k163 (9, [some (.ref 65)], [], mz_set (mz_set m 65 x) 69 g) (some (.int (sm_bI (tx_lp T b 1 f j r).1)), mz_set (mz_set m 65 x') 69 g') ∧ tx_T u o (tx_ch u) (tx_lp T b 1 f j r) s x0 g0 x' g' := by
  intro j
  induction j with
  | zero =>
    intro r x g hGr hTr ok h60
    show ∃ x' g', mz_Ex (D + 21) mz_k163 (9, [some (.ref 65)], [], mz_set (mz_set m 65 x) 69 g) (some (.int (sm_bI (r).1)), mz_set (mz_set m 65 x') 69 g') ∧ tx_T u o (tx_ch u) (r) s x0 g0 x' g'
    have hGr2 := hGr
    obtain ⟨-, GT, -⟩ := hGr2
    have hT2 := hTr
    obtain ⟨a1, a2, a3⟩ := hT2
    obtain ⟨a10, a11, a4, a5⟩ := a3 ok
    have hu2 : x 12 = nI u := (a2 12 (by decide) (by decide) (by decide)).trans hu1
    obtain ⟨G1, G2, G3⟩ := hGr
    have jn : ¬ tx_joins 1 (tx_at T b r.2.1) = true := fun z => absurd (tx_joins_lt z) (by omega)
    have n0 : ¬ tx_at T b r.2.1 = 38 := fun z => jn (by rw [z]; decide)
    refine ⟨x, g, ?_, hTr⟩
    rw [ok]
    refine mz_go 1 (c' := (10, [some (.ref 65)], [.ref 65], mz_set (mz_set m 65 x) 69 g)) rfl ?_
    refine mz_doQ (R := mz_r159) (as := [.ref 65]) (rest := []) (r1 := some (.int (tx_at T b r.2.1))) (m1 := mz_set (mz_set m 65 x) 69 g) mz_t159 mz_v159_65 rfl rfl rfl rfl rfl ((tr_look (m := mz_set (mz_set m 65 x) 69 g) hT k1 k2 (p := r.2.1) (show (mz_set (mz_set m 65 x) 69 g) 65 9 = nI r.2.1 from a1) (by omega)).deep (by omega)) ?_
    refine mz_go 2 (c' := (if (tx_at T b r.2.1) = 38 then 18 else 47, [some (.ref 65)], [], mz_set (mz_set m 65 x) 69 g)) rfl ?_
    refine mz_ifF n0 ?_
    refine mz_go 1 (c' := (48, [some (.ref 65)], [.int 1], mz_set (mz_set m 65 x) 69 g)) rfl ?_
    exact mz_ret rfl
  | succ j ih =>
    intro r x g hGr hTr ok h60
    have hGr2 := hGr
    obtain ⟨-, GT, -⟩ := hGr2
    have hT2 := hTr
    obtain ⟨a1, a2, a3⟩ := hT2
    obtain ⟨a10, a11, a4, a5⟩ := a3 ok
    have hu2 : x 12 = nI u := (a2 12 (by decide) (by decide) (by decide)).trans hu1
    by_cases jn : tx_joins 1 (tx_at T b r.2.1) = true
    · have hlp : tx_lp T b 1 f (j + 1) r = tx_lp T b 1 f j ((f (r.2.1 + 1)).1, (f (r.2.1 + 1)).2.1, r.2.2 ++ (f (r.2.1 + 1)).2.2 ++ [(tx_at T b r.2.1, 0)]) := if_pos ⟨ok, jn⟩
      have hGn : tx_G u T p0 ((f (r.2.1 + 1)).1, (f (r.2.1 + 1)).2.1, r.2.2 ++ (f (r.2.1 + 1)).2.2 ++ [(tx_at T b r.2.1, 0)]) := by
        have h := tx_lp_G (b := b) (l := 1) (f := f) hG 1 p0 r hGr
        rw [show tx_lp T b 1 f 1 r = tx_lp T b 1 f 0 ((f (r.2.1 + 1)).1, (f (r.2.1 + 1)).2.1, r.2.2 ++ (f (r.2.1 + 1)).2.2 ++ [(tx_at T b r.2.1, 0)]) from if_pos ⟨ok, jn⟩] at h
        exact h
      have hlt := tx_joins_lt jn
      obtain ⟨G1, G2, G3⟩ := hGr
      obtain ⟨G4, G5, -⟩ := G3 ok
      obtain ⟨x1, g1, E1, q1⟩ := hC m (sm_upd x 9 ((nI r.2.1) + 1)) g k1 k2 (r.2.1 + 1) (s + r.2.2.length) (by omega) (by omega) (Eq.trans tx_upE (nI_succ r.2.1).symm) (Eq.trans (tx_upN (by decide)) a10) (Eq.trans (tx_upN (by decide)) a11) (Eq.trans (tx_upN (by decide)) hu2)
      have q2 := q1
      obtain ⟨c1, c2, c3⟩ := q2
      have hG1 := hG (r.2.1 + 1) (by omega)
      have hG2 := hG1
      obtain ⟨G6, G7, G8⟩ := hG2
      have hy : ∀ k, k ≠ 9 → k ≠ 10 → k ≠ 11 → (sm_upd x 9 ((nI r.2.1) + 1)) k = x k := fun k h1 h2 h3 => tx_upN h1
      have hy0 : ∀ k, k ≠ 9 → k ≠ 10 → k ≠ 11 → (sm_upd x 9 ((nI r.2.1) + 1)) k = x0 k := fun k h1 h2 h3 => (tx_upN h1).trans (a2 k h1 h2 h3)
      rw [hlp]
      by_cases ok2 : (f (r.2.1 + 1)).1 = true
      · have hok : ¬ sm_bI (f (r.2.1 + 1)).1 = 0 := by rw [ok2]; decide
        obtain ⟨d1, d2, d3, d4⟩ := c3 ok2
        obtain ⟨G9, G10, -⟩ := G8 ok2
        have hj : tx_at T b r.2.1 = 38 := of_decide_eq_true jn
        have EL := tr_lay (m := m) (x := x1) (g := g1) (s := (s + r.2.2.length + (f (r.2.1 + 1)).2.2.length)) (by omega) d2 3 38
        have hTn : tx_T u o (tx_ch u) ((f (r.2.1 + 1)).1, (f (r.2.1 + 1)).2.1, r.2.2 ++ (f (r.2.1 + 1)).2.2 ++ [(tx_at T b r.2.1, 0)]) s x0 g0 (sm_upd x1 11 ((nI (s + r.2.2.length + (f (r.2.1 + 1)).2.2.length)) + 1)) (tx_ly g1 (s + r.2.2.length + (f (r.2.1 + 1)).2.2.length) 3 38) := tx_T_step (P := (f (r.2.1 + 1)).2.1) ok hTr hy q1 ok2 (show sm_lk (tx_ch u) (tx_at T b r.2.1) 0 3 38 from by rw [hj]; exact sm_lk_sgn (by decide)) (Eq.trans (tx_upN (by decide)) c1) rfl (Eq.trans (tx_upN (by decide)) d1) tx_upE (fun k h1 h2 h3 => tx_upN h3)
        obtain ⟨x', g', hr, t1⟩ := ih ((f (r.2.1 + 1)).1, (f (r.2.1 + 1)).2.1, r.2.2 ++ (f (r.2.1 + 1)).2.2 ++ [(tx_at T b r.2.1, 0)]) _ _ hGn hTn ok2 (by show 60 ≤ j + (f (r.2.1 + 1)).2.1; omega)
        refine ⟨x', g', ?_, t1⟩
        refine mz_go 1 (c' := (10, [some (.ref 65)], [.ref 65], mz_set (mz_set m 65 x) 69 g)) rfl ?_
        refine mz_doQ (R := mz_r159) (as := [.ref 65]) (rest := []) (r1 := some (.int (tx_at T b r.2.1))) (m1 := mz_set (mz_set m 65 x) 69 g) mz_t159 mz_v159_65 rfl rfl rfl rfl rfl ((tr_look (m := mz_set (mz_set m 65 x) 69 g) hT k1 k2 (p := r.2.1) (show (mz_set (mz_set m 65 x) 69 g) 65 9 = nI r.2.1 from a1) (by omega)).deep (by omega)) ?_
        refine mz_go 2 (c' := (if (tx_at T b r.2.1) = 38 then 18 else 47, [some (.ref 65)], [], mz_set (mz_set m 65 x) 69 g)) rfl ?_
        refine mz_ifT hj ?_
        refine mz_go 3 (c' := (23, [some (.ref 65)], [.int (x 9), .ref 65], mz_set (mz_set m 65 x) 69 g)) rfl ?_
        rw [a1]
        refine mz_go 3 (c' := (28, [some (.ref 65)], [], mz_up (mz_set (mz_set m 65 x) 69 g) 65 9 ((nI r.2.1) + 1))) rfl ?_
        rw [tx_up65]
        refine mz_go 1 (c' := (29, [some (.ref 65)], [.ref 65], mz_set (mz_set m 65 (sm_upd x 9 ((nI r.2.1) + 1))) 69 g)) rfl ?_
        refine mz_doQ (R := mz_r164) (as := [.ref 65]) (rest := []) (r1 := some (.int (sm_bI (f (r.2.1 + 1)).1))) (m1 := mz_set (mz_set m 65 x1) 69 g1) mz_t164 mz_v164_65 rfl rfl rfl rfl rfl (E1.deep (by omega)) ?_
        refine mz_go 1 (c' := (if (sm_bI (f (r.2.1 + 1)).1) = 0 then 35 else 37, [some (.ref 65)], [], mz_set (mz_set m 65 x1) 69 g1)) rfl ?_
        refine mz_ifF hok ?_
        refine mz_go 3 (c' := (41, [some (.ref 65)], [.int 38, .int 3, .ref 65], mz_set (mz_set m 65 x1) 69 g1)) rfl ?_
        refine mz_doQ (R := mz_r161) (as := [.ref 65, .int 3, .int 38]) (rest := []) (r1 := none) (m1 := mz_set (mz_set m 65 (sm_upd x1 11 ((nI (s + r.2.2.length + (f (r.2.1 + 1)).2.2.length)) + 1))) 69 (tx_ly g1 (s + r.2.2.length + (f (r.2.1 + 1)).2.2.length) 3 38)) mz_t161 mz_v161_65 rfl rfl rfl rfl rfl (EL.deep (by omega)) ?_
        refine mz_go 1 (c' := (9, [some (.ref 65)], [], mz_set (mz_set m 65 (sm_upd x1 11 ((nI (s + r.2.2.length + (f (r.2.1 + 1)).2.2.length)) + 1))) 69 (tx_ly g1 (s + r.2.2.length + (f (r.2.1 + 1)).2.2.length) 3 38))) rfl ?_
        exact hr
      · have hok : sm_bI (f (r.2.1 + 1)).1 = 0 := by rw [eq_false_of_ne_true ok2]; rfl
        rw [show tx_lp T b 1 f j ((f (r.2.1 + 1)).1, (f (r.2.1 + 1)).2.1, r.2.2 ++ (f (r.2.1 + 1)).2.2 ++ [(tx_at T b r.2.1, 0)]) = ((f (r.2.1 + 1)).1, (f (r.2.1 + 1)).2.1, r.2.2 ++ (f (r.2.1 + 1)).2.2 ++ [(tx_at T b r.2.1, 0)]) from tx_lp_false j _ ok2]
        refine ⟨x1, g1, ?_, tx_T_fail hy0 q1 ok2⟩
        rw [hok]
        have hj : tx_at T b r.2.1 = 38 := of_decide_eq_true jn
        refine mz_go 1 (c' := (10, [some (.ref 65)], [.ref 65], mz_set (mz_set m 65 x) 69 g)) rfl ?_
        refine mz_doQ (R := mz_r159) (as := [.ref 65]) (rest := []) (r1 := some (.int (tx_at T b r.2.1))) (m1 := mz_set (mz_set m 65 x) 69 g) mz_t159 mz_v159_65 rfl rfl rfl rfl rfl ((tr_look (m := mz_set (mz_set m 65 x) 69 g) hT k1 k2 (p := r.2.1) (show (mz_set (mz_set m 65 x) 69 g) 65 9 = nI r.2.1 from a1) (by omega)).deep (by omega)) ?_
        refine mz_go 2 (c' := (if (tx_at T b r.2.1) = 38 then 18 else 47, [some (.ref 65)], [], mz_set (mz_set m 65 x) 69 g)) rfl ?_
        refine mz_ifT hj ?_
        refine mz_go 3 (c' := (23, [some (.ref 65)], [.int (x 9), .ref 65], mz_set (mz_set m 65 x) 69 g)) rfl ?_
        rw [a1]
        refine mz_go 3 (c' := (28, [some (.ref 65)], [], mz_up (mz_set (mz_set m 65 x) 69 g) 65 9 ((nI r.2.1) + 1))) rfl ?_
        rw [tx_up65]
        refine mz_go 1 (c' := (29, [some (.ref 65)], [.ref 65], mz_set (mz_set m 65 (sm_upd x 9 ((nI r.2.1) + 1))) 69 g)) rfl ?_
        refine mz_doQ (R := mz_r164) (as := [.ref 65]) (rest := []) (r1 := some (.int (sm_bI (f (r.2.1 + 1)).1))) (m1 := mz_set (mz_set m 65 x1) 69 g1) mz_t164 mz_v164_65 rfl rfl rfl rfl rfl (E1.deep (by omega)) ?_
        refine mz_go 1 (c' := (if (sm_bI (f (r.2.1 + 1)).1) = 0 then 35 else 37, [some (.ref 65)], [], mz_set (mz_set m 65 x1) 69 g1)) rfl ?_
        refine mz_ifT hok ?_
        refine mz_go 1 (c' := (36, [some (.ref 65)], [.int 0], mz_set (mz_set m 65 x1) 69 g1)) rfl ?_
        exact mz_ret rfl
    · rw [show tx_lp T b 1 f (j + 1) r = r from if_neg (fun z => jn z.2)]
      have n0 : ¬ tx_at T b r.2.1 = 38 := fun z => jn (by rw [z]; decide)
      refine ⟨x, g, ?_, hTr⟩
      rw [ok]
      refine mz_go 1 (c' := (10, [some (.ref 65)], [.ref 65], mz_set (mz_set m 65 x) 69 g)) rfl ?_
      refine mz_doQ (R := mz_r159) (as := [.ref 65]) (rest := []) (r1 := some (.int (tx_at T b r.2.1))) (m1 := mz_set (mz_set m 65 x) 69 g) mz_t159 mz_v159_65 rfl rfl rfl rfl rfl ((tr_look (m := mz_set (mz_set m 65 x) 69 g) hT k1 k2 (p := r.2.1) (show (mz_set (mz_set m 65 x) 69 g) 65 9 = nI r.2.1 from a1) (by omega)).deep (by omega)) ?_
      refine mz_go 2 (c' := (if (tx_at T b r.2.1) = 38 then 18 else 47, [some (.ref 65)], [], mz_set (mz_set m 65 x) 69 g)) rfl ?_
      refine mz_ifF n0 ?_
      refine mz_go 1 (c' := (48, [some (.ref 65)], [.int 1], mz_set (mz_set m 65 x) 69 g)) rfl ?_
      exact mz_ret rfl
set_option maxHeartbeats 4000000 in
set_option maxRecDepth 100000 in
theorem tr_lv1 {u T : Nat} {b : Nat → Int32} (hu : u < 3) (hT : T ≤ 60) {o D : Nat} {f : Nat → tx_R} (hG : ∀ q, q ≤ T → tx_G u T q (f q)) (hC : tx_D u T b (tx_ch u) (D + 20) mz_r164 o f) : tx_D u T b (tx_ch u) (D + 21) mz_r163 o (fun p => tx_lp T b 1 f 60 (f p)) := by
  intro m x g k1 k2 p s hsp hpT hp ho1 hs1 hu1
  show ∃ x' g', mz_Me (D + 21) mz_r163 _ _ (some (.int (sm_bI (tx_lp T b 1 f 60 (f p)).1))) _ ∧ tx_T u o (tx_ch u) (tx_lp T b 1 f 60 (f p)) s x g x' g'
  obtain ⟨x1, g1, E1, q1⟩ := hC m x g k1 k2 p s hsp hpT hp ho1 hs1 hu1
  by_cases ok : (f p).1 = true
  · have hok : ¬ sm_bI (f p).1 = 0 := by rw [ok]; decide
    obtain ⟨x', g', hr, t1⟩ := tr_lp1 hu hT hG hC (m := m) k1 k2 (p0 := p) (s := s) hsp (x0 := x) (g0 := g) hu1 60 (f p) x1 g1 (hG p hpT) q1 ok (by omega)
    refine ⟨x', g', ⟨?_, sm_fitb _⟩, t1⟩
    refine mz_go 1 (c' := (1, [some (.ref 65)], [.ref 65], mz_set (mz_set m 65 x) 69 g)) rfl ?_
    refine mz_doQ (R := mz_r164) (as := [.ref 65]) (rest := []) (r1 := some (.int (sm_bI (f p).1))) (m1 := mz_set (mz_set m 65 x1) 69 g1) mz_t164 mz_v164_65 rfl rfl rfl rfl rfl (E1.deep (by omega)) ?_
    refine mz_go 1 (c' := (if (sm_bI (f p).1) = 0 then 7 else 9, [some (.ref 65)], [], mz_set (mz_set m 65 x1) 69 g1)) rfl ?_
    refine mz_ifF hok ?_
    exact hr
  · have hok : sm_bI (f p).1 = 0 := by rw [eq_false_of_ne_true ok]; rfl
    refine ⟨x1, g1, ⟨?_, sm_fitb _⟩, ?_⟩
    · rw [show tx_lp T b 1 f 60 (f p) = f p from tx_lp_false 60 _ ok, hok]
      refine mz_go 1 (c' := (1, [some (.ref 65)], [.ref 65], mz_set (mz_set m 65 x) 69 g)) rfl ?_
      refine mz_doQ (R := mz_r164) (as := [.ref 65]) (rest := []) (r1 := some (.int (sm_bI (f p).1))) (m1 := mz_set (mz_set m 65 x1) 69 g1) mz_t164 mz_v164_65 rfl rfl rfl rfl rfl (E1.deep (by omega)) ?_
      refine mz_go 1 (c' := (if (sm_bI (f p).1) = 0 then 7 else 9, [some (.ref 65)], [], mz_set (mz_set m 65 x1) 69 g1)) rfl ?_
      refine mz_ifT hok ?_
      refine mz_go 1 (c' := (8, [some (.ref 65)], [.int 0], mz_set (mz_set m 65 x1) 69 g1)) rfl ?_
      exact mz_ret rfl
    · rw [show tx_lp T b 1 f 60 (f p) = f p from tx_lp_false 60 _ ok]
      exact q1
set_option maxHeartbeats 4000000 in
set_option maxRecDepth 100000 in
theorem tr_lp2 {u T : Nat} {b : Nat → Int32} (hu : u < 3) (hT : T ≤ 60) {o D : Nat} {f : Nat → tx_R} (hG : ∀ q, q ≤ T → tx_G u T q (f q)) (hC : tx_D u T b (tx_ch u) (D + 20) mz_r165 o f) {m : mz_M} (k1 : m 66 1 = nI T) (k2 : ∀ i, i < 60 → m 66 (550 + i) = b i) {p0 s : Nat} (hs0 : s ≤ p0) {x0 g0 : Nat → Int32} (hu1 : x0 12 = nI u) {r : tx_R} {x g : Nat → Int32} (hGr : tx_G u T p0 r) (hTr : tx_T u o (tx_ch u) r s x0 g0 x g) (ok : r.1 = true) (o1 : Option Value) : ∃ x' g', mz_Ex (D + 21) mz_k164 (9, [some (.ref 65), o1], [], mz_set (mz_set m 65 x) 69 g) (some (.int (sm_bI (tx_lp T b 2 f 1 r).1)), mz_set (mz_set m 65 x') 69 g') ∧ tx_T u o (tx_ch u) (tx_lp T b 2 f 1 r) s x0 g0 x' g' := by
  have hGr2 := hGr
  obtain ⟨-, GT, -⟩ := hGr2
  have hT2 := hTr
  obtain ⟨a1, a2, a3⟩ := hT2
  obtain ⟨a10, a11, a4, a5⟩ := a3 ok
  have hu2 : x 12 = nI u := (a2 12 (by decide) (by decide) (by decide)).trans hu1
  by_cases jn : tx_joins 2 (tx_at T b r.2.1) = true
  · have hlp : tx_lp T b 2 f 1 r = ((f (r.2.1 + 1)).1, (f (r.2.1 + 1)).2.1, r.2.2 ++ (f (r.2.1 + 1)).2.2 ++ [(tx_at T b r.2.1, 0)]) := if_pos ⟨ok, jn⟩
    have hlt := tx_joins_lt jn
    obtain ⟨G1, G2, G3⟩ := hGr
    obtain ⟨G4, G5, -⟩ := G3 ok
    obtain ⟨x1, g1, E1, q1⟩ := hC m (sm_upd x 9 ((nI r.2.1) + 1)) g k1 k2 (r.2.1 + 1) (s + r.2.2.length) (by omega) (by omega) (Eq.trans tx_upE (nI_succ r.2.1).symm) (Eq.trans (tx_upN (by decide)) a10) (Eq.trans (tx_upN (by decide)) a11) (Eq.trans (tx_upN (by decide)) hu2)
    have q2 := q1
    obtain ⟨c1, c2, c3⟩ := q2
    have hG1 := hG (r.2.1 + 1) (by omega)
    have hG2 := hG1
    obtain ⟨G6, G7, G8⟩ := hG2
    have hy : ∀ k, k ≠ 9 → k ≠ 10 → k ≠ 11 → (sm_upd x 9 ((nI r.2.1) + 1)) k = x k := fun k h1 h2 h3 => tx_upN h1
    have hy0 : ∀ k, k ≠ 9 → k ≠ 10 → k ≠ 11 → (sm_upd x 9 ((nI r.2.1) + 1)) k = x0 k := fun k h1 h2 h3 => (tx_upN h1).trans (a2 k h1 h2 h3)
    rw [hlp]
    by_cases ok2 : (f (r.2.1 + 1)).1 = true
    · have hok : ¬ sm_bI (f (r.2.1 + 1)).1 = 0 := by rw [ok2]; decide
      obtain ⟨d1, d2, d3, d4⟩ := c3 ok2
      obtain ⟨G9, G10, -⟩ := G8 ok2
      have hjs : tx_at T b r.2.1 = 60 ∨ tx_at T b r.2.1 = 61 ∨ tx_at T b r.2.1 = 62 := by
        rcases (Bool.or_eq_true _ _).mp jn with h | h
        · exact Or.inl (of_decide_eq_true h)
        · rcases (Bool.or_eq_true _ _).mp h with h | h
          · exact Or.inr (Or.inl (of_decide_eq_true h))
          · exact Or.inr (Or.inr (of_decide_eq_true h))
      rcases hjs with hj | hj | hj
      · have EL := tr_lay (m := m) (x := x1) (g := g1) (s := (s + r.2.2.length + (f (r.2.1 + 1)).2.2.length)) (by omega) d2 3 (tx_at T b r.2.1)
        have hTn : tx_T u o (tx_ch u) ((f (r.2.1 + 1)).1, (f (r.2.1 + 1)).2.1, r.2.2 ++ (f (r.2.1 + 1)).2.2 ++ [(tx_at T b r.2.1, 0)]) s x0 g0 (sm_upd x1 11 ((nI (s + r.2.2.length + (f (r.2.1 + 1)).2.2.length)) + 1)) (tx_ly g1 (s + r.2.2.length + (f (r.2.1 + 1)).2.2.length) 3 (tx_at T b r.2.1)) := tx_T_step (P := (f (r.2.1 + 1)).2.1) ok hTr hy q1 ok2 (sm_lk_sgn (tx_joins_sgn jn)) (Eq.trans (tx_upN (by decide)) c1) rfl (Eq.trans (tx_upN (by decide)) d1) tx_upE (fun k h1 h2 h3 => tx_upN h3)
        refine ⟨_, _, ?_, hTn⟩
        rw [show sm_bI (f (r.2.1 + 1)).1 = 1 from by rw [ok2]; rfl]
        refine mz_go 1 (c' := (10, [some (.ref 65), o1], [.ref 65], mz_set (mz_set m 65 x) 69 g)) rfl ?_
        refine mz_doQ (R := mz_r159) (as := [.ref 65]) (rest := []) (r1 := some (.int (tx_at T b r.2.1))) (m1 := mz_set (mz_set m 65 x) 69 g) mz_t159 mz_v159_65 rfl rfl rfl rfl rfl ((tr_look (m := mz_set (mz_set m 65 x) 69 g) hT k1 k2 (p := r.2.1) (show (mz_set (mz_set m 65 x) 69 g) 65 9 = nI r.2.1 from a1) (by omega)).deep (by omega)) ?_
        refine mz_go 4 (c' := (if (tx_at T b r.2.1) = 60 then 34 else 20, [some (.ref 65), some (.int (tx_at T b r.2.1))], [], mz_set (mz_set m 65 x) 69 g)) rfl ?_
        refine mz_ifT hj ?_
        refine mz_go 3 (c' := (39, [some (.ref 65), some (.int (tx_at T b r.2.1))], [.int (x 9), .ref 65], mz_set (mz_set m 65 x) 69 g)) rfl ?_
        rw [a1]
        refine mz_go 3 (c' := (44, [some (.ref 65), some (.int (tx_at T b r.2.1))], [], mz_up (mz_set (mz_set m 65 x) 69 g) 65 9 ((nI r.2.1) + 1))) rfl ?_
        rw [tx_up65]
        refine mz_go 1 (c' := (45, [some (.ref 65), some (.int (tx_at T b r.2.1))], [.ref 65], mz_set (mz_set m 65 (sm_upd x 9 ((nI r.2.1) + 1))) 69 g)) rfl ?_
        refine mz_doQ (R := mz_r165) (as := [.ref 65]) (rest := []) (r1 := some (.int (sm_bI (f (r.2.1 + 1)).1))) (m1 := mz_set (mz_set m 65 x1) 69 g1) mz_t165 mz_v165_65 rfl rfl rfl rfl rfl (E1.deep (by omega)) ?_
        refine mz_go 1 (c' := (if (sm_bI (f (r.2.1 + 1)).1) = 0 then 51 else 53, [some (.ref 65), some (.int (tx_at T b r.2.1))], [], mz_set (mz_set m 65 x1) 69 g1)) rfl ?_
        refine mz_ifF hok ?_
        refine mz_go 3 (c' := (56, [some (.ref 65), some (.int (tx_at T b r.2.1))], [.int (tx_at T b r.2.1), .int 3, .ref 65], mz_set (mz_set m 65 x1) 69 g1)) rfl ?_
        refine mz_doQ (R := mz_r161) (as := [.ref 65, .int 3, .int (tx_at T b r.2.1)]) (rest := []) (r1 := none) (m1 := mz_set (mz_set m 65 (sm_upd x1 11 ((nI (s + r.2.2.length + (f (r.2.1 + 1)).2.2.length)) + 1))) 69 (tx_ly g1 (s + r.2.2.length + (f (r.2.1 + 1)).2.2.length) 3 (tx_at T b r.2.1))) mz_t161 mz_v161_65 rfl rfl rfl rfl rfl (EL.deep (by omega)) ?_
        refine mz_go 1 (c' := (60, [some (.ref 65), some (.int (tx_at T b r.2.1))], [.int 1], mz_set (mz_set m 65 (sm_upd x1 11 ((nI (s + r.2.2.length + (f (r.2.1 + 1)).2.2.length)) + 1))) 69 (tx_ly g1 (s + r.2.2.length + (f (r.2.1 + 1)).2.2.length) 3 (tx_at T b r.2.1)))) rfl ?_
        exact mz_ret rfl
      · have EL := tr_lay (m := m) (x := x1) (g := g1) (s := (s + r.2.2.length + (f (r.2.1 + 1)).2.2.length)) (by omega) d2 3 (tx_at T b r.2.1)
        have hTn : tx_T u o (tx_ch u) ((f (r.2.1 + 1)).1, (f (r.2.1 + 1)).2.1, r.2.2 ++ (f (r.2.1 + 1)).2.2 ++ [(tx_at T b r.2.1, 0)]) s x0 g0 (sm_upd x1 11 ((nI (s + r.2.2.length + (f (r.2.1 + 1)).2.2.length)) + 1)) (tx_ly g1 (s + r.2.2.length + (f (r.2.1 + 1)).2.2.length) 3 (tx_at T b r.2.1)) := tx_T_step (P := (f (r.2.1 + 1)).2.1) ok hTr hy q1 ok2 (sm_lk_sgn (tx_joins_sgn jn)) (Eq.trans (tx_upN (by decide)) c1) rfl (Eq.trans (tx_upN (by decide)) d1) tx_upE (fun k h1 h2 h3 => tx_upN h3)
        refine ⟨_, _, ?_, hTn⟩
        rw [show sm_bI (f (r.2.1 + 1)).1 = 1 from by rw [ok2]; rfl]
        refine mz_go 1 (c' := (10, [some (.ref 65), o1], [.ref 65], mz_set (mz_set m 65 x) 69 g)) rfl ?_
        refine mz_doQ (R := mz_r159) (as := [.ref 65]) (rest := []) (r1 := some (.int (tx_at T b r.2.1))) (m1 := mz_set (mz_set m 65 x) 69 g) mz_t159 mz_v159_65 rfl rfl rfl rfl rfl ((tr_look (m := mz_set (mz_set m 65 x) 69 g) hT k1 k2 (p := r.2.1) (show (mz_set (mz_set m 65 x) 69 g) 65 9 = nI r.2.1 from a1) (by omega)).deep (by omega)) ?_
        refine mz_go 4 (c' := (if (tx_at T b r.2.1) = 60 then 34 else 20, [some (.ref 65), some (.int (tx_at T b r.2.1))], [], mz_set (mz_set m 65 x) 69 g)) rfl ?_
        refine mz_ifF (by rw [hj]; decide) ?_
        refine mz_go 3 (c' := (if (tx_at T b r.2.1) = 61 then 34 else 26, [some (.ref 65), some (.int (tx_at T b r.2.1))], [], mz_set (mz_set m 65 x) 69 g)) rfl ?_
        refine mz_ifT hj ?_
        refine mz_go 3 (c' := (39, [some (.ref 65), some (.int (tx_at T b r.2.1))], [.int (x 9), .ref 65], mz_set (mz_set m 65 x) 69 g)) rfl ?_
        rw [a1]
        refine mz_go 3 (c' := (44, [some (.ref 65), some (.int (tx_at T b r.2.1))], [], mz_up (mz_set (mz_set m 65 x) 69 g) 65 9 ((nI r.2.1) + 1))) rfl ?_
        rw [tx_up65]
        refine mz_go 1 (c' := (45, [some (.ref 65), some (.int (tx_at T b r.2.1))], [.ref 65], mz_set (mz_set m 65 (sm_upd x 9 ((nI r.2.1) + 1))) 69 g)) rfl ?_
        refine mz_doQ (R := mz_r165) (as := [.ref 65]) (rest := []) (r1 := some (.int (sm_bI (f (r.2.1 + 1)).1))) (m1 := mz_set (mz_set m 65 x1) 69 g1) mz_t165 mz_v165_65 rfl rfl rfl rfl rfl (E1.deep (by omega)) ?_
        refine mz_go 1 (c' := (if (sm_bI (f (r.2.1 + 1)).1) = 0 then 51 else 53, [some (.ref 65), some (.int (tx_at T b r.2.1))], [], mz_set (mz_set m 65 x1) 69 g1)) rfl ?_
        refine mz_ifF hok ?_
        refine mz_go 3 (c' := (56, [some (.ref 65), some (.int (tx_at T b r.2.1))], [.int (tx_at T b r.2.1), .int 3, .ref 65], mz_set (mz_set m 65 x1) 69 g1)) rfl ?_
        refine mz_doQ (R := mz_r161) (as := [.ref 65, .int 3, .int (tx_at T b r.2.1)]) (rest := []) (r1 := none) (m1 := mz_set (mz_set m 65 (sm_upd x1 11 ((nI (s + r.2.2.length + (f (r.2.1 + 1)).2.2.length)) + 1))) 69 (tx_ly g1 (s + r.2.2.length + (f (r.2.1 + 1)).2.2.length) 3 (tx_at T b r.2.1))) mz_t161 mz_v161_65 rfl rfl rfl rfl rfl (EL.deep (by omega)) ?_
        refine mz_go 1 (c' := (60, [some (.ref 65), some (.int (tx_at T b r.2.1))], [.int 1], mz_set (mz_set m 65 (sm_upd x1 11 ((nI (s + r.2.2.length + (f (r.2.1 + 1)).2.2.length)) + 1))) 69 (tx_ly g1 (s + r.2.2.length + (f (r.2.1 + 1)).2.2.length) 3 (tx_at T b r.2.1)))) rfl ?_
        exact mz_ret rfl
      · have EL := tr_lay (m := m) (x := x1) (g := g1) (s := (s + r.2.2.length + (f (r.2.1 + 1)).2.2.length)) (by omega) d2 3 (tx_at T b r.2.1)
        have hTn : tx_T u o (tx_ch u) ((f (r.2.1 + 1)).1, (f (r.2.1 + 1)).2.1, r.2.2 ++ (f (r.2.1 + 1)).2.2 ++ [(tx_at T b r.2.1, 0)]) s x0 g0 (sm_upd x1 11 ((nI (s + r.2.2.length + (f (r.2.1 + 1)).2.2.length)) + 1)) (tx_ly g1 (s + r.2.2.length + (f (r.2.1 + 1)).2.2.length) 3 (tx_at T b r.2.1)) := tx_T_step (P := (f (r.2.1 + 1)).2.1) ok hTr hy q1 ok2 (sm_lk_sgn (tx_joins_sgn jn)) (Eq.trans (tx_upN (by decide)) c1) rfl (Eq.trans (tx_upN (by decide)) d1) tx_upE (fun k h1 h2 h3 => tx_upN h3)
        refine ⟨_, _, ?_, hTn⟩
        rw [show sm_bI (f (r.2.1 + 1)).1 = 1 from by rw [ok2]; rfl]
        refine mz_go 1 (c' := (10, [some (.ref 65), o1], [.ref 65], mz_set (mz_set m 65 x) 69 g)) rfl ?_
        refine mz_doQ (R := mz_r159) (as := [.ref 65]) (rest := []) (r1 := some (.int (tx_at T b r.2.1))) (m1 := mz_set (mz_set m 65 x) 69 g) mz_t159 mz_v159_65 rfl rfl rfl rfl rfl ((tr_look (m := mz_set (mz_set m 65 x) 69 g) hT k1 k2 (p := r.2.1) (show (mz_set (mz_set m 65 x) 69 g) 65 9 = nI r.2.1 from a1) (by omega)).deep (by omega)) ?_
        refine mz_go 4 (c' := (if (tx_at T b r.2.1) = 60 then 34 else 20, [some (.ref 65), some (.int (tx_at T b r.2.1))], [], mz_set (mz_set m 65 x) 69 g)) rfl ?_
        refine mz_ifF (by rw [hj]; decide) ?_
        refine mz_go 3 (c' := (if (tx_at T b r.2.1) = 61 then 34 else 26, [some (.ref 65), some (.int (tx_at T b r.2.1))], [], mz_set (mz_set m 65 x) 69 g)) rfl ?_
        refine mz_ifF (by rw [hj]; decide) ?_
        refine mz_go 3 (c' := (if (tx_at T b r.2.1) = 62 then 34 else 32, [some (.ref 65), some (.int (tx_at T b r.2.1))], [], mz_set (mz_set m 65 x) 69 g)) rfl ?_
        refine mz_ifT hj ?_
        refine mz_go 3 (c' := (39, [some (.ref 65), some (.int (tx_at T b r.2.1))], [.int (x 9), .ref 65], mz_set (mz_set m 65 x) 69 g)) rfl ?_
        rw [a1]
        refine mz_go 3 (c' := (44, [some (.ref 65), some (.int (tx_at T b r.2.1))], [], mz_up (mz_set (mz_set m 65 x) 69 g) 65 9 ((nI r.2.1) + 1))) rfl ?_
        rw [tx_up65]
        refine mz_go 1 (c' := (45, [some (.ref 65), some (.int (tx_at T b r.2.1))], [.ref 65], mz_set (mz_set m 65 (sm_upd x 9 ((nI r.2.1) + 1))) 69 g)) rfl ?_
        refine mz_doQ (R := mz_r165) (as := [.ref 65]) (rest := []) (r1 := some (.int (sm_bI (f (r.2.1 + 1)).1))) (m1 := mz_set (mz_set m 65 x1) 69 g1) mz_t165 mz_v165_65 rfl rfl rfl rfl rfl (E1.deep (by omega)) ?_
        refine mz_go 1 (c' := (if (sm_bI (f (r.2.1 + 1)).1) = 0 then 51 else 53, [some (.ref 65), some (.int (tx_at T b r.2.1))], [], mz_set (mz_set m 65 x1) 69 g1)) rfl ?_
        refine mz_ifF hok ?_
        refine mz_go 3 (c' := (56, [some (.ref 65), some (.int (tx_at T b r.2.1))], [.int (tx_at T b r.2.1), .int 3, .ref 65], mz_set (mz_set m 65 x1) 69 g1)) rfl ?_
        refine mz_doQ (R := mz_r161) (as := [.ref 65, .int 3, .int (tx_at T b r.2.1)]) (rest := []) (r1 := none) (m1 := mz_set (mz_set m 65 (sm_upd x1 11 ((nI (s + r.2.2.length + (f (r.2.1 + 1)).2.2.length)) + 1))) 69 (tx_ly g1 (s + r.2.2.length + (f (r.2.1 + 1)).2.2.length) 3 (tx_at T b r.2.1))) mz_t161 mz_v161_65 rfl rfl rfl rfl rfl (EL.deep (by omega)) ?_
        refine mz_go 1 (c' := (60, [some (.ref 65), some (.int (tx_at T b r.2.1))], [.int 1], mz_set (mz_set m 65 (sm_upd x1 11 ((nI (s + r.2.2.length + (f (r.2.1 + 1)).2.2.length)) + 1))) 69 (tx_ly g1 (s + r.2.2.length + (f (r.2.1 + 1)).2.2.length) 3 (tx_at T b r.2.1)))) rfl ?_
        exact mz_ret rfl
    · have hok : sm_bI (f (r.2.1 + 1)).1 = 0 := by rw [eq_false_of_ne_true ok2]; rfl
      refine ⟨x1, g1, ?_, tx_T_fail hy0 q1 ok2⟩
      rw [hok]
      have hjs : tx_at T b r.2.1 = 60 ∨ tx_at T b r.2.1 = 61 ∨ tx_at T b r.2.1 = 62 := by
        rcases (Bool.or_eq_true _ _).mp jn with h | h
        · exact Or.inl (of_decide_eq_true h)
        · rcases (Bool.or_eq_true _ _).mp h with h | h
          · exact Or.inr (Or.inl (of_decide_eq_true h))
          · exact Or.inr (Or.inr (of_decide_eq_true h))
      rcases hjs with hj | hj | hj
      · refine mz_go 1 (c' := (10, [some (.ref 65), o1], [.ref 65], mz_set (mz_set m 65 x) 69 g)) rfl ?_
        refine mz_doQ (R := mz_r159) (as := [.ref 65]) (rest := []) (r1 := some (.int (tx_at T b r.2.1))) (m1 := mz_set (mz_set m 65 x) 69 g) mz_t159 mz_v159_65 rfl rfl rfl rfl rfl ((tr_look (m := mz_set (mz_set m 65 x) 69 g) hT k1 k2 (p := r.2.1) (show (mz_set (mz_set m 65 x) 69 g) 65 9 = nI r.2.1 from a1) (by omega)).deep (by omega)) ?_
        refine mz_go 4 (c' := (if (tx_at T b r.2.1) = 60 then 34 else 20, [some (.ref 65), some (.int (tx_at T b r.2.1))], [], mz_set (mz_set m 65 x) 69 g)) rfl ?_
        refine mz_ifT hj ?_
        refine mz_go 3 (c' := (39, [some (.ref 65), some (.int (tx_at T b r.2.1))], [.int (x 9), .ref 65], mz_set (mz_set m 65 x) 69 g)) rfl ?_
        rw [a1]
        refine mz_go 3 (c' := (44, [some (.ref 65), some (.int (tx_at T b r.2.1))], [], mz_up (mz_set (mz_set m 65 x) 69 g) 65 9 ((nI r.2.1) + 1))) rfl ?_
        rw [tx_up65]
        refine mz_go 1 (c' := (45, [some (.ref 65), some (.int (tx_at T b r.2.1))], [.ref 65], mz_set (mz_set m 65 (sm_upd x 9 ((nI r.2.1) + 1))) 69 g)) rfl ?_
        refine mz_doQ (R := mz_r165) (as := [.ref 65]) (rest := []) (r1 := some (.int (sm_bI (f (r.2.1 + 1)).1))) (m1 := mz_set (mz_set m 65 x1) 69 g1) mz_t165 mz_v165_65 rfl rfl rfl rfl rfl (E1.deep (by omega)) ?_
        refine mz_go 1 (c' := (if (sm_bI (f (r.2.1 + 1)).1) = 0 then 51 else 53, [some (.ref 65), some (.int (tx_at T b r.2.1))], [], mz_set (mz_set m 65 x1) 69 g1)) rfl ?_
        refine mz_ifT hok ?_
        refine mz_go 1 (c' := (52, [some (.ref 65), some (.int (tx_at T b r.2.1))], [.int 0], mz_set (mz_set m 65 x1) 69 g1)) rfl ?_
        exact mz_ret rfl
      · refine mz_go 1 (c' := (10, [some (.ref 65), o1], [.ref 65], mz_set (mz_set m 65 x) 69 g)) rfl ?_
        refine mz_doQ (R := mz_r159) (as := [.ref 65]) (rest := []) (r1 := some (.int (tx_at T b r.2.1))) (m1 := mz_set (mz_set m 65 x) 69 g) mz_t159 mz_v159_65 rfl rfl rfl rfl rfl ((tr_look (m := mz_set (mz_set m 65 x) 69 g) hT k1 k2 (p := r.2.1) (show (mz_set (mz_set m 65 x) 69 g) 65 9 = nI r.2.1 from a1) (by omega)).deep (by omega)) ?_
        refine mz_go 4 (c' := (if (tx_at T b r.2.1) = 60 then 34 else 20, [some (.ref 65), some (.int (tx_at T b r.2.1))], [], mz_set (mz_set m 65 x) 69 g)) rfl ?_
        refine mz_ifF (by rw [hj]; decide) ?_
        refine mz_go 3 (c' := (if (tx_at T b r.2.1) = 61 then 34 else 26, [some (.ref 65), some (.int (tx_at T b r.2.1))], [], mz_set (mz_set m 65 x) 69 g)) rfl ?_
        refine mz_ifT hj ?_
        refine mz_go 3 (c' := (39, [some (.ref 65), some (.int (tx_at T b r.2.1))], [.int (x 9), .ref 65], mz_set (mz_set m 65 x) 69 g)) rfl ?_
        rw [a1]
        refine mz_go 3 (c' := (44, [some (.ref 65), some (.int (tx_at T b r.2.1))], [], mz_up (mz_set (mz_set m 65 x) 69 g) 65 9 ((nI r.2.1) + 1))) rfl ?_
        rw [tx_up65]
        refine mz_go 1 (c' := (45, [some (.ref 65), some (.int (tx_at T b r.2.1))], [.ref 65], mz_set (mz_set m 65 (sm_upd x 9 ((nI r.2.1) + 1))) 69 g)) rfl ?_
        refine mz_doQ (R := mz_r165) (as := [.ref 65]) (rest := []) (r1 := some (.int (sm_bI (f (r.2.1 + 1)).1))) (m1 := mz_set (mz_set m 65 x1) 69 g1) mz_t165 mz_v165_65 rfl rfl rfl rfl rfl (E1.deep (by omega)) ?_
        refine mz_go 1 (c' := (if (sm_bI (f (r.2.1 + 1)).1) = 0 then 51 else 53, [some (.ref 65), some (.int (tx_at T b r.2.1))], [], mz_set (mz_set m 65 x1) 69 g1)) rfl ?_
        refine mz_ifT hok ?_
        refine mz_go 1 (c' := (52, [some (.ref 65), some (.int (tx_at T b r.2.1))], [.int 0], mz_set (mz_set m 65 x1) 69 g1)) rfl ?_
        exact mz_ret rfl
      · refine mz_go 1 (c' := (10, [some (.ref 65), o1], [.ref 65], mz_set (mz_set m 65 x) 69 g)) rfl ?_
        refine mz_doQ (R := mz_r159) (as := [.ref 65]) (rest := []) (r1 := some (.int (tx_at T b r.2.1))) (m1 := mz_set (mz_set m 65 x) 69 g) mz_t159 mz_v159_65 rfl rfl rfl rfl rfl ((tr_look (m := mz_set (mz_set m 65 x) 69 g) hT k1 k2 (p := r.2.1) (show (mz_set (mz_set m 65 x) 69 g) 65 9 = nI r.2.1 from a1) (by omega)).deep (by omega)) ?_
        refine mz_go 4 (c' := (if (tx_at T b r.2.1) = 60 then 34 else 20, [some (.ref 65), some (.int (tx_at T b r.2.1))], [], mz_set (mz_set m 65 x) 69 g)) rfl ?_
        refine mz_ifF (by rw [hj]; decide) ?_
        refine mz_go 3 (c' := (if (tx_at T b r.2.1) = 61 then 34 else 26, [some (.ref 65), some (.int (tx_at T b r.2.1))], [], mz_set (mz_set m 65 x) 69 g)) rfl ?_
        refine mz_ifF (by rw [hj]; decide) ?_
        refine mz_go 3 (c' := (if (tx_at T b r.2.1) = 62 then 34 else 32, [some (.ref 65), some (.int (tx_at T b r.2.1))], [], mz_set (mz_set m 65 x) 69 g)) rfl ?_
        refine mz_ifT hj ?_
        refine mz_go 3 (c' := (39, [some (.ref 65), some (.int (tx_at T b r.2.1))], [.int (x 9), .ref 65], mz_set (mz_set m 65 x) 69 g)) rfl ?_
        rw [a1]
        refine mz_go 3 (c' := (44, [some (.ref 65), some (.int (tx_at T b r.2.1))], [], mz_up (mz_set (mz_set m 65 x) 69 g) 65 9 ((nI r.2.1) + 1))) rfl ?_
        rw [tx_up65]
        refine mz_go 1 (c' := (45, [some (.ref 65), some (.int (tx_at T b r.2.1))], [.ref 65], mz_set (mz_set m 65 (sm_upd x 9 ((nI r.2.1) + 1))) 69 g)) rfl ?_
        refine mz_doQ (R := mz_r165) (as := [.ref 65]) (rest := []) (r1 := some (.int (sm_bI (f (r.2.1 + 1)).1))) (m1 := mz_set (mz_set m 65 x1) 69 g1) mz_t165 mz_v165_65 rfl rfl rfl rfl rfl (E1.deep (by omega)) ?_
        refine mz_go 1 (c' := (if (sm_bI (f (r.2.1 + 1)).1) = 0 then 51 else 53, [some (.ref 65), some (.int (tx_at T b r.2.1))], [], mz_set (mz_set m 65 x1) 69 g1)) rfl ?_
        refine mz_ifT hok ?_
        refine mz_go 1 (c' := (52, [some (.ref 65), some (.int (tx_at T b r.2.1))], [.int 0], mz_set (mz_set m 65 x1) 69 g1)) rfl ?_
        exact mz_ret rfl
  · rw [show tx_lp T b 2 f 1 r = r from if_neg (fun z => jn z.2)]
    have n0 : ¬ tx_at T b r.2.1 = 60 := fun z => jn (by rw [z]; decide)
    have n1 : ¬ tx_at T b r.2.1 = 61 := fun z => jn (by rw [z]; decide)
    have n2 : ¬ tx_at T b r.2.1 = 62 := fun z => jn (by rw [z]; decide)
    refine ⟨x, g, ?_, hTr⟩
    rw [ok]
    refine mz_go 1 (c' := (10, [some (.ref 65), o1], [.ref 65], mz_set (mz_set m 65 x) 69 g)) rfl ?_
    refine mz_doQ (R := mz_r159) (as := [.ref 65]) (rest := []) (r1 := some (.int (tx_at T b r.2.1))) (m1 := mz_set (mz_set m 65 x) 69 g) mz_t159 mz_v159_65 rfl rfl rfl rfl rfl ((tr_look (m := mz_set (mz_set m 65 x) 69 g) hT k1 k2 (p := r.2.1) (show (mz_set (mz_set m 65 x) 69 g) 65 9 = nI r.2.1 from a1) (by omega)).deep (by omega)) ?_
    refine mz_go 4 (c' := (if (tx_at T b r.2.1) = 60 then 34 else 20, [some (.ref 65), some (.int (tx_at T b r.2.1))], [], mz_set (mz_set m 65 x) 69 g)) rfl ?_
    refine mz_ifF n0 ?_
    refine mz_go 3 (c' := (if (tx_at T b r.2.1) = 61 then 34 else 26, [some (.ref 65), some (.int (tx_at T b r.2.1))], [], mz_set (mz_set m 65 x) 69 g)) rfl ?_
    refine mz_ifF n1 ?_
    refine mz_go 3 (c' := (if (tx_at T b r.2.1) = 62 then 34 else 32, [some (.ref 65), some (.int (tx_at T b r.2.1))], [], mz_set (mz_set m 65 x) 69 g)) rfl ?_
    refine mz_ifF n2 ?_
    refine mz_go 1 (c' := (33, [some (.ref 65), some (.int (tx_at T b r.2.1))], [.int 1], mz_set (mz_set m 65 x) 69 g)) rfl ?_
    exact mz_ret rfl
set_option maxHeartbeats 4000000 in
set_option maxRecDepth 100000 in
theorem tr_lv2 {u T : Nat} {b : Nat → Int32} (hu : u < 3) (hT : T ≤ 60) {o D : Nat} {f : Nat → tx_R} (hG : ∀ q, q ≤ T → tx_G u T q (f q)) (hC : tx_D u T b (tx_ch u) (D + 20) mz_r165 o f) : tx_D u T b (tx_ch u) (D + 21) mz_r164 o (fun p => tx_lp T b 2 f 1 (f p)) := by
  intro m x g k1 k2 p s hsp hpT hp ho1 hs1 hu1
  show ∃ x' g', mz_Me (D + 21) mz_r164 _ _ (some (.int (sm_bI (tx_lp T b 2 f 1 (f p)).1))) _ ∧ tx_T u o (tx_ch u) (tx_lp T b 2 f 1 (f p)) s x g x' g'
  obtain ⟨x1, g1, E1, q1⟩ := hC m x g k1 k2 p s hsp hpT hp ho1 hs1 hu1
  by_cases ok : (f p).1 = true
  · have hok : ¬ sm_bI (f p).1 = 0 := by rw [ok]; decide
    obtain ⟨x', g', hr, t1⟩ := tr_lp2 hu hT hG hC (m := m) k1 k2 (p0 := p) (s := s) hsp (x0 := x) (g0 := g) hu1 (hG p hpT) q1 ok none
    refine ⟨x', g', ⟨?_, sm_fitb _⟩, t1⟩
    refine mz_go 1 (c' := (1, [some (.ref 65), none], [.ref 65], mz_set (mz_set m 65 x) 69 g)) rfl ?_
    refine mz_doQ (R := mz_r165) (as := [.ref 65]) (rest := []) (r1 := some (.int (sm_bI (f p).1))) (m1 := mz_set (mz_set m 65 x1) 69 g1) mz_t165 mz_v165_65 rfl rfl rfl rfl rfl (E1.deep (by omega)) ?_
    refine mz_go 1 (c' := (if (sm_bI (f p).1) = 0 then 7 else 9, [some (.ref 65), none], [], mz_set (mz_set m 65 x1) 69 g1)) rfl ?_
    refine mz_ifF hok ?_
    exact hr
  · have hok : sm_bI (f p).1 = 0 := by rw [eq_false_of_ne_true ok]; rfl
    refine ⟨x1, g1, ⟨?_, sm_fitb _⟩, ?_⟩
    · rw [show tx_lp T b 2 f 1 (f p) = f p from tx_lp_false 1 _ ok, hok]
      refine mz_go 1 (c' := (1, [some (.ref 65), none], [.ref 65], mz_set (mz_set m 65 x) 69 g)) rfl ?_
      refine mz_doQ (R := mz_r165) (as := [.ref 65]) (rest := []) (r1 := some (.int (sm_bI (f p).1))) (m1 := mz_set (mz_set m 65 x1) 69 g1) mz_t165 mz_v165_65 rfl rfl rfl rfl rfl (E1.deep (by omega)) ?_
      refine mz_go 1 (c' := (if (sm_bI (f p).1) = 0 then 7 else 9, [some (.ref 65), none], [], mz_set (mz_set m 65 x1) 69 g1)) rfl ?_
      refine mz_ifT hok ?_
      refine mz_go 1 (c' := (8, [some (.ref 65), none], [.int 0], mz_set (mz_set m 65 x1) 69 g1)) rfl ?_
      exact mz_ret rfl
    · rw [show tx_lp T b 2 f 1 (f p) = f p from tx_lp_false 1 _ ok]
      exact q1
set_option maxHeartbeats 4000000 in
set_option maxRecDepth 100000 in
theorem tr_lp3 {u T : Nat} {b : Nat → Int32} (hu : u < 3) (hT : T ≤ 60) {o D : Nat} {f : Nat → tx_R} (hG : ∀ q, q ≤ T → tx_G u T q (f q)) (hC : tx_D u T b (tx_ch u) (D + 20) mz_r166 o f) {m : mz_M} (k1 : m 66 1 = nI T) (k2 : ∀ i, i < 60 → m 66 (550 + i) = b i) {p0 s : Nat} (hs0 : s ≤ p0) {x0 g0 : Nat → Int32} (hu1 : x0 12 = nI u) : ∀ (j : Nat) (r : tx_R) (x g : Nat → Int32), tx_G u T p0 r → tx_T u o (tx_ch u) r s x0 g0 x g → r.1 = true → 60 ≤ j + r.2.1 → ∀ (o1 : Option Value), ∃ x' g', mz_Ex (D + 21) mz_k165 (9, [some (.ref 65), o1], [], mz_set (mz_set m 65 x) 69 g) (some (.int (sm_bI (tx_lp T b 3 f j r).1)), mz_set (mz_set m 65 x') 69 g') ∧ tx_T u o (tx_ch u) (tx_lp T b 3 f j r) s x0 g0 x' g' := by
  intro j
  induction j with
  | zero =>
    intro r x g hGr hTr ok h60 o1
    show ∃ x' g', mz_Ex (D + 21) mz_k165 (9, [some (.ref 65), o1], [], mz_set (mz_set m 65 x) 69 g) (some (.int (sm_bI (r).1)), mz_set (mz_set m 65 x') 69 g') ∧ tx_T u o (tx_ch u) (r) s x0 g0 x' g'
    have hGr2 := hGr
    obtain ⟨-, GT, -⟩ := hGr2
    have hT2 := hTr
    obtain ⟨a1, a2, a3⟩ := hT2
    obtain ⟨a10, a11, a4, a5⟩ := a3 ok
    have hu2 : x 12 = nI u := (a2 12 (by decide) (by decide) (by decide)).trans hu1
    obtain ⟨G1, G2, G3⟩ := hGr
    have jn : ¬ tx_joins 3 (tx_at T b r.2.1) = true := fun z => absurd (tx_joins_lt z) (by omega)
    have n0 : ¬ tx_at T b r.2.1 = 43 := fun z => jn (by rw [z]; decide)
    have n1 : ¬ tx_at T b r.2.1 = 45 := fun z => jn (by rw [z]; decide)
    refine ⟨x, g, ?_, hTr⟩
    rw [ok]
    refine mz_go 1 (c' := (10, [some (.ref 65), o1], [.ref 65], mz_set (mz_set m 65 x) 69 g)) rfl ?_
    refine mz_doQ (R := mz_r159) (as := [.ref 65]) (rest := []) (r1 := some (.int (tx_at T b r.2.1))) (m1 := mz_set (mz_set m 65 x) 69 g) mz_t159 mz_v159_65 rfl rfl rfl rfl rfl ((tr_look (m := mz_set (mz_set m 65 x) 69 g) hT k1 k2 (p := r.2.1) (show (mz_set (mz_set m 65 x) 69 g) 65 9 = nI r.2.1 from a1) (by omega)).deep (by omega)) ?_
    refine mz_go 2 (c' := (if (tx_at T b r.2.1) = 43 then 27 else 18, [some (.ref 65), o1], [], mz_set (mz_set m 65 x) 69 g)) rfl ?_
    refine mz_ifF n0 ?_
    refine mz_go 1 (c' := (19, [some (.ref 65), o1], [.ref 65], mz_set (mz_set m 65 x) 69 g)) rfl ?_
    refine mz_doQ (R := mz_r159) (as := [.ref 65]) (rest := []) (r1 := some (.int (tx_at T b r.2.1))) (m1 := mz_set (mz_set m 65 x) 69 g) mz_t159 mz_v159_65 rfl rfl rfl rfl rfl ((tr_look (m := mz_set (mz_set m 65 x) 69 g) hT k1 k2 (p := r.2.1) (show (mz_set (mz_set m 65 x) 69 g) 65 9 = nI r.2.1 from a1) (by omega)).deep (by omega)) ?_
    refine mz_go 2 (c' := (if (tx_at T b r.2.1) = 45 then 27 else 60, [some (.ref 65), o1], [], mz_set (mz_set m 65 x) 69 g)) rfl ?_
    refine mz_ifF n1 ?_
    refine mz_go 1 (c' := (61, [some (.ref 65), o1], [.int 1], mz_set (mz_set m 65 x) 69 g)) rfl ?_
    exact mz_ret rfl
  | succ j ih =>
    intro r x g hGr hTr ok h60 o1
    have hGr2 := hGr
    obtain ⟨-, GT, -⟩ := hGr2
    have hT2 := hTr
    obtain ⟨a1, a2, a3⟩ := hT2
    obtain ⟨a10, a11, a4, a5⟩ := a3 ok
    have hu2 : x 12 = nI u := (a2 12 (by decide) (by decide) (by decide)).trans hu1
    by_cases jn : tx_joins 3 (tx_at T b r.2.1) = true
    · have hlp : tx_lp T b 3 f (j + 1) r = tx_lp T b 3 f j ((f (r.2.1 + 1)).1, (f (r.2.1 + 1)).2.1, r.2.2 ++ (f (r.2.1 + 1)).2.2 ++ [(tx_at T b r.2.1, 0)]) := if_pos ⟨ok, jn⟩
      have hGn : tx_G u T p0 ((f (r.2.1 + 1)).1, (f (r.2.1 + 1)).2.1, r.2.2 ++ (f (r.2.1 + 1)).2.2 ++ [(tx_at T b r.2.1, 0)]) := by
        have h := tx_lp_G (b := b) (l := 3) (f := f) hG 1 p0 r hGr
        rw [show tx_lp T b 3 f 1 r = tx_lp T b 3 f 0 ((f (r.2.1 + 1)).1, (f (r.2.1 + 1)).2.1, r.2.2 ++ (f (r.2.1 + 1)).2.2 ++ [(tx_at T b r.2.1, 0)]) from if_pos ⟨ok, jn⟩] at h
        exact h
      have hlt := tx_joins_lt jn
      obtain ⟨G1, G2, G3⟩ := hGr
      obtain ⟨G4, G5, -⟩ := G3 ok
      obtain ⟨x1, g1, E1, q1⟩ := hC m (sm_upd x 9 ((nI r.2.1) + 1)) g k1 k2 (r.2.1 + 1) (s + r.2.2.length) (by omega) (by omega) (Eq.trans tx_upE (nI_succ r.2.1).symm) (Eq.trans (tx_upN (by decide)) a10) (Eq.trans (tx_upN (by decide)) a11) (Eq.trans (tx_upN (by decide)) hu2)
      have q2 := q1
      obtain ⟨c1, c2, c3⟩ := q2
      have hG1 := hG (r.2.1 + 1) (by omega)
      have hG2 := hG1
      obtain ⟨G6, G7, G8⟩ := hG2
      have hy : ∀ k, k ≠ 9 → k ≠ 10 → k ≠ 11 → (sm_upd x 9 ((nI r.2.1) + 1)) k = x k := fun k h1 h2 h3 => tx_upN h1
      have hy0 : ∀ k, k ≠ 9 → k ≠ 10 → k ≠ 11 → (sm_upd x 9 ((nI r.2.1) + 1)) k = x0 k := fun k h1 h2 h3 => (tx_upN h1).trans (a2 k h1 h2 h3)
      rw [hlp]
      by_cases ok2 : (f (r.2.1 + 1)).1 = true
      · have hok : ¬ sm_bI (f (r.2.1 + 1)).1 = 0 := by rw [ok2]; decide
        obtain ⟨d1, d2, d3, d4⟩ := c3 ok2
        obtain ⟨G9, G10, -⟩ := G8 ok2
        have hjs : tx_at T b r.2.1 = 43 ∨ tx_at T b r.2.1 = 45 := by
          rcases (Bool.or_eq_true _ _).mp jn with h | h
          · exact Or.inl (of_decide_eq_true h)
          · exact Or.inr (of_decide_eq_true h)
        rcases hjs with hj | hj
        · have EL := tr_lay (m := m) (x := x1) (g := g1) (s := (s + r.2.2.length + (f (r.2.1 + 1)).2.2.length)) (by omega) d2 3 (tx_at T b r.2.1)
          have hTn : tx_T u o (tx_ch u) ((f (r.2.1 + 1)).1, (f (r.2.1 + 1)).2.1, r.2.2 ++ (f (r.2.1 + 1)).2.2 ++ [(tx_at T b r.2.1, 0)]) s x0 g0 (sm_upd x1 11 ((nI (s + r.2.2.length + (f (r.2.1 + 1)).2.2.length)) + 1)) (tx_ly g1 (s + r.2.2.length + (f (r.2.1 + 1)).2.2.length) 3 (tx_at T b r.2.1)) := tx_T_step (P := (f (r.2.1 + 1)).2.1) ok hTr hy q1 ok2 (sm_lk_sgn (tx_joins_sgn jn)) (Eq.trans (tx_upN (by decide)) c1) rfl (Eq.trans (tx_upN (by decide)) d1) tx_upE (fun k h1 h2 h3 => tx_upN h3)
          obtain ⟨x', g', hr, t1⟩ := ih ((f (r.2.1 + 1)).1, (f (r.2.1 + 1)).2.1, r.2.2 ++ (f (r.2.1 + 1)).2.2 ++ [(tx_at T b r.2.1, 0)]) _ _ hGn hTn ok2 (by show 60 ≤ j + (f (r.2.1 + 1)).2.1; omega) (some (.int (tx_at T b r.2.1)))
          refine ⟨x', g', ?_, t1⟩
          refine mz_go 1 (c' := (10, [some (.ref 65), o1], [.ref 65], mz_set (mz_set m 65 x) 69 g)) rfl ?_
          refine mz_doQ (R := mz_r159) (as := [.ref 65]) (rest := []) (r1 := some (.int (tx_at T b r.2.1))) (m1 := mz_set (mz_set m 65 x) 69 g) mz_t159 mz_v159_65 rfl rfl rfl rfl rfl ((tr_look (m := mz_set (mz_set m 65 x) 69 g) hT k1 k2 (p := r.2.1) (show (mz_set (mz_set m 65 x) 69 g) 65 9 = nI r.2.1 from a1) (by omega)).deep (by omega)) ?_
          refine mz_go 2 (c' := (if (tx_at T b r.2.1) = 43 then 27 else 18, [some (.ref 65), o1], [], mz_set (mz_set m 65 x) 69 g)) rfl ?_
          refine mz_ifT hj ?_
          refine mz_go 1 (c' := (28, [some (.ref 65), o1], [.ref 65], mz_set (mz_set m 65 x) 69 g)) rfl ?_
          refine mz_doQ (R := mz_r159) (as := [.ref 65]) (rest := []) (r1 := some (.int (tx_at T b r.2.1))) (m1 := mz_set (mz_set m 65 x) 69 g) mz_t159 mz_v159_65 rfl rfl rfl rfl rfl ((tr_look (m := mz_set (mz_set m 65 x) 69 g) hT k1 k2 (p := r.2.1) (show (mz_set (mz_set m 65 x) 69 g) 65 9 = nI r.2.1 from a1) (by omega)).deep (by omega)) ?_
          refine mz_go 4 (c' := (37, [some (.ref 65), some (.int (tx_at T b r.2.1))], [.int (x 9), .ref 65], mz_set (mz_set m 65 x) 69 g)) rfl ?_
          rw [a1]
          refine mz_go 3 (c' := (42, [some (.ref 65), some (.int (tx_at T b r.2.1))], [], mz_up (mz_set (mz_set m 65 x) 69 g) 65 9 ((nI r.2.1) + 1))) rfl ?_
          rw [tx_up65]
          refine mz_go 1 (c' := (43, [some (.ref 65), some (.int (tx_at T b r.2.1))], [.ref 65], mz_set (mz_set m 65 (sm_upd x 9 ((nI r.2.1) + 1))) 69 g)) rfl ?_
          refine mz_doQ (R := mz_r166) (as := [.ref 65]) (rest := []) (r1 := some (.int (sm_bI (f (r.2.1 + 1)).1))) (m1 := mz_set (mz_set m 65 x1) 69 g1) mz_t166 mz_v166_65 rfl rfl rfl rfl rfl (E1.deep (by omega)) ?_
          refine mz_go 1 (c' := (if (sm_bI (f (r.2.1 + 1)).1) = 0 then 49 else 51, [some (.ref 65), some (.int (tx_at T b r.2.1))], [], mz_set (mz_set m 65 x1) 69 g1)) rfl ?_
          refine mz_ifF hok ?_
          refine mz_go 3 (c' := (54, [some (.ref 65), some (.int (tx_at T b r.2.1))], [.int (tx_at T b r.2.1), .int 3, .ref 65], mz_set (mz_set m 65 x1) 69 g1)) rfl ?_
          refine mz_doQ (R := mz_r161) (as := [.ref 65, .int 3, .int (tx_at T b r.2.1)]) (rest := []) (r1 := none) (m1 := mz_set (mz_set m 65 (sm_upd x1 11 ((nI (s + r.2.2.length + (f (r.2.1 + 1)).2.2.length)) + 1))) 69 (tx_ly g1 (s + r.2.2.length + (f (r.2.1 + 1)).2.2.length) 3 (tx_at T b r.2.1))) mz_t161 mz_v161_65 rfl rfl rfl rfl rfl (EL.deep (by omega)) ?_
          refine mz_go 1 (c' := (9, [some (.ref 65), some (.int (tx_at T b r.2.1))], [], mz_set (mz_set m 65 (sm_upd x1 11 ((nI (s + r.2.2.length + (f (r.2.1 + 1)).2.2.length)) + 1))) 69 (tx_ly g1 (s + r.2.2.length + (f (r.2.1 + 1)).2.2.length) 3 (tx_at T b r.2.1)))) rfl ?_
          exact hr
        · have EL := tr_lay (m := m) (x := x1) (g := g1) (s := (s + r.2.2.length + (f (r.2.1 + 1)).2.2.length)) (by omega) d2 3 (tx_at T b r.2.1)
          have hTn : tx_T u o (tx_ch u) ((f (r.2.1 + 1)).1, (f (r.2.1 + 1)).2.1, r.2.2 ++ (f (r.2.1 + 1)).2.2 ++ [(tx_at T b r.2.1, 0)]) s x0 g0 (sm_upd x1 11 ((nI (s + r.2.2.length + (f (r.2.1 + 1)).2.2.length)) + 1)) (tx_ly g1 (s + r.2.2.length + (f (r.2.1 + 1)).2.2.length) 3 (tx_at T b r.2.1)) := tx_T_step (P := (f (r.2.1 + 1)).2.1) ok hTr hy q1 ok2 (sm_lk_sgn (tx_joins_sgn jn)) (Eq.trans (tx_upN (by decide)) c1) rfl (Eq.trans (tx_upN (by decide)) d1) tx_upE (fun k h1 h2 h3 => tx_upN h3)
          obtain ⟨x', g', hr, t1⟩ := ih ((f (r.2.1 + 1)).1, (f (r.2.1 + 1)).2.1, r.2.2 ++ (f (r.2.1 + 1)).2.2 ++ [(tx_at T b r.2.1, 0)]) _ _ hGn hTn ok2 (by show 60 ≤ j + (f (r.2.1 + 1)).2.1; omega) (some (.int (tx_at T b r.2.1)))
          refine ⟨x', g', ?_, t1⟩
          refine mz_go 1 (c' := (10, [some (.ref 65), o1], [.ref 65], mz_set (mz_set m 65 x) 69 g)) rfl ?_
          refine mz_doQ (R := mz_r159) (as := [.ref 65]) (rest := []) (r1 := some (.int (tx_at T b r.2.1))) (m1 := mz_set (mz_set m 65 x) 69 g) mz_t159 mz_v159_65 rfl rfl rfl rfl rfl ((tr_look (m := mz_set (mz_set m 65 x) 69 g) hT k1 k2 (p := r.2.1) (show (mz_set (mz_set m 65 x) 69 g) 65 9 = nI r.2.1 from a1) (by omega)).deep (by omega)) ?_
          refine mz_go 2 (c' := (if (tx_at T b r.2.1) = 43 then 27 else 18, [some (.ref 65), o1], [], mz_set (mz_set m 65 x) 69 g)) rfl ?_
          refine mz_ifF (by rw [hj]; decide) ?_
          refine mz_go 1 (c' := (19, [some (.ref 65), o1], [.ref 65], mz_set (mz_set m 65 x) 69 g)) rfl ?_
          refine mz_doQ (R := mz_r159) (as := [.ref 65]) (rest := []) (r1 := some (.int (tx_at T b r.2.1))) (m1 := mz_set (mz_set m 65 x) 69 g) mz_t159 mz_v159_65 rfl rfl rfl rfl rfl ((tr_look (m := mz_set (mz_set m 65 x) 69 g) hT k1 k2 (p := r.2.1) (show (mz_set (mz_set m 65 x) 69 g) 65 9 = nI r.2.1 from a1) (by omega)).deep (by omega)) ?_
          refine mz_go 2 (c' := (if (tx_at T b r.2.1) = 45 then 27 else 60, [some (.ref 65), o1], [], mz_set (mz_set m 65 x) 69 g)) rfl ?_
          refine mz_ifT hj ?_
          refine mz_go 1 (c' := (28, [some (.ref 65), o1], [.ref 65], mz_set (mz_set m 65 x) 69 g)) rfl ?_
          refine mz_doQ (R := mz_r159) (as := [.ref 65]) (rest := []) (r1 := some (.int (tx_at T b r.2.1))) (m1 := mz_set (mz_set m 65 x) 69 g) mz_t159 mz_v159_65 rfl rfl rfl rfl rfl ((tr_look (m := mz_set (mz_set m 65 x) 69 g) hT k1 k2 (p := r.2.1) (show (mz_set (mz_set m 65 x) 69 g) 65 9 = nI r.2.1 from a1) (by omega)).deep (by omega)) ?_
          refine mz_go 4 (c' := (37, [some (.ref 65), some (.int (tx_at T b r.2.1))], [.int (x 9), .ref 65], mz_set (mz_set m 65 x) 69 g)) rfl ?_
          rw [a1]
          refine mz_go 3 (c' := (42, [some (.ref 65), some (.int (tx_at T b r.2.1))], [], mz_up (mz_set (mz_set m 65 x) 69 g) 65 9 ((nI r.2.1) + 1))) rfl ?_
          rw [tx_up65]
          refine mz_go 1 (c' := (43, [some (.ref 65), some (.int (tx_at T b r.2.1))], [.ref 65], mz_set (mz_set m 65 (sm_upd x 9 ((nI r.2.1) + 1))) 69 g)) rfl ?_
          refine mz_doQ (R := mz_r166) (as := [.ref 65]) (rest := []) (r1 := some (.int (sm_bI (f (r.2.1 + 1)).1))) (m1 := mz_set (mz_set m 65 x1) 69 g1) mz_t166 mz_v166_65 rfl rfl rfl rfl rfl (E1.deep (by omega)) ?_
          refine mz_go 1 (c' := (if (sm_bI (f (r.2.1 + 1)).1) = 0 then 49 else 51, [some (.ref 65), some (.int (tx_at T b r.2.1))], [], mz_set (mz_set m 65 x1) 69 g1)) rfl ?_
          refine mz_ifF hok ?_
          refine mz_go 3 (c' := (54, [some (.ref 65), some (.int (tx_at T b r.2.1))], [.int (tx_at T b r.2.1), .int 3, .ref 65], mz_set (mz_set m 65 x1) 69 g1)) rfl ?_
          refine mz_doQ (R := mz_r161) (as := [.ref 65, .int 3, .int (tx_at T b r.2.1)]) (rest := []) (r1 := none) (m1 := mz_set (mz_set m 65 (sm_upd x1 11 ((nI (s + r.2.2.length + (f (r.2.1 + 1)).2.2.length)) + 1))) 69 (tx_ly g1 (s + r.2.2.length + (f (r.2.1 + 1)).2.2.length) 3 (tx_at T b r.2.1))) mz_t161 mz_v161_65 rfl rfl rfl rfl rfl (EL.deep (by omega)) ?_
          refine mz_go 1 (c' := (9, [some (.ref 65), some (.int (tx_at T b r.2.1))], [], mz_set (mz_set m 65 (sm_upd x1 11 ((nI (s + r.2.2.length + (f (r.2.1 + 1)).2.2.length)) + 1))) 69 (tx_ly g1 (s + r.2.2.length + (f (r.2.1 + 1)).2.2.length) 3 (tx_at T b r.2.1)))) rfl ?_
          exact hr
      · have hok : sm_bI (f (r.2.1 + 1)).1 = 0 := by rw [eq_false_of_ne_true ok2]; rfl
        rw [show tx_lp T b 3 f j ((f (r.2.1 + 1)).1, (f (r.2.1 + 1)).2.1, r.2.2 ++ (f (r.2.1 + 1)).2.2 ++ [(tx_at T b r.2.1, 0)]) = ((f (r.2.1 + 1)).1, (f (r.2.1 + 1)).2.1, r.2.2 ++ (f (r.2.1 + 1)).2.2 ++ [(tx_at T b r.2.1, 0)]) from tx_lp_false j _ ok2]
        refine ⟨x1, g1, ?_, tx_T_fail hy0 q1 ok2⟩
        rw [hok]
        have hjs : tx_at T b r.2.1 = 43 ∨ tx_at T b r.2.1 = 45 := by
          rcases (Bool.or_eq_true _ _).mp jn with h | h
          · exact Or.inl (of_decide_eq_true h)
          · exact Or.inr (of_decide_eq_true h)
        rcases hjs with hj | hj
        · refine mz_go 1 (c' := (10, [some (.ref 65), o1], [.ref 65], mz_set (mz_set m 65 x) 69 g)) rfl ?_
          refine mz_doQ (R := mz_r159) (as := [.ref 65]) (rest := []) (r1 := some (.int (tx_at T b r.2.1))) (m1 := mz_set (mz_set m 65 x) 69 g) mz_t159 mz_v159_65 rfl rfl rfl rfl rfl ((tr_look (m := mz_set (mz_set m 65 x) 69 g) hT k1 k2 (p := r.2.1) (show (mz_set (mz_set m 65 x) 69 g) 65 9 = nI r.2.1 from a1) (by omega)).deep (by omega)) ?_
          refine mz_go 2 (c' := (if (tx_at T b r.2.1) = 43 then 27 else 18, [some (.ref 65), o1], [], mz_set (mz_set m 65 x) 69 g)) rfl ?_
          refine mz_ifT hj ?_
          refine mz_go 1 (c' := (28, [some (.ref 65), o1], [.ref 65], mz_set (mz_set m 65 x) 69 g)) rfl ?_
          refine mz_doQ (R := mz_r159) (as := [.ref 65]) (rest := []) (r1 := some (.int (tx_at T b r.2.1))) (m1 := mz_set (mz_set m 65 x) 69 g) mz_t159 mz_v159_65 rfl rfl rfl rfl rfl ((tr_look (m := mz_set (mz_set m 65 x) 69 g) hT k1 k2 (p := r.2.1) (show (mz_set (mz_set m 65 x) 69 g) 65 9 = nI r.2.1 from a1) (by omega)).deep (by omega)) ?_
          refine mz_go 4 (c' := (37, [some (.ref 65), some (.int (tx_at T b r.2.1))], [.int (x 9), .ref 65], mz_set (mz_set m 65 x) 69 g)) rfl ?_
          rw [a1]
          refine mz_go 3 (c' := (42, [some (.ref 65), some (.int (tx_at T b r.2.1))], [], mz_up (mz_set (mz_set m 65 x) 69 g) 65 9 ((nI r.2.1) + 1))) rfl ?_
          rw [tx_up65]
          refine mz_go 1 (c' := (43, [some (.ref 65), some (.int (tx_at T b r.2.1))], [.ref 65], mz_set (mz_set m 65 (sm_upd x 9 ((nI r.2.1) + 1))) 69 g)) rfl ?_
          refine mz_doQ (R := mz_r166) (as := [.ref 65]) (rest := []) (r1 := some (.int (sm_bI (f (r.2.1 + 1)).1))) (m1 := mz_set (mz_set m 65 x1) 69 g1) mz_t166 mz_v166_65 rfl rfl rfl rfl rfl (E1.deep (by omega)) ?_
          refine mz_go 1 (c' := (if (sm_bI (f (r.2.1 + 1)).1) = 0 then 49 else 51, [some (.ref 65), some (.int (tx_at T b r.2.1))], [], mz_set (mz_set m 65 x1) 69 g1)) rfl ?_
          refine mz_ifT hok ?_
          refine mz_go 1 (c' := (50, [some (.ref 65), some (.int (tx_at T b r.2.1))], [.int 0], mz_set (mz_set m 65 x1) 69 g1)) rfl ?_
          exact mz_ret rfl
        · refine mz_go 1 (c' := (10, [some (.ref 65), o1], [.ref 65], mz_set (mz_set m 65 x) 69 g)) rfl ?_
          refine mz_doQ (R := mz_r159) (as := [.ref 65]) (rest := []) (r1 := some (.int (tx_at T b r.2.1))) (m1 := mz_set (mz_set m 65 x) 69 g) mz_t159 mz_v159_65 rfl rfl rfl rfl rfl ((tr_look (m := mz_set (mz_set m 65 x) 69 g) hT k1 k2 (p := r.2.1) (show (mz_set (mz_set m 65 x) 69 g) 65 9 = nI r.2.1 from a1) (by omega)).deep (by omega)) ?_
          refine mz_go 2 (c' := (if (tx_at T b r.2.1) = 43 then 27 else 18, [some (.ref 65), o1], [], mz_set (mz_set m 65 x) 69 g)) rfl ?_
          refine mz_ifF (by rw [hj]; decide) ?_
          refine mz_go 1 (c' := (19, [some (.ref 65), o1], [.ref 65], mz_set (mz_set m 65 x) 69 g)) rfl ?_
          refine mz_doQ (R := mz_r159) (as := [.ref 65]) (rest := []) (r1 := some (.int (tx_at T b r.2.1))) (m1 := mz_set (mz_set m 65 x) 69 g) mz_t159 mz_v159_65 rfl rfl rfl rfl rfl ((tr_look (m := mz_set (mz_set m 65 x) 69 g) hT k1 k2 (p := r.2.1) (show (mz_set (mz_set m 65 x) 69 g) 65 9 = nI r.2.1 from a1) (by omega)).deep (by omega)) ?_
          refine mz_go 2 (c' := (if (tx_at T b r.2.1) = 45 then 27 else 60, [some (.ref 65), o1], [], mz_set (mz_set m 65 x) 69 g)) rfl ?_
          refine mz_ifT hj ?_
          refine mz_go 1 (c' := (28, [some (.ref 65), o1], [.ref 65], mz_set (mz_set m 65 x) 69 g)) rfl ?_
          refine mz_doQ (R := mz_r159) (as := [.ref 65]) (rest := []) (r1 := some (.int (tx_at T b r.2.1))) (m1 := mz_set (mz_set m 65 x) 69 g) mz_t159 mz_v159_65 rfl rfl rfl rfl rfl ((tr_look (m := mz_set (mz_set m 65 x) 69 g) hT k1 k2 (p := r.2.1) (show (mz_set (mz_set m 65 x) 69 g) 65 9 = nI r.2.1 from a1) (by omega)).deep (by omega)) ?_
          refine mz_go 4 (c' := (37, [some (.ref 65), some (.int (tx_at T b r.2.1))], [.int (x 9), .ref 65], mz_set (mz_set m 65 x) 69 g)) rfl ?_
          rw [a1]
          refine mz_go 3 (c' := (42, [some (.ref 65), some (.int (tx_at T b r.2.1))], [], mz_up (mz_set (mz_set m 65 x) 69 g) 65 9 ((nI r.2.1) + 1))) rfl ?_
          rw [tx_up65]
          refine mz_go 1 (c' := (43, [some (.ref 65), some (.int (tx_at T b r.2.1))], [.ref 65], mz_set (mz_set m 65 (sm_upd x 9 ((nI r.2.1) + 1))) 69 g)) rfl ?_
          refine mz_doQ (R := mz_r166) (as := [.ref 65]) (rest := []) (r1 := some (.int (sm_bI (f (r.2.1 + 1)).1))) (m1 := mz_set (mz_set m 65 x1) 69 g1) mz_t166 mz_v166_65 rfl rfl rfl rfl rfl (E1.deep (by omega)) ?_
          refine mz_go 1 (c' := (if (sm_bI (f (r.2.1 + 1)).1) = 0 then 49 else 51, [some (.ref 65), some (.int (tx_at T b r.2.1))], [], mz_set (mz_set m 65 x1) 69 g1)) rfl ?_
          refine mz_ifT hok ?_
          refine mz_go 1 (c' := (50, [some (.ref 65), some (.int (tx_at T b r.2.1))], [.int 0], mz_set (mz_set m 65 x1) 69 g1)) rfl ?_
          exact mz_ret rfl
    · rw [show tx_lp T b 3 f (j + 1) r = r from if_neg (fun z => jn z.2)]
      have n0 : ¬ tx_at T b r.2.1 = 43 := fun z => jn (by rw [z]; decide)
      have n1 : ¬ tx_at T b r.2.1 = 45 := fun z => jn (by rw [z]; decide)
      refine ⟨x, g, ?_, hTr⟩
      rw [ok]
      refine mz_go 1 (c' := (10, [some (.ref 65), o1], [.ref 65], mz_set (mz_set m 65 x) 69 g)) rfl ?_
      refine mz_doQ (R := mz_r159) (as := [.ref 65]) (rest := []) (r1 := some (.int (tx_at T b r.2.1))) (m1 := mz_set (mz_set m 65 x) 69 g) mz_t159 mz_v159_65 rfl rfl rfl rfl rfl ((tr_look (m := mz_set (mz_set m 65 x) 69 g) hT k1 k2 (p := r.2.1) (show (mz_set (mz_set m 65 x) 69 g) 65 9 = nI r.2.1 from a1) (by omega)).deep (by omega)) ?_
      refine mz_go 2 (c' := (if (tx_at T b r.2.1) = 43 then 27 else 18, [some (.ref 65), o1], [], mz_set (mz_set m 65 x) 69 g)) rfl ?_
      refine mz_ifF n0 ?_
      refine mz_go 1 (c' := (19, [some (.ref 65), o1], [.ref 65], mz_set (mz_set m 65 x) 69 g)) rfl ?_
      refine mz_doQ (R := mz_r159) (as := [.ref 65]) (rest := []) (r1 := some (.int (tx_at T b r.2.1))) (m1 := mz_set (mz_set m 65 x) 69 g) mz_t159 mz_v159_65 rfl rfl rfl rfl rfl ((tr_look (m := mz_set (mz_set m 65 x) 69 g) hT k1 k2 (p := r.2.1) (show (mz_set (mz_set m 65 x) 69 g) 65 9 = nI r.2.1 from a1) (by omega)).deep (by omega)) ?_
      refine mz_go 2 (c' := (if (tx_at T b r.2.1) = 45 then 27 else 60, [some (.ref 65), o1], [], mz_set (mz_set m 65 x) 69 g)) rfl ?_
      refine mz_ifF n1 ?_
      refine mz_go 1 (c' := (61, [some (.ref 65), o1], [.int 1], mz_set (mz_set m 65 x) 69 g)) rfl ?_
      exact mz_ret rfl
set_option maxHeartbeats 4000000 in
set_option maxRecDepth 100000 in
theorem tr_lv3 {u T : Nat} {b : Nat → Int32} (hu : u < 3) (hT : T ≤ 60) {o D : Nat} {f : Nat → tx_R} (hG : ∀ q, q ≤ T → tx_G u T q (f q)) (hC : tx_D u T b (tx_ch u) (D + 20) mz_r166 o f) : tx_D u T b (tx_ch u) (D + 21) mz_r165 o (fun p => tx_lp T b 3 f 60 (f p)) := by
  intro m x g k1 k2 p s hsp hpT hp ho1 hs1 hu1
  show ∃ x' g', mz_Me (D + 21) mz_r165 _ _ (some (.int (sm_bI (tx_lp T b 3 f 60 (f p)).1))) _ ∧ tx_T u o (tx_ch u) (tx_lp T b 3 f 60 (f p)) s x g x' g'
  obtain ⟨x1, g1, E1, q1⟩ := hC m x g k1 k2 p s hsp hpT hp ho1 hs1 hu1
  by_cases ok : (f p).1 = true
  · have hok : ¬ sm_bI (f p).1 = 0 := by rw [ok]; decide
    obtain ⟨x', g', hr, t1⟩ := tr_lp3 hu hT hG hC (m := m) k1 k2 (p0 := p) (s := s) hsp (x0 := x) (g0 := g) hu1 60 (f p) x1 g1 (hG p hpT) q1 ok (by omega) none
    refine ⟨x', g', ⟨?_, sm_fitb _⟩, t1⟩
    refine mz_go 1 (c' := (1, [some (.ref 65), none], [.ref 65], mz_set (mz_set m 65 x) 69 g)) rfl ?_
    refine mz_doQ (R := mz_r166) (as := [.ref 65]) (rest := []) (r1 := some (.int (sm_bI (f p).1))) (m1 := mz_set (mz_set m 65 x1) 69 g1) mz_t166 mz_v166_65 rfl rfl rfl rfl rfl (E1.deep (by omega)) ?_
    refine mz_go 1 (c' := (if (sm_bI (f p).1) = 0 then 7 else 9, [some (.ref 65), none], [], mz_set (mz_set m 65 x1) 69 g1)) rfl ?_
    refine mz_ifF hok ?_
    exact hr
  · have hok : sm_bI (f p).1 = 0 := by rw [eq_false_of_ne_true ok]; rfl
    refine ⟨x1, g1, ⟨?_, sm_fitb _⟩, ?_⟩
    · rw [show tx_lp T b 3 f 60 (f p) = f p from tx_lp_false 60 _ ok, hok]
      refine mz_go 1 (c' := (1, [some (.ref 65), none], [.ref 65], mz_set (mz_set m 65 x) 69 g)) rfl ?_
      refine mz_doQ (R := mz_r166) (as := [.ref 65]) (rest := []) (r1 := some (.int (sm_bI (f p).1))) (m1 := mz_set (mz_set m 65 x1) 69 g1) mz_t166 mz_v166_65 rfl rfl rfl rfl rfl (E1.deep (by omega)) ?_
      refine mz_go 1 (c' := (if (sm_bI (f p).1) = 0 then 7 else 9, [some (.ref 65), none], [], mz_set (mz_set m 65 x1) 69 g1)) rfl ?_
      refine mz_ifT hok ?_
      refine mz_go 1 (c' := (8, [some (.ref 65), none], [.int 0], mz_set (mz_set m 65 x1) 69 g1)) rfl ?_
      exact mz_ret rfl
    · rw [show tx_lp T b 3 f 60 (f p) = f p from tx_lp_false 60 _ ok]
      exact q1
set_option maxHeartbeats 4000000 in
set_option maxRecDepth 100000 in
theorem tr_lp4 {u T : Nat} {b : Nat → Int32} (hu : u < 3) (hT : T ≤ 60) {o D : Nat} {f : Nat → tx_R} (hG : ∀ q, q ≤ T → tx_G u T q (f q)) (hC : tx_D u T b (tx_ch u) (D + 20) mz_r168 o f) {m : mz_M} (k1 : m 66 1 = nI T) (k2 : ∀ i, i < 60 → m 66 (550 + i) = b i) {p0 s : Nat} (hs0 : s ≤ p0) {x0 g0 : Nat → Int32} (hu1 : x0 12 = nI u) : ∀ (j : Nat) (r : tx_R) (x g : Nat → Int32), tx_G u T p0 r → tx_T u o (tx_ch u) r s x0 g0 x g → r.1 = true → 60 ≤ j + r.2.1 → ∀ (o1 : Option Value), ∃ x' g', mz_Ex (D + 21) mz_k166 (9, [some (.ref 65), o1], [], mz_set (mz_set m 65 x) 69 g) (some (.int (sm_bI (tx_lp T b 4 f j r).1)), mz_set (mz_set m 65 x') 69 g') ∧ tx_T u o (tx_ch u) (tx_lp T b 4 f j r) s x0 g0 x' g' := by
  intro j
  induction j with
  | zero =>
    intro r x g hGr hTr ok h60 o1
    show ∃ x' g', mz_Ex (D + 21) mz_k166 (9, [some (.ref 65), o1], [], mz_set (mz_set m 65 x) 69 g) (some (.int (sm_bI (r).1)), mz_set (mz_set m 65 x') 69 g') ∧ tx_T u o (tx_ch u) (r) s x0 g0 x' g'
    have hGr2 := hGr
    obtain ⟨-, GT, -⟩ := hGr2
    have hT2 := hTr
    obtain ⟨a1, a2, a3⟩ := hT2
    obtain ⟨a10, a11, a4, a5⟩ := a3 ok
    have hu2 : x 12 = nI u := (a2 12 (by decide) (by decide) (by decide)).trans hu1
    obtain ⟨G1, G2, G3⟩ := hGr
    have jn : ¬ tx_joins 4 (tx_at T b r.2.1) = true := fun z => absurd (tx_joins_lt z) (by omega)
    have n0 : ¬ tx_at T b r.2.1 = 42 := fun z => jn (by rw [z]; decide)
    have n1 : ¬ tx_at T b r.2.1 = 47 := fun z => jn (by rw [z]; decide)
    have n2 : ¬ tx_at T b r.2.1 = 37 := fun z => jn (by rw [z]; decide)
    refine ⟨x, g, ?_, hTr⟩
    rw [ok]
    refine mz_go 1 (c' := (10, [some (.ref 65), o1], [.ref 65], mz_set (mz_set m 65 x) 69 g)) rfl ?_
    refine mz_doQ (R := mz_r159) (as := [.ref 65]) (rest := []) (r1 := some (.int (tx_at T b r.2.1))) (m1 := mz_set (mz_set m 65 x) 69 g) mz_t159 mz_v159_65 rfl rfl rfl rfl rfl ((tr_look (m := mz_set (mz_set m 65 x) 69 g) hT k1 k2 (p := r.2.1) (show (mz_set (mz_set m 65 x) 69 g) 65 9 = nI r.2.1 from a1) (by omega)).deep (by omega)) ?_
    refine mz_go 2 (c' := (if (tx_at T b r.2.1) = 42 then 36 else 18, [some (.ref 65), o1], [], mz_set (mz_set m 65 x) 69 g)) rfl ?_
    refine mz_ifF n0 ?_
    refine mz_go 1 (c' := (19, [some (.ref 65), o1], [.ref 65], mz_set (mz_set m 65 x) 69 g)) rfl ?_
    refine mz_doQ (R := mz_r159) (as := [.ref 65]) (rest := []) (r1 := some (.int (tx_at T b r.2.1))) (m1 := mz_set (mz_set m 65 x) 69 g) mz_t159 mz_v159_65 rfl rfl rfl rfl rfl ((tr_look (m := mz_set (mz_set m 65 x) 69 g) hT k1 k2 (p := r.2.1) (show (mz_set (mz_set m 65 x) 69 g) 65 9 = nI r.2.1 from a1) (by omega)).deep (by omega)) ?_
    refine mz_go 2 (c' := (if (tx_at T b r.2.1) = 47 then 36 else 27, [some (.ref 65), o1], [], mz_set (mz_set m 65 x) 69 g)) rfl ?_
    refine mz_ifF n1 ?_
    refine mz_go 1 (c' := (28, [some (.ref 65), o1], [.ref 65], mz_set (mz_set m 65 x) 69 g)) rfl ?_
    refine mz_doQ (R := mz_r159) (as := [.ref 65]) (rest := []) (r1 := some (.int (tx_at T b r.2.1))) (m1 := mz_set (mz_set m 65 x) 69 g) mz_t159 mz_v159_65 rfl rfl rfl rfl rfl ((tr_look (m := mz_set (mz_set m 65 x) 69 g) hT k1 k2 (p := r.2.1) (show (mz_set (mz_set m 65 x) 69 g) 65 9 = nI r.2.1 from a1) (by omega)).deep (by omega)) ?_
    refine mz_go 2 (c' := (if (tx_at T b r.2.1) = 37 then 36 else 69, [some (.ref 65), o1], [], mz_set (mz_set m 65 x) 69 g)) rfl ?_
    refine mz_ifF n2 ?_
    refine mz_go 1 (c' := (70, [some (.ref 65), o1], [.int 1], mz_set (mz_set m 65 x) 69 g)) rfl ?_
    exact mz_ret rfl
  | succ j ih =>
    intro r x g hGr hTr ok h60 o1
    have hGr2 := hGr
    obtain ⟨-, GT, -⟩ := hGr2
    have hT2 := hTr
    obtain ⟨a1, a2, a3⟩ := hT2
    obtain ⟨a10, a11, a4, a5⟩ := a3 ok
    have hu2 : x 12 = nI u := (a2 12 (by decide) (by decide) (by decide)).trans hu1
    by_cases jn : tx_joins 4 (tx_at T b r.2.1) = true
    · have hlp : tx_lp T b 4 f (j + 1) r = tx_lp T b 4 f j ((f (r.2.1 + 1)).1, (f (r.2.1 + 1)).2.1, r.2.2 ++ (f (r.2.1 + 1)).2.2 ++ [(tx_at T b r.2.1, 0)]) := if_pos ⟨ok, jn⟩
      have hGn : tx_G u T p0 ((f (r.2.1 + 1)).1, (f (r.2.1 + 1)).2.1, r.2.2 ++ (f (r.2.1 + 1)).2.2 ++ [(tx_at T b r.2.1, 0)]) := by
        have h := tx_lp_G (b := b) (l := 4) (f := f) hG 1 p0 r hGr
        rw [show tx_lp T b 4 f 1 r = tx_lp T b 4 f 0 ((f (r.2.1 + 1)).1, (f (r.2.1 + 1)).2.1, r.2.2 ++ (f (r.2.1 + 1)).2.2 ++ [(tx_at T b r.2.1, 0)]) from if_pos ⟨ok, jn⟩] at h
        exact h
      have hlt := tx_joins_lt jn
      obtain ⟨G1, G2, G3⟩ := hGr
      obtain ⟨G4, G5, -⟩ := G3 ok
      obtain ⟨x1, g1, E1, q1⟩ := hC m (sm_upd x 9 ((nI r.2.1) + 1)) g k1 k2 (r.2.1 + 1) (s + r.2.2.length) (by omega) (by omega) (Eq.trans tx_upE (nI_succ r.2.1).symm) (Eq.trans (tx_upN (by decide)) a10) (Eq.trans (tx_upN (by decide)) a11) (Eq.trans (tx_upN (by decide)) hu2)
      have q2 := q1
      obtain ⟨c1, c2, c3⟩ := q2
      have hG1 := hG (r.2.1 + 1) (by omega)
      have hG2 := hG1
      obtain ⟨G6, G7, G8⟩ := hG2
      have hy : ∀ k, k ≠ 9 → k ≠ 10 → k ≠ 11 → (sm_upd x 9 ((nI r.2.1) + 1)) k = x k := fun k h1 h2 h3 => tx_upN h1
      have hy0 : ∀ k, k ≠ 9 → k ≠ 10 → k ≠ 11 → (sm_upd x 9 ((nI r.2.1) + 1)) k = x0 k := fun k h1 h2 h3 => (tx_upN h1).trans (a2 k h1 h2 h3)
      rw [hlp]
      by_cases ok2 : (f (r.2.1 + 1)).1 = true
      · have hok : ¬ sm_bI (f (r.2.1 + 1)).1 = 0 := by rw [ok2]; decide
        obtain ⟨d1, d2, d3, d4⟩ := c3 ok2
        obtain ⟨G9, G10, -⟩ := G8 ok2
        have hjs : tx_at T b r.2.1 = 42 ∨ tx_at T b r.2.1 = 47 ∨ tx_at T b r.2.1 = 37 := by
          rcases (Bool.or_eq_true _ _).mp jn with h | h
          · exact Or.inl (of_decide_eq_true h)
          · rcases (Bool.or_eq_true _ _).mp h with h | h
            · exact Or.inr (Or.inl (of_decide_eq_true h))
            · exact Or.inr (Or.inr (of_decide_eq_true h))
        rcases hjs with hj | hj | hj
        · have EL := tr_lay (m := m) (x := x1) (g := g1) (s := (s + r.2.2.length + (f (r.2.1 + 1)).2.2.length)) (by omega) d2 3 (tx_at T b r.2.1)
          have hTn : tx_T u o (tx_ch u) ((f (r.2.1 + 1)).1, (f (r.2.1 + 1)).2.1, r.2.2 ++ (f (r.2.1 + 1)).2.2 ++ [(tx_at T b r.2.1, 0)]) s x0 g0 (sm_upd x1 11 ((nI (s + r.2.2.length + (f (r.2.1 + 1)).2.2.length)) + 1)) (tx_ly g1 (s + r.2.2.length + (f (r.2.1 + 1)).2.2.length) 3 (tx_at T b r.2.1)) := tx_T_step (P := (f (r.2.1 + 1)).2.1) ok hTr hy q1 ok2 (sm_lk_sgn (tx_joins_sgn jn)) (Eq.trans (tx_upN (by decide)) c1) rfl (Eq.trans (tx_upN (by decide)) d1) tx_upE (fun k h1 h2 h3 => tx_upN h3)
          obtain ⟨x', g', hr, t1⟩ := ih ((f (r.2.1 + 1)).1, (f (r.2.1 + 1)).2.1, r.2.2 ++ (f (r.2.1 + 1)).2.2 ++ [(tx_at T b r.2.1, 0)]) _ _ hGn hTn ok2 (by show 60 ≤ j + (f (r.2.1 + 1)).2.1; omega) (some (.int (tx_at T b r.2.1)))
          refine ⟨x', g', ?_, t1⟩
          refine mz_go 1 (c' := (10, [some (.ref 65), o1], [.ref 65], mz_set (mz_set m 65 x) 69 g)) rfl ?_
          refine mz_doQ (R := mz_r159) (as := [.ref 65]) (rest := []) (r1 := some (.int (tx_at T b r.2.1))) (m1 := mz_set (mz_set m 65 x) 69 g) mz_t159 mz_v159_65 rfl rfl rfl rfl rfl ((tr_look (m := mz_set (mz_set m 65 x) 69 g) hT k1 k2 (p := r.2.1) (show (mz_set (mz_set m 65 x) 69 g) 65 9 = nI r.2.1 from a1) (by omega)).deep (by omega)) ?_
          refine mz_go 2 (c' := (if (tx_at T b r.2.1) = 42 then 36 else 18, [some (.ref 65), o1], [], mz_set (mz_set m 65 x) 69 g)) rfl ?_
          refine mz_ifT hj ?_
          refine mz_go 1 (c' := (37, [some (.ref 65), o1], [.ref 65], mz_set (mz_set m 65 x) 69 g)) rfl ?_
          refine mz_doQ (R := mz_r159) (as := [.ref 65]) (rest := []) (r1 := some (.int (tx_at T b r.2.1))) (m1 := mz_set (mz_set m 65 x) 69 g) mz_t159 mz_v159_65 rfl rfl rfl rfl rfl ((tr_look (m := mz_set (mz_set m 65 x) 69 g) hT k1 k2 (p := r.2.1) (show (mz_set (mz_set m 65 x) 69 g) 65 9 = nI r.2.1 from a1) (by omega)).deep (by omega)) ?_
          refine mz_go 4 (c' := (46, [some (.ref 65), some (.int (tx_at T b r.2.1))], [.int (x 9), .ref 65], mz_set (mz_set m 65 x) 69 g)) rfl ?_
          rw [a1]
          refine mz_go 3 (c' := (51, [some (.ref 65), some (.int (tx_at T b r.2.1))], [], mz_up (mz_set (mz_set m 65 x) 69 g) 65 9 ((nI r.2.1) + 1))) rfl ?_
          rw [tx_up65]
          refine mz_go 1 (c' := (52, [some (.ref 65), some (.int (tx_at T b r.2.1))], [.ref 65], mz_set (mz_set m 65 (sm_upd x 9 ((nI r.2.1) + 1))) 69 g)) rfl ?_
          refine mz_doQ (R := mz_r168) (as := [.ref 65]) (rest := []) (r1 := some (.int (sm_bI (f (r.2.1 + 1)).1))) (m1 := mz_set (mz_set m 65 x1) 69 g1) mz_t168 mz_v168_65 rfl rfl rfl rfl rfl (E1.deep (by omega)) ?_
          refine mz_go 1 (c' := (if (sm_bI (f (r.2.1 + 1)).1) = 0 then 58 else 60, [some (.ref 65), some (.int (tx_at T b r.2.1))], [], mz_set (mz_set m 65 x1) 69 g1)) rfl ?_
          refine mz_ifF hok ?_
          refine mz_go 3 (c' := (63, [some (.ref 65), some (.int (tx_at T b r.2.1))], [.int (tx_at T b r.2.1), .int 3, .ref 65], mz_set (mz_set m 65 x1) 69 g1)) rfl ?_
          refine mz_doQ (R := mz_r161) (as := [.ref 65, .int 3, .int (tx_at T b r.2.1)]) (rest := []) (r1 := none) (m1 := mz_set (mz_set m 65 (sm_upd x1 11 ((nI (s + r.2.2.length + (f (r.2.1 + 1)).2.2.length)) + 1))) 69 (tx_ly g1 (s + r.2.2.length + (f (r.2.1 + 1)).2.2.length) 3 (tx_at T b r.2.1))) mz_t161 mz_v161_65 rfl rfl rfl rfl rfl (EL.deep (by omega)) ?_
          refine mz_go 1 (c' := (9, [some (.ref 65), some (.int (tx_at T b r.2.1))], [], mz_set (mz_set m 65 (sm_upd x1 11 ((nI (s + r.2.2.length + (f (r.2.1 + 1)).2.2.length)) + 1))) 69 (tx_ly g1 (s + r.2.2.length + (f (r.2.1 + 1)).2.2.length) 3 (tx_at T b r.2.1)))) rfl ?_
          exact hr
        · have EL := tr_lay (m := m) (x := x1) (g := g1) (s := (s + r.2.2.length + (f (r.2.1 + 1)).2.2.length)) (by omega) d2 3 (tx_at T b r.2.1)
          have hTn : tx_T u o (tx_ch u) ((f (r.2.1 + 1)).1, (f (r.2.1 + 1)).2.1, r.2.2 ++ (f (r.2.1 + 1)).2.2 ++ [(tx_at T b r.2.1, 0)]) s x0 g0 (sm_upd x1 11 ((nI (s + r.2.2.length + (f (r.2.1 + 1)).2.2.length)) + 1)) (tx_ly g1 (s + r.2.2.length + (f (r.2.1 + 1)).2.2.length) 3 (tx_at T b r.2.1)) := tx_T_step (P := (f (r.2.1 + 1)).2.1) ok hTr hy q1 ok2 (sm_lk_sgn (tx_joins_sgn jn)) (Eq.trans (tx_upN (by decide)) c1) rfl (Eq.trans (tx_upN (by decide)) d1) tx_upE (fun k h1 h2 h3 => tx_upN h3)
          obtain ⟨x', g', hr, t1⟩ := ih ((f (r.2.1 + 1)).1, (f (r.2.1 + 1)).2.1, r.2.2 ++ (f (r.2.1 + 1)).2.2 ++ [(tx_at T b r.2.1, 0)]) _ _ hGn hTn ok2 (by show 60 ≤ j + (f (r.2.1 + 1)).2.1; omega) (some (.int (tx_at T b r.2.1)))
          refine ⟨x', g', ?_, t1⟩
          refine mz_go 1 (c' := (10, [some (.ref 65), o1], [.ref 65], mz_set (mz_set m 65 x) 69 g)) rfl ?_
          refine mz_doQ (R := mz_r159) (as := [.ref 65]) (rest := []) (r1 := some (.int (tx_at T b r.2.1))) (m1 := mz_set (mz_set m 65 x) 69 g) mz_t159 mz_v159_65 rfl rfl rfl rfl rfl ((tr_look (m := mz_set (mz_set m 65 x) 69 g) hT k1 k2 (p := r.2.1) (show (mz_set (mz_set m 65 x) 69 g) 65 9 = nI r.2.1 from a1) (by omega)).deep (by omega)) ?_
          refine mz_go 2 (c' := (if (tx_at T b r.2.1) = 42 then 36 else 18, [some (.ref 65), o1], [], mz_set (mz_set m 65 x) 69 g)) rfl ?_
          refine mz_ifF (by rw [hj]; decide) ?_
          refine mz_go 1 (c' := (19, [some (.ref 65), o1], [.ref 65], mz_set (mz_set m 65 x) 69 g)) rfl ?_
          refine mz_doQ (R := mz_r159) (as := [.ref 65]) (rest := []) (r1 := some (.int (tx_at T b r.2.1))) (m1 := mz_set (mz_set m 65 x) 69 g) mz_t159 mz_v159_65 rfl rfl rfl rfl rfl ((tr_look (m := mz_set (mz_set m 65 x) 69 g) hT k1 k2 (p := r.2.1) (show (mz_set (mz_set m 65 x) 69 g) 65 9 = nI r.2.1 from a1) (by omega)).deep (by omega)) ?_
          refine mz_go 2 (c' := (if (tx_at T b r.2.1) = 47 then 36 else 27, [some (.ref 65), o1], [], mz_set (mz_set m 65 x) 69 g)) rfl ?_
          refine mz_ifT hj ?_
          refine mz_go 1 (c' := (37, [some (.ref 65), o1], [.ref 65], mz_set (mz_set m 65 x) 69 g)) rfl ?_
          refine mz_doQ (R := mz_r159) (as := [.ref 65]) (rest := []) (r1 := some (.int (tx_at T b r.2.1))) (m1 := mz_set (mz_set m 65 x) 69 g) mz_t159 mz_v159_65 rfl rfl rfl rfl rfl ((tr_look (m := mz_set (mz_set m 65 x) 69 g) hT k1 k2 (p := r.2.1) (show (mz_set (mz_set m 65 x) 69 g) 65 9 = nI r.2.1 from a1) (by omega)).deep (by omega)) ?_
          refine mz_go 4 (c' := (46, [some (.ref 65), some (.int (tx_at T b r.2.1))], [.int (x 9), .ref 65], mz_set (mz_set m 65 x) 69 g)) rfl ?_
          rw [a1]
          refine mz_go 3 (c' := (51, [some (.ref 65), some (.int (tx_at T b r.2.1))], [], mz_up (mz_set (mz_set m 65 x) 69 g) 65 9 ((nI r.2.1) + 1))) rfl ?_
          rw [tx_up65]
          refine mz_go 1 (c' := (52, [some (.ref 65), some (.int (tx_at T b r.2.1))], [.ref 65], mz_set (mz_set m 65 (sm_upd x 9 ((nI r.2.1) + 1))) 69 g)) rfl ?_
          refine mz_doQ (R := mz_r168) (as := [.ref 65]) (rest := []) (r1 := some (.int (sm_bI (f (r.2.1 + 1)).1))) (m1 := mz_set (mz_set m 65 x1) 69 g1) mz_t168 mz_v168_65 rfl rfl rfl rfl rfl (E1.deep (by omega)) ?_
          refine mz_go 1 (c' := (if (sm_bI (f (r.2.1 + 1)).1) = 0 then 58 else 60, [some (.ref 65), some (.int (tx_at T b r.2.1))], [], mz_set (mz_set m 65 x1) 69 g1)) rfl ?_
          refine mz_ifF hok ?_
          refine mz_go 3 (c' := (63, [some (.ref 65), some (.int (tx_at T b r.2.1))], [.int (tx_at T b r.2.1), .int 3, .ref 65], mz_set (mz_set m 65 x1) 69 g1)) rfl ?_
          refine mz_doQ (R := mz_r161) (as := [.ref 65, .int 3, .int (tx_at T b r.2.1)]) (rest := []) (r1 := none) (m1 := mz_set (mz_set m 65 (sm_upd x1 11 ((nI (s + r.2.2.length + (f (r.2.1 + 1)).2.2.length)) + 1))) 69 (tx_ly g1 (s + r.2.2.length + (f (r.2.1 + 1)).2.2.length) 3 (tx_at T b r.2.1))) mz_t161 mz_v161_65 rfl rfl rfl rfl rfl (EL.deep (by omega)) ?_
          refine mz_go 1 (c' := (9, [some (.ref 65), some (.int (tx_at T b r.2.1))], [], mz_set (mz_set m 65 (sm_upd x1 11 ((nI (s + r.2.2.length + (f (r.2.1 + 1)).2.2.length)) + 1))) 69 (tx_ly g1 (s + r.2.2.length + (f (r.2.1 + 1)).2.2.length) 3 (tx_at T b r.2.1)))) rfl ?_
          exact hr
        · have EL := tr_lay (m := m) (x := x1) (g := g1) (s := (s + r.2.2.length + (f (r.2.1 + 1)).2.2.length)) (by omega) d2 3 (tx_at T b r.2.1)
          have hTn : tx_T u o (tx_ch u) ((f (r.2.1 + 1)).1, (f (r.2.1 + 1)).2.1, r.2.2 ++ (f (r.2.1 + 1)).2.2 ++ [(tx_at T b r.2.1, 0)]) s x0 g0 (sm_upd x1 11 ((nI (s + r.2.2.length + (f (r.2.1 + 1)).2.2.length)) + 1)) (tx_ly g1 (s + r.2.2.length + (f (r.2.1 + 1)).2.2.length) 3 (tx_at T b r.2.1)) := tx_T_step (P := (f (r.2.1 + 1)).2.1) ok hTr hy q1 ok2 (sm_lk_sgn (tx_joins_sgn jn)) (Eq.trans (tx_upN (by decide)) c1) rfl (Eq.trans (tx_upN (by decide)) d1) tx_upE (fun k h1 h2 h3 => tx_upN h3)
          obtain ⟨x', g', hr, t1⟩ := ih ((f (r.2.1 + 1)).1, (f (r.2.1 + 1)).2.1, r.2.2 ++ (f (r.2.1 + 1)).2.2 ++ [(tx_at T b r.2.1, 0)]) _ _ hGn hTn ok2 (by show 60 ≤ j + (f (r.2.1 + 1)).2.1; omega) (some (.int (tx_at T b r.2.1)))
          refine ⟨x', g', ?_, t1⟩
          refine mz_go 1 (c' := (10, [some (.ref 65), o1], [.ref 65], mz_set (mz_set m 65 x) 69 g)) rfl ?_
          refine mz_doQ (R := mz_r159) (as := [.ref 65]) (rest := []) (r1 := some (.int (tx_at T b r.2.1))) (m1 := mz_set (mz_set m 65 x) 69 g) mz_t159 mz_v159_65 rfl rfl rfl rfl rfl ((tr_look (m := mz_set (mz_set m 65 x) 69 g) hT k1 k2 (p := r.2.1) (show (mz_set (mz_set m 65 x) 69 g) 65 9 = nI r.2.1 from a1) (by omega)).deep (by omega)) ?_
          refine mz_go 2 (c' := (if (tx_at T b r.2.1) = 42 then 36 else 18, [some (.ref 65), o1], [], mz_set (mz_set m 65 x) 69 g)) rfl ?_
          refine mz_ifF (by rw [hj]; decide) ?_
          refine mz_go 1 (c' := (19, [some (.ref 65), o1], [.ref 65], mz_set (mz_set m 65 x) 69 g)) rfl ?_
          refine mz_doQ (R := mz_r159) (as := [.ref 65]) (rest := []) (r1 := some (.int (tx_at T b r.2.1))) (m1 := mz_set (mz_set m 65 x) 69 g) mz_t159 mz_v159_65 rfl rfl rfl rfl rfl ((tr_look (m := mz_set (mz_set m 65 x) 69 g) hT k1 k2 (p := r.2.1) (show (mz_set (mz_set m 65 x) 69 g) 65 9 = nI r.2.1 from a1) (by omega)).deep (by omega)) ?_
          refine mz_go 2 (c' := (if (tx_at T b r.2.1) = 47 then 36 else 27, [some (.ref 65), o1], [], mz_set (mz_set m 65 x) 69 g)) rfl ?_
          refine mz_ifF (by rw [hj]; decide) ?_
          refine mz_go 1 (c' := (28, [some (.ref 65), o1], [.ref 65], mz_set (mz_set m 65 x) 69 g)) rfl ?_
          refine mz_doQ (R := mz_r159) (as := [.ref 65]) (rest := []) (r1 := some (.int (tx_at T b r.2.1))) (m1 := mz_set (mz_set m 65 x) 69 g) mz_t159 mz_v159_65 rfl rfl rfl rfl rfl ((tr_look (m := mz_set (mz_set m 65 x) 69 g) hT k1 k2 (p := r.2.1) (show (mz_set (mz_set m 65 x) 69 g) 65 9 = nI r.2.1 from a1) (by omega)).deep (by omega)) ?_
          refine mz_go 2 (c' := (if (tx_at T b r.2.1) = 37 then 36 else 69, [some (.ref 65), o1], [], mz_set (mz_set m 65 x) 69 g)) rfl ?_
          refine mz_ifT hj ?_
          refine mz_go 1 (c' := (37, [some (.ref 65), o1], [.ref 65], mz_set (mz_set m 65 x) 69 g)) rfl ?_
          refine mz_doQ (R := mz_r159) (as := [.ref 65]) (rest := []) (r1 := some (.int (tx_at T b r.2.1))) (m1 := mz_set (mz_set m 65 x) 69 g) mz_t159 mz_v159_65 rfl rfl rfl rfl rfl ((tr_look (m := mz_set (mz_set m 65 x) 69 g) hT k1 k2 (p := r.2.1) (show (mz_set (mz_set m 65 x) 69 g) 65 9 = nI r.2.1 from a1) (by omega)).deep (by omega)) ?_
          refine mz_go 4 (c' := (46, [some (.ref 65), some (.int (tx_at T b r.2.1))], [.int (x 9), .ref 65], mz_set (mz_set m 65 x) 69 g)) rfl ?_
          rw [a1]
          refine mz_go 3 (c' := (51, [some (.ref 65), some (.int (tx_at T b r.2.1))], [], mz_up (mz_set (mz_set m 65 x) 69 g) 65 9 ((nI r.2.1) + 1))) rfl ?_
          rw [tx_up65]
          refine mz_go 1 (c' := (52, [some (.ref 65), some (.int (tx_at T b r.2.1))], [.ref 65], mz_set (mz_set m 65 (sm_upd x 9 ((nI r.2.1) + 1))) 69 g)) rfl ?_
          refine mz_doQ (R := mz_r168) (as := [.ref 65]) (rest := []) (r1 := some (.int (sm_bI (f (r.2.1 + 1)).1))) (m1 := mz_set (mz_set m 65 x1) 69 g1) mz_t168 mz_v168_65 rfl rfl rfl rfl rfl (E1.deep (by omega)) ?_
          refine mz_go 1 (c' := (if (sm_bI (f (r.2.1 + 1)).1) = 0 then 58 else 60, [some (.ref 65), some (.int (tx_at T b r.2.1))], [], mz_set (mz_set m 65 x1) 69 g1)) rfl ?_
          refine mz_ifF hok ?_
          refine mz_go 3 (c' := (63, [some (.ref 65), some (.int (tx_at T b r.2.1))], [.int (tx_at T b r.2.1), .int 3, .ref 65], mz_set (mz_set m 65 x1) 69 g1)) rfl ?_
          refine mz_doQ (R := mz_r161) (as := [.ref 65, .int 3, .int (tx_at T b r.2.1)]) (rest := []) (r1 := none) (m1 := mz_set (mz_set m 65 (sm_upd x1 11 ((nI (s + r.2.2.length + (f (r.2.1 + 1)).2.2.length)) + 1))) 69 (tx_ly g1 (s + r.2.2.length + (f (r.2.1 + 1)).2.2.length) 3 (tx_at T b r.2.1))) mz_t161 mz_v161_65 rfl rfl rfl rfl rfl (EL.deep (by omega)) ?_
          refine mz_go 1 (c' := (9, [some (.ref 65), some (.int (tx_at T b r.2.1))], [], mz_set (mz_set m 65 (sm_upd x1 11 ((nI (s + r.2.2.length + (f (r.2.1 + 1)).2.2.length)) + 1))) 69 (tx_ly g1 (s + r.2.2.length + (f (r.2.1 + 1)).2.2.length) 3 (tx_at T b r.2.1)))) rfl ?_
          exact hr
      · have hok : sm_bI (f (r.2.1 + 1)).1 = 0 := by rw [eq_false_of_ne_true ok2]; rfl
        rw [show tx_lp T b 4 f j ((f (r.2.1 + 1)).1, (f (r.2.1 + 1)).2.1, r.2.2 ++ (f (r.2.1 + 1)).2.2 ++ [(tx_at T b r.2.1, 0)]) = ((f (r.2.1 + 1)).1, (f (r.2.1 + 1)).2.1, r.2.2 ++ (f (r.2.1 + 1)).2.2 ++ [(tx_at T b r.2.1, 0)]) from tx_lp_false j _ ok2]
        refine ⟨x1, g1, ?_, tx_T_fail hy0 q1 ok2⟩
        rw [hok]
        have hjs : tx_at T b r.2.1 = 42 ∨ tx_at T b r.2.1 = 47 ∨ tx_at T b r.2.1 = 37 := by
          rcases (Bool.or_eq_true _ _).mp jn with h | h
          · exact Or.inl (of_decide_eq_true h)
          · rcases (Bool.or_eq_true _ _).mp h with h | h
            · exact Or.inr (Or.inl (of_decide_eq_true h))
            · exact Or.inr (Or.inr (of_decide_eq_true h))
        rcases hjs with hj | hj | hj
        · refine mz_go 1 (c' := (10, [some (.ref 65), o1], [.ref 65], mz_set (mz_set m 65 x) 69 g)) rfl ?_
          refine mz_doQ (R := mz_r159) (as := [.ref 65]) (rest := []) (r1 := some (.int (tx_at T b r.2.1))) (m1 := mz_set (mz_set m 65 x) 69 g) mz_t159 mz_v159_65 rfl rfl rfl rfl rfl ((tr_look (m := mz_set (mz_set m 65 x) 69 g) hT k1 k2 (p := r.2.1) (show (mz_set (mz_set m 65 x) 69 g) 65 9 = nI r.2.1 from a1) (by omega)).deep (by omega)) ?_
          refine mz_go 2 (c' := (if (tx_at T b r.2.1) = 42 then 36 else 18, [some (.ref 65), o1], [], mz_set (mz_set m 65 x) 69 g)) rfl ?_
          refine mz_ifT hj ?_
          refine mz_go 1 (c' := (37, [some (.ref 65), o1], [.ref 65], mz_set (mz_set m 65 x) 69 g)) rfl ?_
          refine mz_doQ (R := mz_r159) (as := [.ref 65]) (rest := []) (r1 := some (.int (tx_at T b r.2.1))) (m1 := mz_set (mz_set m 65 x) 69 g) mz_t159 mz_v159_65 rfl rfl rfl rfl rfl ((tr_look (m := mz_set (mz_set m 65 x) 69 g) hT k1 k2 (p := r.2.1) (show (mz_set (mz_set m 65 x) 69 g) 65 9 = nI r.2.1 from a1) (by omega)).deep (by omega)) ?_
          refine mz_go 4 (c' := (46, [some (.ref 65), some (.int (tx_at T b r.2.1))], [.int (x 9), .ref 65], mz_set (mz_set m 65 x) 69 g)) rfl ?_
          rw [a1]
          refine mz_go 3 (c' := (51, [some (.ref 65), some (.int (tx_at T b r.2.1))], [], mz_up (mz_set (mz_set m 65 x) 69 g) 65 9 ((nI r.2.1) + 1))) rfl ?_
          rw [tx_up65]
          refine mz_go 1 (c' := (52, [some (.ref 65), some (.int (tx_at T b r.2.1))], [.ref 65], mz_set (mz_set m 65 (sm_upd x 9 ((nI r.2.1) + 1))) 69 g)) rfl ?_
          refine mz_doQ (R := mz_r168) (as := [.ref 65]) (rest := []) (r1 := some (.int (sm_bI (f (r.2.1 + 1)).1))) (m1 := mz_set (mz_set m 65 x1) 69 g1) mz_t168 mz_v168_65 rfl rfl rfl rfl rfl (E1.deep (by omega)) ?_
          refine mz_go 1 (c' := (if (sm_bI (f (r.2.1 + 1)).1) = 0 then 58 else 60, [some (.ref 65), some (.int (tx_at T b r.2.1))], [], mz_set (mz_set m 65 x1) 69 g1)) rfl ?_
          refine mz_ifT hok ?_
          refine mz_go 1 (c' := (59, [some (.ref 65), some (.int (tx_at T b r.2.1))], [.int 0], mz_set (mz_set m 65 x1) 69 g1)) rfl ?_
          exact mz_ret rfl
        · refine mz_go 1 (c' := (10, [some (.ref 65), o1], [.ref 65], mz_set (mz_set m 65 x) 69 g)) rfl ?_
          refine mz_doQ (R := mz_r159) (as := [.ref 65]) (rest := []) (r1 := some (.int (tx_at T b r.2.1))) (m1 := mz_set (mz_set m 65 x) 69 g) mz_t159 mz_v159_65 rfl rfl rfl rfl rfl ((tr_look (m := mz_set (mz_set m 65 x) 69 g) hT k1 k2 (p := r.2.1) (show (mz_set (mz_set m 65 x) 69 g) 65 9 = nI r.2.1 from a1) (by omega)).deep (by omega)) ?_
          refine mz_go 2 (c' := (if (tx_at T b r.2.1) = 42 then 36 else 18, [some (.ref 65), o1], [], mz_set (mz_set m 65 x) 69 g)) rfl ?_
          refine mz_ifF (by rw [hj]; decide) ?_
          refine mz_go 1 (c' := (19, [some (.ref 65), o1], [.ref 65], mz_set (mz_set m 65 x) 69 g)) rfl ?_
          refine mz_doQ (R := mz_r159) (as := [.ref 65]) (rest := []) (r1 := some (.int (tx_at T b r.2.1))) (m1 := mz_set (mz_set m 65 x) 69 g) mz_t159 mz_v159_65 rfl rfl rfl rfl rfl ((tr_look (m := mz_set (mz_set m 65 x) 69 g) hT k1 k2 (p := r.2.1) (show (mz_set (mz_set m 65 x) 69 g) 65 9 = nI r.2.1 from a1) (by omega)).deep (by omega)) ?_
          refine mz_go 2 (c' := (if (tx_at T b r.2.1) = 47 then 36 else 27, [some (.ref 65), o1], [], mz_set (mz_set m 65 x) 69 g)) rfl ?_
          refine mz_ifT hj ?_
          refine mz_go 1 (c' := (37, [some (.ref 65), o1], [.ref 65], mz_set (mz_set m 65 x) 69 g)) rfl ?_
          refine mz_doQ (R := mz_r159) (as := [.ref 65]) (rest := []) (r1 := some (.int (tx_at T b r.2.1))) (m1 := mz_set (mz_set m 65 x) 69 g) mz_t159 mz_v159_65 rfl rfl rfl rfl rfl ((tr_look (m := mz_set (mz_set m 65 x) 69 g) hT k1 k2 (p := r.2.1) (show (mz_set (mz_set m 65 x) 69 g) 65 9 = nI r.2.1 from a1) (by omega)).deep (by omega)) ?_
          refine mz_go 4 (c' := (46, [some (.ref 65), some (.int (tx_at T b r.2.1))], [.int (x 9), .ref 65], mz_set (mz_set m 65 x) 69 g)) rfl ?_
          rw [a1]
          refine mz_go 3 (c' := (51, [some (.ref 65), some (.int (tx_at T b r.2.1))], [], mz_up (mz_set (mz_set m 65 x) 69 g) 65 9 ((nI r.2.1) + 1))) rfl ?_
          rw [tx_up65]
          refine mz_go 1 (c' := (52, [some (.ref 65), some (.int (tx_at T b r.2.1))], [.ref 65], mz_set (mz_set m 65 (sm_upd x 9 ((nI r.2.1) + 1))) 69 g)) rfl ?_
          refine mz_doQ (R := mz_r168) (as := [.ref 65]) (rest := []) (r1 := some (.int (sm_bI (f (r.2.1 + 1)).1))) (m1 := mz_set (mz_set m 65 x1) 69 g1) mz_t168 mz_v168_65 rfl rfl rfl rfl rfl (E1.deep (by omega)) ?_
          refine mz_go 1 (c' := (if (sm_bI (f (r.2.1 + 1)).1) = 0 then 58 else 60, [some (.ref 65), some (.int (tx_at T b r.2.1))], [], mz_set (mz_set m 65 x1) 69 g1)) rfl ?_
          refine mz_ifT hok ?_
          refine mz_go 1 (c' := (59, [some (.ref 65), some (.int (tx_at T b r.2.1))], [.int 0], mz_set (mz_set m 65 x1) 69 g1)) rfl ?_
          exact mz_ret rfl
        · refine mz_go 1 (c' := (10, [some (.ref 65), o1], [.ref 65], mz_set (mz_set m 65 x) 69 g)) rfl ?_
          refine mz_doQ (R := mz_r159) (as := [.ref 65]) (rest := []) (r1 := some (.int (tx_at T b r.2.1))) (m1 := mz_set (mz_set m 65 x) 69 g) mz_t159 mz_v159_65 rfl rfl rfl rfl rfl ((tr_look (m := mz_set (mz_set m 65 x) 69 g) hT k1 k2 (p := r.2.1) (show (mz_set (mz_set m 65 x) 69 g) 65 9 = nI r.2.1 from a1) (by omega)).deep (by omega)) ?_
          refine mz_go 2 (c' := (if (tx_at T b r.2.1) = 42 then 36 else 18, [some (.ref 65), o1], [], mz_set (mz_set m 65 x) 69 g)) rfl ?_
          refine mz_ifF (by rw [hj]; decide) ?_
          refine mz_go 1 (c' := (19, [some (.ref 65), o1], [.ref 65], mz_set (mz_set m 65 x) 69 g)) rfl ?_
          refine mz_doQ (R := mz_r159) (as := [.ref 65]) (rest := []) (r1 := some (.int (tx_at T b r.2.1))) (m1 := mz_set (mz_set m 65 x) 69 g) mz_t159 mz_v159_65 rfl rfl rfl rfl rfl ((tr_look (m := mz_set (mz_set m 65 x) 69 g) hT k1 k2 (p := r.2.1) (show (mz_set (mz_set m 65 x) 69 g) 65 9 = nI r.2.1 from a1) (by omega)).deep (by omega)) ?_
          refine mz_go 2 (c' := (if (tx_at T b r.2.1) = 47 then 36 else 27, [some (.ref 65), o1], [], mz_set (mz_set m 65 x) 69 g)) rfl ?_
          refine mz_ifF (by rw [hj]; decide) ?_
          refine mz_go 1 (c' := (28, [some (.ref 65), o1], [.ref 65], mz_set (mz_set m 65 x) 69 g)) rfl ?_
          refine mz_doQ (R := mz_r159) (as := [.ref 65]) (rest := []) (r1 := some (.int (tx_at T b r.2.1))) (m1 := mz_set (mz_set m 65 x) 69 g) mz_t159 mz_v159_65 rfl rfl rfl rfl rfl ((tr_look (m := mz_set (mz_set m 65 x) 69 g) hT k1 k2 (p := r.2.1) (show (mz_set (mz_set m 65 x) 69 g) 65 9 = nI r.2.1 from a1) (by omega)).deep (by omega)) ?_
          refine mz_go 2 (c' := (if (tx_at T b r.2.1) = 37 then 36 else 69, [some (.ref 65), o1], [], mz_set (mz_set m 65 x) 69 g)) rfl ?_
          refine mz_ifT hj ?_
          refine mz_go 1 (c' := (37, [some (.ref 65), o1], [.ref 65], mz_set (mz_set m 65 x) 69 g)) rfl ?_
          refine mz_doQ (R := mz_r159) (as := [.ref 65]) (rest := []) (r1 := some (.int (tx_at T b r.2.1))) (m1 := mz_set (mz_set m 65 x) 69 g) mz_t159 mz_v159_65 rfl rfl rfl rfl rfl ((tr_look (m := mz_set (mz_set m 65 x) 69 g) hT k1 k2 (p := r.2.1) (show (mz_set (mz_set m 65 x) 69 g) 65 9 = nI r.2.1 from a1) (by omega)).deep (by omega)) ?_
          refine mz_go 4 (c' := (46, [some (.ref 65), some (.int (tx_at T b r.2.1))], [.int (x 9), .ref 65], mz_set (mz_set m 65 x) 69 g)) rfl ?_
          rw [a1]
          refine mz_go 3 (c' := (51, [some (.ref 65), some (.int (tx_at T b r.2.1))], [], mz_up (mz_set (mz_set m 65 x) 69 g) 65 9 ((nI r.2.1) + 1))) rfl ?_
          rw [tx_up65]
          refine mz_go 1 (c' := (52, [some (.ref 65), some (.int (tx_at T b r.2.1))], [.ref 65], mz_set (mz_set m 65 (sm_upd x 9 ((nI r.2.1) + 1))) 69 g)) rfl ?_
          refine mz_doQ (R := mz_r168) (as := [.ref 65]) (rest := []) (r1 := some (.int (sm_bI (f (r.2.1 + 1)).1))) (m1 := mz_set (mz_set m 65 x1) 69 g1) mz_t168 mz_v168_65 rfl rfl rfl rfl rfl (E1.deep (by omega)) ?_
          refine mz_go 1 (c' := (if (sm_bI (f (r.2.1 + 1)).1) = 0 then 58 else 60, [some (.ref 65), some (.int (tx_at T b r.2.1))], [], mz_set (mz_set m 65 x1) 69 g1)) rfl ?_
          refine mz_ifT hok ?_
          refine mz_go 1 (c' := (59, [some (.ref 65), some (.int (tx_at T b r.2.1))], [.int 0], mz_set (mz_set m 65 x1) 69 g1)) rfl ?_
          exact mz_ret rfl
    · rw [show tx_lp T b 4 f (j + 1) r = r from if_neg (fun z => jn z.2)]
      have n0 : ¬ tx_at T b r.2.1 = 42 := fun z => jn (by rw [z]; decide)
      have n1 : ¬ tx_at T b r.2.1 = 47 := fun z => jn (by rw [z]; decide)
      have n2 : ¬ tx_at T b r.2.1 = 37 := fun z => jn (by rw [z]; decide)
      refine ⟨x, g, ?_, hTr⟩
      rw [ok]
      refine mz_go 1 (c' := (10, [some (.ref 65), o1], [.ref 65], mz_set (mz_set m 65 x) 69 g)) rfl ?_
      refine mz_doQ (R := mz_r159) (as := [.ref 65]) (rest := []) (r1 := some (.int (tx_at T b r.2.1))) (m1 := mz_set (mz_set m 65 x) 69 g) mz_t159 mz_v159_65 rfl rfl rfl rfl rfl ((tr_look (m := mz_set (mz_set m 65 x) 69 g) hT k1 k2 (p := r.2.1) (show (mz_set (mz_set m 65 x) 69 g) 65 9 = nI r.2.1 from a1) (by omega)).deep (by omega)) ?_
      refine mz_go 2 (c' := (if (tx_at T b r.2.1) = 42 then 36 else 18, [some (.ref 65), o1], [], mz_set (mz_set m 65 x) 69 g)) rfl ?_
      refine mz_ifF n0 ?_
      refine mz_go 1 (c' := (19, [some (.ref 65), o1], [.ref 65], mz_set (mz_set m 65 x) 69 g)) rfl ?_
      refine mz_doQ (R := mz_r159) (as := [.ref 65]) (rest := []) (r1 := some (.int (tx_at T b r.2.1))) (m1 := mz_set (mz_set m 65 x) 69 g) mz_t159 mz_v159_65 rfl rfl rfl rfl rfl ((tr_look (m := mz_set (mz_set m 65 x) 69 g) hT k1 k2 (p := r.2.1) (show (mz_set (mz_set m 65 x) 69 g) 65 9 = nI r.2.1 from a1) (by omega)).deep (by omega)) ?_
      refine mz_go 2 (c' := (if (tx_at T b r.2.1) = 47 then 36 else 27, [some (.ref 65), o1], [], mz_set (mz_set m 65 x) 69 g)) rfl ?_
      refine mz_ifF n1 ?_
      refine mz_go 1 (c' := (28, [some (.ref 65), o1], [.ref 65], mz_set (mz_set m 65 x) 69 g)) rfl ?_
      refine mz_doQ (R := mz_r159) (as := [.ref 65]) (rest := []) (r1 := some (.int (tx_at T b r.2.1))) (m1 := mz_set (mz_set m 65 x) 69 g) mz_t159 mz_v159_65 rfl rfl rfl rfl rfl ((tr_look (m := mz_set (mz_set m 65 x) 69 g) hT k1 k2 (p := r.2.1) (show (mz_set (mz_set m 65 x) 69 g) 65 9 = nI r.2.1 from a1) (by omega)).deep (by omega)) ?_
      refine mz_go 2 (c' := (if (tx_at T b r.2.1) = 37 then 36 else 69, [some (.ref 65), o1], [], mz_set (mz_set m 65 x) 69 g)) rfl ?_
      refine mz_ifF n2 ?_
      refine mz_go 1 (c' := (70, [some (.ref 65), o1], [.int 1], mz_set (mz_set m 65 x) 69 g)) rfl ?_
      exact mz_ret rfl
set_option maxHeartbeats 4000000 in
set_option maxRecDepth 100000 in
theorem tr_lv4 {u T : Nat} {b : Nat → Int32} (hu : u < 3) (hT : T ≤ 60) {o D : Nat} {f : Nat → tx_R} (hG : ∀ q, q ≤ T → tx_G u T q (f q)) (hC : tx_D u T b (tx_ch u) (D + 20) mz_r168 o f) : tx_D u T b (tx_ch u) (D + 21) mz_r166 o (fun p => tx_lp T b 4 f 60 (f p)) := by
  intro m x g k1 k2 p s hsp hpT hp ho1 hs1 hu1
  show ∃ x' g', mz_Me (D + 21) mz_r166 _ _ (some (.int (sm_bI (tx_lp T b 4 f 60 (f p)).1))) _ ∧ tx_T u o (tx_ch u) (tx_lp T b 4 f 60 (f p)) s x g x' g'
  obtain ⟨x1, g1, E1, q1⟩ := hC m x g k1 k2 p s hsp hpT hp ho1 hs1 hu1
  by_cases ok : (f p).1 = true
  · have hok : ¬ sm_bI (f p).1 = 0 := by rw [ok]; decide
    obtain ⟨x', g', hr, t1⟩ := tr_lp4 hu hT hG hC (m := m) k1 k2 (p0 := p) (s := s) hsp (x0 := x) (g0 := g) hu1 60 (f p) x1 g1 (hG p hpT) q1 ok (by omega) none
    refine ⟨x', g', ⟨?_, sm_fitb _⟩, t1⟩
    refine mz_go 1 (c' := (1, [some (.ref 65), none], [.ref 65], mz_set (mz_set m 65 x) 69 g)) rfl ?_
    refine mz_doQ (R := mz_r168) (as := [.ref 65]) (rest := []) (r1 := some (.int (sm_bI (f p).1))) (m1 := mz_set (mz_set m 65 x1) 69 g1) mz_t168 mz_v168_65 rfl rfl rfl rfl rfl (E1.deep (by omega)) ?_
    refine mz_go 1 (c' := (if (sm_bI (f p).1) = 0 then 7 else 9, [some (.ref 65), none], [], mz_set (mz_set m 65 x1) 69 g1)) rfl ?_
    refine mz_ifF hok ?_
    exact hr
  · have hok : sm_bI (f p).1 = 0 := by rw [eq_false_of_ne_true ok]; rfl
    refine ⟨x1, g1, ⟨?_, sm_fitb _⟩, ?_⟩
    · rw [show tx_lp T b 4 f 60 (f p) = f p from tx_lp_false 60 _ ok, hok]
      refine mz_go 1 (c' := (1, [some (.ref 65), none], [.ref 65], mz_set (mz_set m 65 x) 69 g)) rfl ?_
      refine mz_doQ (R := mz_r168) (as := [.ref 65]) (rest := []) (r1 := some (.int (sm_bI (f p).1))) (m1 := mz_set (mz_set m 65 x1) 69 g1) mz_t168 mz_v168_65 rfl rfl rfl rfl rfl (E1.deep (by omega)) ?_
      refine mz_go 1 (c' := (if (sm_bI (f p).1) = 0 then 7 else 9, [some (.ref 65), none], [], mz_set (mz_set m 65 x1) 69 g1)) rfl ?_
      refine mz_ifT hok ?_
      refine mz_go 1 (c' := (8, [some (.ref 65), none], [.int 0], mz_set (mz_set m 65 x1) 69 g1)) rfl ?_
      exact mz_ret rfl
    · rw [show tx_lp T b 4 f 60 (f p) = f p from tx_lp_false 60 _ ok]
      exact q1
theorem tx_D_deep {u T : Nat} {b ch : Nat → Int32} {D D' : Nat} {K : mz_R} {o : Nat} {f : Nat → tx_R} (h : tx_D u T b ch D K o f) (hd : D ≤ D') : tx_D u T b ch D' K o f := by
  intro m x g k1 k2 p s hsp hpT hp ho hs hu
  obtain ⟨x', g', E, q⟩ := h m x g k1 k2 p s hsp hpT hp ho hs hu
  exact ⟨x', g', E.deep hd, q⟩
noncomputable def tx_m (l : Nat) : mz_R := if l = 0 then mz_r162 else if l = 1 then mz_r163 else if l = 2 then mz_r164 else if l = 3 then mz_r165 else mz_r166
theorem tr_all {u T : Nat} {b : Nat → Int32} (hu : u < 3) (hT : T ≤ 60) : ∀ n : Nat, (∀ o, o ≤ 5 → (5 - o) * 6 + 1 ≤ n → tx_D u T b (tx_ch u) (n + 20) mz_r168 o (tx_rd u T b n 5 o)) ∧ (∀ l o, l < 5 → o ≤ 5 → (5 - o) * 6 + (6 - l) ≤ n → tx_D u T b (tx_ch u) (n + 20) (tx_m l) o (tx_rd u T b n l o)) := by
  intro n
  induction n with
  | zero => exact ⟨fun o h1 h2 => absurd h2 (by omega), fun l o h0 h1 h2 => absurd h2 (by omega)⟩
  | succ n ih =>
    have hG : ∀ l o q, q ≤ T → tx_G u T q (tx_rd u T b n l o q) := fun l o q hq => tx_rd_G hu n l o q hq
    constructor
    · intro o h1 h2
      have e : tx_rd u T b (n + 1) 5 o = fun p => tx_op u T b o p (tx_rd u T b n 0 (o + 1)) (tx_rd u T b n 5 (o + 1)) := by
        funext p
        rw [tx_rd, if_neg (by decide)]
      rw [e]
      exact tx_D_deep (tr_one (D := n) hu hT h1 (hG 0 (o + 1)) (hG 5 (o + 1)) (fun ho => ih.2 0 (o + 1) (by decide) (by omega) (by omega)) (fun ho => ih.1 (o + 1) (by omega) (by omega))) (by omega)
    · intro l o h0 h1 h2
      have e : tx_rd u T b (n + 1) l o = fun p => tx_lp T b l (tx_rd u T b n (l + 1) o) (tx_most l) (tx_rd u T b n (l + 1) o p) := by
        funext p
        rw [tx_rd, if_pos h0]
      rw [e]
      rcases (show l = 0 ∨ l = 1 ∨ l = 2 ∨ l = 3 ∨ l = 4 by omega) with rfl | rfl | rfl | rfl | rfl
      · exact tx_D_deep (tr_lv0 (D := n) hu hT (hG 1 o) (ih.2 1 o (by decide) h1 (by omega))) (by omega)
      · exact tx_D_deep (tr_lv1 (D := n) hu hT (hG 2 o) (ih.2 2 o (by decide) h1 (by omega))) (by omega)
      · exact tx_D_deep (tr_lv2 (D := n) hu hT (hG 3 o) (ih.2 3 o (by decide) h1 (by omega))) (by omega)
      · exact tx_D_deep (tr_lv3 (D := n) hu hT (hG 4 o) (ih.2 4 o (by decide) h1 (by omega))) (by omega)
      · exact tx_D_deep (tr_lv4 (D := n) hu hT (hG 5 o) (ih.1 o h1 (by omega))) (by omega)
