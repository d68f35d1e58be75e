set_option maxHeartbeats 4000000 in
set_option maxRecDepth 100000 in
theorem tc_lp0 {u T : Nat} {b : Nat → Int32} (hu : u < 3) (hT : T ≤ 60) (hb : ∀ i, i < 60 → sm_N 255 (b i)) {o D : Nat} {f : Nat → tx_R} (hG : ∀ q, q ≤ T → tx_G u T q (f q)) (hC : tx_C u T b (D + 20) mz_r29 [.ref 53, .int 1, .int (nI o)] f) {m : mz_M} (h8 : m 8 1 = nI T) (h9 : ∀ i, m 9 i = b i) {p0 s : Nat} (hs0 : s ≤ p0) {g0 v0 : Nat → Int32} : ∀ j k : Nat, k + j = 60 → ∀ (r : tx_R) (R S g v : Nat → Int32), tx_G u T p0 r → tx_S u r s g0 v0 R S g v → ∀ o5 : Option Value, ∃ (R' S' g' v' : Nat → Int32) (k' : Int32) (o' : Option Value), tx_S u (tx_lp T b 0 f j r) s g0 v0 R' S' g' v' ∧ ∀ res, mz_Ex (D + 22) mz_k29 (112, [some (.ref 53), some (.int 0), some (.int (nI o)), some (.int 60), some (.int k'), o'], [], mz_set (mz_set (mz_set (mz_set m 53 R') 54 S') 55 g') 56 v') res → mz_Ex (D + 22) mz_k29 (34, [some (.ref 53), some (.int 0), some (.int (nI o)), some (.int 60), some (.int (nI k)), o5], [], mz_set (mz_set (mz_set (mz_set m 53 R) 54 S) 55 g) 56 v) res := by
  intro j
  induction j with
  | zero =>
    intro k hk r R S g v hGr hS o5
    rw [show k = 60 by omega]
    exact ⟨R, S, g, v, nI 60, o5, hS, fun res hr => by
      refine mz_go 3 (c' := (if 60 ≤ (nI 60) then 112 else 40, [some (.ref 53), some (.int 0), some (.int (nI o)), some (.int 60), some (.int (nI 60)), o5], [], mz_set (mz_set (mz_set (mz_set m 53 R) 54 S) 55 g) 56 v)) rfl ?_
      refine mz_ifT (show (60 ≤ (nI 60)) from (sm_leN rfl rfl (show 60 ≤ 60 by omega) (show 60 < 2 ^ 31 by omega))) ?_
      exact hr⟩
  | succ j ih =>
    intro k hk r R S g v hGr hS o5
    have hS2 := hS
    have hGr2 := hGr
    obtain ⟨-, GT, -⟩ := hGr2
    obtain ⟨a1, a2, a3, ⟨qq, hqq, a6⟩, a5⟩ := hS2
    by_cases ok : r.1 = true
    · have a4 : R 4 = 1 := by rw [a2, ok]; rfl
      by_cases jn : tx_joins 0 (tx_at T b r.2.1) = true
      · have hj : ¬ sm_bI (tx_joins 0 (tx_at T b r.2.1)) = 0 := by rw [jn]; decide
        have hlt := tx_joins_lt jn
        obtain ⟨G1, G2, G3⟩ := hGr
        obtain ⟨G4, G5, -⟩ := G3 ok
        obtain ⟨b1, b2, b3⟩ := a5 ok
        obtain ⟨R1, S1, g1, v1, E1, q1⟩ := hC m (sm_upd R 3 ((nI r.2.1) + 1)) S g v h8 h9 (r.2.1 + 1) (s + r.2.2.length) (by omega) (by omega) (Eq.trans tx_upE (nI_succ r.2.1).symm) (Eq.trans (tx_upN (by decide)) a4) (Eq.trans (tx_upN (by decide)) a3) b1
        have q2 := q1
        obtain ⟨c1, c2, c3, c6, c5⟩ := q2
        have hG1 := hG (r.2.1 + 1) (by omega)
        have hG2 := hG1
        obtain ⟨G6, G7, G8⟩ := hG2
        have hlp : tx_lp T b 0 f (j + 1) r = tx_lp T b 0 f j ((f (r.2.1 + 1)).1, (f (r.2.1 + 1)).2.1, r.2.2 ++ (f (r.2.1 + 1)).2.2 ++ [(tx_at T b r.2.1, 0)]) := if_pos ⟨ok, jn⟩
        rw [hlp]
        have hGn : tx_G u T p0 ((f (r.2.1 + 1)).1, (f (r.2.1 + 1)).2.1, r.2.2 ++ (f (r.2.1 + 1)).2.2 ++ [(tx_at T b r.2.1, 0)]) := by
          have h := tx_lp_G (b := b) (l := 0) (f := f) hG 1 p0 r ⟨G1, G2, G3⟩
          rw [show tx_lp T b 0 f 1 r = tx_lp T b 0 f 0 ((f (r.2.1 + 1)).1, (f (r.2.1 + 1)).2.1, r.2.2 ++ (f (r.2.1 + 1)).2.2 ++ [(tx_at T b r.2.1, 0)]) from if_pos ⟨ok, jn⟩] at h
          exact h
        by_cases ok2 : (f (r.2.1 + 1)).1 = true
        · obtain ⟨d1, d2, d3⟩ := c5 ok2
          obtain ⟨G9, G10, -⟩ := G8 ok2
          have EA := tc_add2 (m := m) (R := R1) (S := S1) (g := g1) (v := v1) (s := (s + r.2.2.length + (f (r.2.1 + 1)).2.2.length)) (by omega) d1 (tx_at T b r.2.1) 0
          obtain ⟨R', S', g', v', k', o', t1, E⟩ := ih (k + 1) (by omega) ((f (r.2.1 + 1)).1, (f (r.2.1 + 1)).2.1, r.2.2 ++ (f (r.2.1 + 1)).2.2 ++ [(tx_at T b r.2.1, 0)]) R1 _ _ _ hGn (tx_S_step (c := tx_at T b r.2.1) ok hS q1 ok2 (by omega)) (some (.int (tx_at T b r.2.1)))
          refine ⟨R', S', g', v', k', o', t1, fun res hr0 => ?_⟩
          have hr := E res hr0
          rw [nI_succ k] at hr
          refine mz_go 3 (c' := (if 60 ≤ (nI k) then 112 else 40, [some (.ref 53), some (.int 0), some (.int (nI o)), some (.int 60), some (.int (nI k)), o5], [], mz_set (mz_set (mz_set (mz_set m 53 R) 54 S) 55 g) 56 v)) rfl ?_
          refine mz_ifF (show ¬ (60 ≤ (nI k)) from (sm_nleN rfl rfl (show k < 60 by omega) (show 60 < 2 ^ 31 by omega))) ?_
          refine mz_go 2 (c' := (44, [some (.ref 53), some (.int 0), some (.int (nI o)), some (.int 60), some (.int (nI k)), o5], [.int (R 4)], mz_set (mz_set (mz_set (mz_set m 53 R) 54 S) 55 g) 56 v)) rfl ?_
          rw [a4]
          refine mz_go 6 (c' := (56, [some (.ref 53), some (.int 0), some (.int (nI o)), some (.int 60), some (.int (nI k)), o5], [.int (R 3), .ref 8, .int 0], mz_set (mz_set (mz_set (mz_set m 53 R) 54 S) 55 g) 56 v)) rfl ?_
          rw [a1]
          refine mz_doQ (R := mz_r54) (as := [.ref 8, .int (nI r.2.1)]) (rest := [.int 0]) (r1 := some (.int (tx_at T b r.2.1))) (m1 := mz_set (mz_set (mz_set (mz_set m 53 R) 54 S) 55 g) 56 v) mz_t54 mz_v54_8 rfl rfl rfl rfl rfl ((tc_at (m := mz_set (mz_set (mz_set (mz_set m 53 R) 54 S) 55 g) 56 v) hT h8 h9 (x := nI r.2.1) (p := r.2.1) rfl (by omega)).deep (by omega)) ?_
          refine mz_doQ (R := mz_r30) (as := [.int 0, .int (tx_at T b r.2.1)]) (rest := []) (r1 := some (.int (sm_bI (tx_joins 0 (tx_at T b r.2.1))))) (m1 := mz_set (mz_set (mz_set (mz_set m 53 R) 54 S) 55 g) 56 v) mz_t30 mz_v30 rfl rfl rfl rfl rfl ((tc_joins0 (m := mz_set (mz_set (mz_set (mz_set m 53 R) 54 S) 55 g) 56 v) (tx_at T b r.2.1)).deep (by omega)) ?_
          refine mz_go 1 (c' := (if (sm_bI (tx_joins 0 (tx_at T b r.2.1))) = 0 then 112 else 65, [some (.ref 53), some (.int 0), some (.int (nI o)), some (.int 60), some (.int (nI k)), o5], [], mz_set (mz_set (mz_set (mz_set m 53 R) 54 S) 55 g) 56 v)) rfl ?_
          refine mz_ifF hj ?_
          refine mz_go 4 (c' := (73, [some (.ref 53), some (.int 0), some (.int (nI o)), some (.int 60), some (.int (nI k)), o5], [.int (R 3), .ref 8], mz_set (mz_set (mz_set (mz_set m 53 R) 54 S) 55 g) 56 v)) rfl ?_
          rw [a1]
          refine mz_doQ (R := mz_r54) (as := [.ref 8, .int (nI r.2.1)]) (rest := []) (r1 := some (.int (tx_at T b r.2.1))) (m1 := mz_set (mz_set (mz_set (mz_set m 53 R) 54 S) 55 g) 56 v) mz_t54 mz_v54_8 rfl rfl rfl rfl rfl ((tc_at (m := mz_set (mz_set (mz_set (mz_set m 53 R) 54 S) 55 g) 56 v) hT h8 h9 (x := nI r.2.1) (p := r.2.1) rfl (by omega)).deep (by omega)) ?_
          refine mz_go 4 (c' := (83, [some (.ref 53), some (.int 0), some (.int (nI o)), some (.int 60), some (.int (nI k)), some (.int (tx_at T b r.2.1))], [.int (R 3), .ref 53], mz_set (mz_set (mz_set (mz_set m 53 R) 54 S) 55 g) 56 v)) rfl ?_
          rw [a1]
          refine mz_go 3 (c' := (88, [some (.ref 53), some (.int 0), some (.int (nI o)), some (.int 60), some (.int (nI k)), some (.int (tx_at T b r.2.1))], [], mz_up (mz_set (mz_set (mz_set (mz_set m 53 R) 54 S) 55 g) 56 v) 53 3 ((nI r.2.1) + 1))) rfl ?_
          rw [tx_up53]
          refine mz_go 5 (c' := (93, [some (.ref 53), some (.int 0), some (.int (nI o)), some (.int 60), some (.int (nI k)), some (.int (tx_at T b r.2.1))], [.int (nI o), .int 1, .ref 53], mz_set (mz_set (mz_set (mz_set m 53 (sm_upd R 3 ((nI r.2.1) + 1))) 54 S) 55 g) 56 v)) rfl ?_
          refine mz_doQ (R := mz_r29) (as := [.ref 53, .int 1, .int (nI o)]) (rest := []) (r1 := none) (m1 := mz_set (mz_set (mz_set (mz_set m 53 R1) 54 S1) 55 g1) 56 v1) mz_t29 mz_v29_53 rfl rfl rfl rfl rfl (E1.deep (by omega)) ?_
          refine mz_go 4 (c' := (103, [some (.ref 53), some (.int 0), some (.int (nI o)), some (.int 60), some (.int (nI k)), some (.int (tx_at T b r.2.1))], [.int 0, .int (tx_at T b r.2.1), .ref 54], mz_set (mz_set (mz_set (mz_set m 53 R1) 54 S1) 55 g1) 56 v1)) rfl ?_
          refine mz_doQ (R := mz_r56) (as := [.ref 54, .int (tx_at T b r.2.1), .int 0]) (rest := []) (r1 := none) (m1 := mz_set (mz_set (mz_set (mz_set m 53 R1) 54 (sm_upd S1 2 (nI (s + r.2.2.length + (f (r.2.1 + 1)).2.2.length) + 1))) 55 (sm_upd g1 (s + r.2.2.length + (f (r.2.1 + 1)).2.2.length) (tx_at T b r.2.1))) 56 (sm_upd v1 (s + r.2.2.length + (f (r.2.1 + 1)).2.2.length) 0)) mz_t56 mz_v56_54 rfl rfl rfl rfl rfl (EA.deep (by omega)) ?_
          refine mz_go 2 (c' := (34, [some (.ref 53), some (.int 0), some (.int (nI o)), some (.int 60), some (.int ((nI k) + 1)), some (.int (tx_at T b r.2.1))], [], mz_set (mz_set (mz_set (mz_set m 53 R1) 54 (sm_upd S1 2 (nI (s + r.2.2.length + (f (r.2.1 + 1)).2.2.length) + 1))) 55 (sm_upd g1 (s + r.2.2.length + (f (r.2.1 + 1)).2.2.length) (tx_at T b r.2.1))) 56 (sm_upd v1 (s + r.2.2.length + (f (r.2.1 + 1)).2.2.length) 0))) rfl ?_
          exact hr
        · obtain ⟨z, hz, hz2⟩ := c6
          obtain ⟨S2, g2, v2, EA, hz3⟩ := tc_add3 (m := m) (R := R1) (S := S1) (g := g1) (v := v1) hz hz2 (tx_at T b r.2.1) 0
          obtain ⟨R', S', g', v', k', o', t1, E⟩ := ih (k + 1) (by omega) ((f (r.2.1 + 1)).1, (f (r.2.1 + 1)).2.1, r.2.2 ++ (f (r.2.1 + 1)).2.2 ++ [(tx_at T b r.2.1, 0)]) R1 S2 g2 v2 hGn (tx_S_fail q1 ok2 hz3) (some (.int (tx_at T b r.2.1)))
          refine ⟨R', S', g', v', k', o', t1, fun res hr0 => ?_⟩
          have hr := E res hr0
          rw [nI_succ k] at hr
          refine mz_go 3 (c' := (if 60 ≤ (nI k) then 112 else 40, [some (.ref 53), some (.int 0), some (.int (nI o)), some (.int 60), some (.int (nI k)), o5], [], mz_set (mz_set (mz_set (mz_set m 53 R) 54 S) 55 g) 56 v)) rfl ?_
          refine mz_ifF (show ¬ (60 ≤ (nI k)) from (sm_nleN rfl rfl (show k < 60 by omega) (show 60 < 2 ^ 31 by omega))) ?_
          refine mz_go 2 (c' := (44, [some (.ref 53), some (.int 0), some (.int (nI o)), some (.int 60), some (.int (nI k)), o5], [.int (R 4)], mz_set (mz_set (mz_set (mz_set m 53 R) 54 S) 55 g) 56 v)) rfl ?_
          rw [a4]
          refine mz_go 6 (c' := (56, [some (.ref 53), some (.int 0), some (.int (nI o)), some (.int 60), some (.int (nI k)), o5], [.int (R 3), .ref 8, .int 0], mz_set (mz_set (mz_set (mz_set m 53 R) 54 S) 55 g) 56 v)) rfl ?_
          rw [a1]
          refine mz_doQ (R := mz_r54) (as := [.ref 8, .int (nI r.2.1)]) (rest := [.int 0]) (r1 := some (.int (tx_at T b r.2.1))) (m1 := mz_set (mz_set (mz_set (mz_set m 53 R) 54 S) 55 g) 56 v) mz_t54 mz_v54_8 rfl rfl rfl rfl rfl ((tc_at (m := mz_set (mz_set (mz_set (mz_set m 53 R) 54 S) 55 g) 56 v) hT h8 h9 (x := nI r.2.1) (p := r.2.1) rfl (by omega)).deep (by omega)) ?_
          refine mz_doQ (R := mz_r30) (as := [.int 0, .int (tx_at T b r.2.1)]) (rest := []) (r1 := some (.int (sm_bI (tx_joins 0 (tx_at T b r.2.1))))) (m1 := mz_set (mz_set (mz_set (mz_set m 53 R) 54 S) 55 g) 56 v) mz_t30 mz_v30 rfl rfl rfl rfl rfl ((tc_joins0 (m := mz_set (mz_set (mz_set (mz_set m 53 R) 54 S) 55 g) 56 v) (tx_at T b r.2.1)).deep (by omega)) ?_
          refine mz_go 1 (c' := (if (sm_bI (tx_joins 0 (tx_at T b r.2.1))) = 0 then 112 else 65, [some (.ref 53), some (.int 0), some (.int (nI o)), some (.int 60), some (.int (nI k)), o5], [], mz_set (mz_set (mz_set (mz_set m 53 R) 54 S) 55 g) 56 v)) rfl ?_
          refine mz_ifF hj ?_
          refine mz_go 4 (c' := (73, [some (.ref 53), some (.int 0), some (.int (nI o)), some (.int 60), some (.int (nI k)), o5], [.int (R 3), .ref 8], mz_set (mz_set (mz_set (mz_set m 53 R) 54 S) 55 g) 56 v)) rfl ?_
          rw [a1]
          refine mz_doQ (R := mz_r54) (as := [.ref 8, .int (nI r.2.1)]) (rest := []) (r1 := some (.int (tx_at T b r.2.1))) (m1 := mz_set (mz_set (mz_set (mz_set m 53 R) 54 S) 55 g) 56 v) mz_t54 mz_v54_8 rfl rfl rfl rfl rfl ((tc_at (m := mz_set (mz_set (mz_set (mz_set m 53 R) 54 S) 55 g) 56 v) hT h8 h9 (x := nI r.2.1) (p := r.2.1) rfl (by omega)).deep (by omega)) ?_
          refine mz_go 4 (c' := (83, [some (.ref 53), some (.int 0), some (.int (nI o)), some (.int 60), some (.int (nI k)), some (.int (tx_at T b r.2.1))], [.int (R 3), .ref 53], mz_set (mz_set (mz_set (mz_set m 53 R) 54 S) 55 g) 56 v)) rfl ?_
          rw [a1]
          refine mz_go 3 (c' := (88, [some (.ref 53), some (.int 0), some (.int (nI o)), some (.int 60), some (.int (nI k)), some (.int (tx_at T b r.2.1))], [], mz_up (mz_set (mz_set (mz_set (mz_set m 53 R) 54 S) 55 g) 56 v) 53 3 ((nI r.2.1) + 1))) rfl ?_
          rw [tx_up53]
          refine mz_go 5 (c' := (93, [some (.ref 53), some (.int 0), some (.int (nI o)), some (.int 60), some (.int (nI k)), some (.int (tx_at T b r.2.1))], [.int (nI o), .int 1, .ref 53], mz_set (mz_set (mz_set (mz_set m 53 (sm_upd R 3 ((nI r.2.1) + 1))) 54 S) 55 g) 56 v)) rfl ?_
          refine mz_doQ (R := mz_r29) (as := [.ref 53, .int 1, .int (nI o)]) (rest := []) (r1 := none) (m1 := mz_set (mz_set (mz_set (mz_set m 53 R1) 54 S1) 55 g1) 56 v1) mz_t29 mz_v29_53 rfl rfl rfl rfl rfl (E1.deep (by omega)) ?_
          refine mz_go 4 (c' := (103, [some (.ref 53), some (.int 0), some (.int (nI o)), some (.int 60), some (.int (nI k)), some (.int (tx_at T b r.2.1))], [.int 0, .int (tx_at T b r.2.1), .ref 54], mz_set (mz_set (mz_set (mz_set m 53 R1) 54 S1) 55 g1) 56 v1)) rfl ?_
          refine mz_doQ (R := mz_r56) (as := [.ref 54, .int (tx_at T b r.2.1), .int 0]) (rest := []) (r1 := none) (m1 := mz_set (mz_set (mz_set (mz_set m 53 R1) 54 S2) 55 g2) 56 v2) mz_t56 mz_v56_54 rfl rfl rfl rfl rfl (EA.deep (by omega)) ?_
          refine mz_go 2 (c' := (34, [some (.ref 53), some (.int 0), some (.int (nI o)), some (.int 60), some (.int ((nI k) + 1)), some (.int (tx_at T b r.2.1))], [], mz_set (mz_set (mz_set (mz_set m 53 R1) 54 S2) 55 g2) 56 v2)) rfl ?_
          exact hr
      · have hj : sm_bI (tx_joins 0 (tx_at T b r.2.1)) = 0 := by rw [eq_false_of_ne_true jn]; rfl
        rw [show tx_lp T b 0 f (j + 1) r = r from if_neg (fun z => jn z.2)]
        exact ⟨R, S, g, v, nI k, o5, hS, fun res hr => by
          refine mz_go 3 (c' := (if 60 ≤ (nI k) then 112 else 40, [some (.ref 53), some (.int 0), some (.int (nI o)), some (.int 60), some (.int (nI k)), o5], [], mz_set (mz_set (mz_set (mz_set m 53 R) 54 S) 55 g) 56 v)) rfl ?_
          refine mz_ifF (show ¬ (60 ≤ (nI k)) from (sm_nleN rfl rfl (show k < 60 by omega) (show 60 < 2 ^ 31 by omega))) ?_
          refine mz_go 2 (c' := (44, [some (.ref 53), some (.int 0), some (.int (nI o)), some (.int 60), some (.int (nI k)), o5], [.int (R 4)], mz_set (mz_set (mz_set (mz_set m 53 R) 54 S) 55 g) 56 v)) rfl ?_
          rw [a4]
          refine mz_go 6 (c' := (56, [some (.ref 53), some (.int 0), some (.int (nI o)), some (.int 60), some (.int (nI k)), o5], [.int (R 3), .ref 8, .int 0], mz_set (mz_set (mz_set (mz_set m 53 R) 54 S) 55 g) 56 v)) rfl ?_
          rw [a1]
          refine mz_doQ (R := mz_r54) (as := [.ref 8, .int (nI r.2.1)]) (rest := [.int 0]) (r1 := some (.int (tx_at T b r.2.1))) (m1 := mz_set (mz_set (mz_set (mz_set m 53 R) 54 S) 55 g) 56 v) mz_t54 mz_v54_8 rfl rfl rfl rfl rfl ((tc_at (m := mz_set (mz_set (mz_set (mz_set m 53 R) 54 S) 55 g) 56 v) hT h8 h9 (x := nI r.2.1) (p := r.2.1) rfl (by omega)).deep (by omega)) ?_
          refine mz_doQ (R := mz_r30) (as := [.int 0, .int (tx_at T b r.2.1)]) (rest := []) (r1 := some (.int (sm_bI (tx_joins 0 (tx_at T b r.2.1))))) (m1 := mz_set (mz_set (mz_set (mz_set m 53 R) 54 S) 55 g) 56 v) mz_t30 mz_v30 rfl rfl rfl rfl rfl ((tc_joins0 (m := mz_set (mz_set (mz_set (mz_set m 53 R) 54 S) 55 g) 56 v) (tx_at T b r.2.1)).deep (by omega)) ?_
          refine mz_go 1 (c' := (if (sm_bI (tx_joins 0 (tx_at T b r.2.1))) = 0 then 112 else 65, [some (.ref 53), some (.int 0), some (.int (nI o)), some (.int 60), some (.int (nI k)), o5], [], mz_set (mz_set (mz_set (mz_set m 53 R) 54 S) 55 g) 56 v)) rfl ?_
          refine mz_ifT hj ?_
          exact hr⟩
    · have a4 : R 4 = 0 := by rw [a2, eq_false_of_ne_true ok]; rfl
      rw [show tx_lp T b 0 f (j + 1) r = r from if_neg (fun z => ok z.1)]
      exact ⟨R, S, g, v, nI k, o5, hS, fun res hr => by
        refine mz_go 3 (c' := (if 60 ≤ (nI k) then 112 else 40, [some (.ref 53), some (.int 0), some (.int (nI o)), some (.int 60), some (.int (nI k)), o5], [], mz_set (mz_set (mz_set (mz_set m 53 R) 54 S) 55 g) 56 v)) rfl ?_
        refine mz_ifF (show ¬ (60 ≤ (nI k)) from (sm_nleN rfl rfl (show k < 60 by omega) (show 60 < 2 ^ 31 by omega))) ?_
        refine mz_go 2 (c' := (44, [some (.ref 53), some (.int 0), some (.int (nI o)), some (.int 60), some (.int (nI k)), o5], [.int (R 4)], mz_set (mz_set (mz_set (mz_set m 53 R) 54 S) 55 g) 56 v)) rfl ?_
        rw [a4]
        refine mz_go 1 (c' := (112, [some (.ref 53), some (.int 0), some (.int (nI o)), some (.int 60), some (.int (nI k)), o5], [], mz_set (mz_set (mz_set (mz_set m 53 R) 54 S) 55 g) 56 v)) rfl ?_
        exact hr⟩
set_option maxHeartbeats 4000000 in
set_option maxRecDepth 100000 in
theorem tc_lv0 {u T : Nat} {b : Nat → Int32} (hu : u < 3) (hT : T ≤ 60) (hb : ∀ i, i < 60 → sm_N 255 (b i)) {o D : Nat} {f : Nat → tx_R} (hG : ∀ q, q ≤ T → tx_G u T q (f q)) (hC : tx_C u T b (D + 20) mz_r29 [.ref 53, .int 1, .int (nI o)] f) : tx_C u T b (D + 22) mz_r29 [.ref 53, .int 0, .int (nI o)] (fun p => tx_lp T b 0 f 60 (f p)) := by
  intro m R S g v h8 h9 p s hsp hpT hp hg hnm hs
  obtain ⟨R1, S1, g1, v1, E1, q1⟩ := hC m R S g v h8 h9 p s hsp hpT hp hg hnm hs
  obtain ⟨R', S', g', v', k', o', t1, E⟩ := tc_lp0 hu hT hb hG hC (m := m) h8 h9 (p0 := p) (s := s) hsp (g0 := g) (v0 := v) 60 0 (by omega) (f p) R1 S1 g1 v1 (hG p hpT) q1 none
  have hr : mz_Ex (D + 22) mz_k29 (112, [some (.ref 53), some (.int 0), some (.int (nI o)), some (.int 60), some (.int k'), o'], [], mz_set (mz_set (mz_set (mz_set m 53 R') 54 S') 55 g') 56 v') (none, mz_set (mz_set (mz_set (mz_set m 53 R') 54 S') 55 g') 56 v') := by
    exact mz_ret rfl
  refine ⟨R', S', g', v', ⟨?_, rfl⟩, t1⟩
  refine mz_go 8 (c' := (16, [some (.ref 53), some (.int 0), some (.int (nI o)), none, none, none], [.int (nI o), .int 1, .ref 53], mz_set (mz_set (mz_set (mz_set m 53 R) 54 S) 55 g) 56 v)) rfl ?_
  refine mz_doQ (R := mz_r29) (as := [.ref 53, .int 1, .int (nI o)]) (rest := []) (r1 := none) (m1 := mz_set (mz_set (mz_set (mz_set m 53 R1) 54 S1) 55 g1) 56 v1) mz_t29 mz_v29_53 rfl rfl rfl rfl rfl (E1.deep (by omega)) ?_
  refine mz_go 7 (c' := (34, [some (.ref 53), some (.int 0), some (.int (nI o)), some (.int 60), some (.int 0), none], [], mz_set (mz_set (mz_set (mz_set m 53 R1) 54 S1) 55 g1) 56 v1)) rfl ?_
  exact E _ hr
set_option maxHeartbeats 4000000 in
set_option maxRecDepth 100000 in
theorem tc_lp1 {u T : Nat} {b : Nat → Int32} (hu : u < 3) (hT : T ≤ 60) (hb : ∀ i, i < 60 → sm_N 255 (b i)) {o D : Nat} {f : Nat → tx_R} (hG : ∀ q, q ≤ T → tx_G u T q (f q)) (hC : tx_C u T b (D + 20) mz_r29 [.ref 53, .int 2, .int (nI o)] f) {m : mz_M} (h8 : m 8 1 = nI T) (h9 : ∀ i, m 9 i = b i) {p0 s : Nat} (hs0 : s ≤ p0) {g0 v0 : Nat → Int32} : ∀ j k : Nat, k + j = 60 → ∀ (r : tx_R) (R S g v : Nat → Int32), tx_G u T p0 r → tx_S u r s g0 v0 R S g v → ∀ o5 : Option Value, ∃ (R' S' g' v' : Nat → Int32) (k' : Int32) (o' : Option Value), tx_S u (tx_lp T b 1 f j r) s g0 v0 R' S' g' v' ∧ ∀ res, mz_Ex (D + 22) mz_k29 (112, [some (.ref 53), some (.int 1), some (.int (nI o)), some (.int 60), some (.int k'), o'], [], mz_set (mz_set (mz_set (mz_set m 53 R') 54 S') 55 g') 56 v') res → mz_Ex (D + 22) mz_k29 (34, [some (.ref 53), some (.int 1), some (.int (nI o)), some (.int 60), some (.int (nI k)), o5], [], mz_set (mz_set (mz_set (mz_set m 53 R) 54 S) 55 g) 56 v) res := by
  intro j
  induction j with
  | zero =>
    intro k hk r R S g v hGr hS o5
    rw [show k = 60 by omega]
    exact ⟨R, S, g, v, nI 60, o5, hS, fun res hr => by
      refine mz_go 3 (c' := (if 60 ≤ (nI 60) then 112 else 40, [some (.ref 53), some (.int 1), some (.int (nI o)), some (.int 60), some (.int (nI 60)), o5], [], mz_set (mz_set (mz_set (mz_set m 53 R) 54 S) 55 g) 56 v)) rfl ?_
      refine mz_ifT (show (60 ≤ (nI 60)) from (sm_leN rfl rfl (show 60 ≤ 60 by omega) (show 60 < 2 ^ 31 by omega))) ?_
      exact hr⟩
  | succ j ih =>
    intro k hk r R S g v hGr hS o5
    have hS2 := hS
    have hGr2 := hGr
    obtain ⟨-, GT, -⟩ := hGr2
    obtain ⟨a1, a2, a3, ⟨qq, hqq, a6⟩, a5⟩ := hS2
    by_cases ok : r.1 = true
    · have a4 : R 4 = 1 := by rw [a2, ok]; rfl
      by_cases jn : tx_joins 1 (tx_at T b r.2.1) = true
      · have hj : ¬ sm_bI (tx_joins 1 (tx_at T b r.2.1)) = 0 := by rw [jn]; decide
        have hlt := tx_joins_lt jn
        obtain ⟨G1, G2, G3⟩ := hGr
        obtain ⟨G4, G5, -⟩ := G3 ok
        obtain ⟨b1, b2, b3⟩ := a5 ok
        obtain ⟨R1, S1, g1, v1, E1, q1⟩ := hC m (sm_upd R 3 ((nI r.2.1) + 1)) S g v h8 h9 (r.2.1 + 1) (s + r.2.2.length) (by omega) (by omega) (Eq.trans tx_upE (nI_succ r.2.1).symm) (Eq.trans (tx_upN (by decide)) a4) (Eq.trans (tx_upN (by decide)) a3) b1
        have q2 := q1
        obtain ⟨c1, c2, c3, c6, c5⟩ := q2
        have hG1 := hG (r.2.1 + 1) (by omega)
        have hG2 := hG1
        obtain ⟨G6, G7, G8⟩ := hG2
        have hlp : tx_lp T b 1 f (j + 1) r = tx_lp T b 1 f j ((f (r.2.1 + 1)).1, (f (r.2.1 + 1)).2.1, r.2.2 ++ (f (r.2.1 + 1)).2.2 ++ [(tx_at T b r.2.1, 0)]) := if_pos ⟨ok, jn⟩
        rw [hlp]
        have hGn : tx_G u T p0 ((f (r.2.1 + 1)).1, (f (r.2.1 + 1)).2.1, r.2.2 ++ (f (r.2.1 + 1)).2.2 ++ [(tx_at T b r.2.1, 0)]) := by
          have h := tx_lp_G (b := b) (l := 1) (f := f) hG 1 p0 r ⟨G1, G2, G3⟩
          rw [show tx_lp T b 1 f 1 r = tx_lp T b 1 f 0 ((f (r.2.1 + 1)).1, (f (r.2.1 + 1)).2.1, r.2.2 ++ (f (r.2.1 + 1)).2.2 ++ [(tx_at T b r.2.1, 0)]) from if_pos ⟨ok, jn⟩] at h
          exact h
        by_cases ok2 : (f (r.2.1 + 1)).1 = true
        · obtain ⟨d1, d2, d3⟩ := c5 ok2
          obtain ⟨G9, G10, -⟩ := G8 ok2
          have EA := tc_add2 (m := m) (R := R1) (S := S1) (g := g1) (v := v1) (s := (s + r.2.2.length + (f (r.2.1 + 1)).2.2.length)) (by omega) d1 (tx_at T b r.2.1) 0
          obtain ⟨R', S', g', v', k', o', t1, E⟩ := ih (k + 1) (by omega) ((f (r.2.1 + 1)).1, (f (r.2.1 + 1)).2.1, r.2.2 ++ (f (r.2.1 + 1)).2.2 ++ [(tx_at T b r.2.1, 0)]) R1 _ _ _ hGn (tx_S_step (c := tx_at T b r.2.1) ok hS q1 ok2 (by omega)) (some (.int (tx_at T b r.2.1)))
          refine ⟨R', S', g', v', k', o', t1, fun res hr0 => ?_⟩
          have hr := E res hr0
          rw [nI_succ k] at hr
          refine mz_go 3 (c' := (if 60 ≤ (nI k) then 112 else 40, [some (.ref 53), some (.int 1), some (.int (nI o)), some (.int 60), some (.int (nI k)), o5], [], mz_set (mz_set (mz_set (mz_set m 53 R) 54 S) 55 g) 56 v)) rfl ?_
          refine mz_ifF (show ¬ (60 ≤ (nI k)) from (sm_nleN rfl rfl (show k < 60 by omega) (show 60 < 2 ^ 31 by omega))) ?_
          refine mz_go 2 (c' := (44, [some (.ref 53), some (.int 1), some (.int (nI o)), some (.int 60), some (.int (nI k)), o5], [.int (R 4)], mz_set (mz_set (mz_set (mz_set m 53 R) 54 S) 55 g) 56 v)) rfl ?_
          rw [a4]
          refine mz_go 6 (c' := (56, [some (.ref 53), some (.int 1), some (.int (nI o)), some (.int 60), some (.int (nI k)), o5], [.int (R 3), .ref 8, .int 1], mz_set (mz_set (mz_set (mz_set m 53 R) 54 S) 55 g) 56 v)) rfl ?_
          rw [a1]
          refine mz_doQ (R := mz_r54) (as := [.ref 8, .int (nI r.2.1)]) (rest := [.int 1]) (r1 := some (.int (tx_at T b r.2.1))) (m1 := mz_set (mz_set (mz_set (mz_set m 53 R) 54 S) 55 g) 56 v) mz_t54 mz_v54_8 rfl rfl rfl rfl rfl ((tc_at (m := mz_set (mz_set (mz_set (mz_set m 53 R) 54 S) 55 g) 56 v) hT h8 h9 (x := nI r.2.1) (p := r.2.1) rfl (by omega)).deep (by omega)) ?_
          refine mz_doQ (R := mz_r30) (as := [.int 1, .int (tx_at T b r.2.1)]) (rest := []) (r1 := some (.int (sm_bI (tx_joins 1 (tx_at T b r.2.1))))) (m1 := mz_set (mz_set (mz_set (mz_set m 53 R) 54 S) 55 g) 56 v) mz_t30 mz_v30 rfl rfl rfl rfl rfl ((tc_joins1 (m := mz_set (mz_set (mz_set (mz_set m 53 R) 54 S) 55 g) 56 v) (tx_at T b r.2.1)).deep (by omega)) ?_
          refine mz_go 1 (c' := (if (sm_bI (tx_joins 1 (tx_at T b r.2.1))) = 0 then 112 else 65, [some (.ref 53), some (.int 1), some (.int (nI o)), some (.int 60), some (.int (nI k)), o5], [], mz_set (mz_set (mz_set (mz_set m 53 R) 54 S) 55 g) 56 v)) rfl ?_
          refine mz_ifF hj ?_
          refine mz_go 4 (c' := (73, [some (.ref 53), some (.int 1), some (.int (nI o)), some (.int 60), some (.int (nI k)), o5], [.int (R 3), .ref 8], mz_set (mz_set (mz_set (mz_set m 53 R) 54 S) 55 g) 56 v)) rfl ?_
          rw [a1]
          refine mz_doQ (R := mz_r54) (as := [.ref 8, .int (nI r.2.1)]) (rest := []) (r1 := some (.int (tx_at T b r.2.1))) (m1 := mz_set (mz_set (mz_set (mz_set m 53 R) 54 S) 55 g) 56 v) mz_t54 mz_v54_8 rfl rfl rfl rfl rfl ((tc_at (m := mz_set (mz_set (mz_set (mz_set m 53 R) 54 S) 55 g) 56 v) hT h8 h9 (x := nI r.2.1) (p := r.2.1) rfl (by omega)).deep (by omega)) ?_
          refine mz_go 4 (c' := (83, [some (.ref 53), some (.int 1), some (.int (nI o)), some (.int 60), some (.int (nI k)), some (.int (tx_at T b r.2.1))], [.int (R 3), .ref 53], mz_set (mz_set (mz_set (mz_set m 53 R) 54 S) 55 g) 56 v)) rfl ?_
          rw [a1]
          refine mz_go 3 (c' := (88, [some (.ref 53), some (.int 1), some (.int (nI o)), some (.int 60), some (.int (nI k)), some (.int (tx_at T b r.2.1))], [], mz_up (mz_set (mz_set (mz_set (mz_set m 53 R) 54 S) 55 g) 56 v) 53 3 ((nI r.2.1) + 1))) rfl ?_
          rw [tx_up53]
          refine mz_go 5 (c' := (93, [some (.ref 53), some (.int 1), some (.int (nI o)), some (.int 60), some (.int (nI k)), some (.int (tx_at T b r.2.1))], [.int (nI o), .int 2, .ref 53], mz_set (mz_set (mz_set (mz_set m 53 (sm_upd R 3 ((nI r.2.1) + 1))) 54 S) 55 g) 56 v)) rfl ?_
          refine mz_doQ (R := mz_r29) (as := [.ref 53, .int 2, .int (nI o)]) (rest := []) (r1 := none) (m1 := mz_set (mz_set (mz_set (mz_set m 53 R1) 54 S1) 55 g1) 56 v1) mz_t29 mz_v29_53 rfl rfl rfl rfl rfl (E1.deep (by omega)) ?_
          refine mz_go 4 (c' := (103, [some (.ref 53), some (.int 1), some (.int (nI o)), some (.int 60), some (.int (nI k)), some (.int (tx_at T b r.2.1))], [.int 0, .int (tx_at T b r.2.1), .ref 54], mz_set (mz_set (mz_set (mz_set m 53 R1) 54 S1) 55 g1) 56 v1)) rfl ?_
          refine mz_doQ (R := mz_r56) (as := [.ref 54, .int (tx_at T b r.2.1), .int 0]) (rest := []) (r1 := none) (m1 := mz_set (mz_set (mz_set (mz_set m 53 R1) 54 (sm_upd S1 2 (nI (s + r.2.2.length + (f (r.2.1 + 1)).2.2.length) + 1))) 55 (sm_upd g1 (s + r.2.2.length + (f (r.2.1 + 1)).2.2.length) (tx_at T b r.2.1))) 56 (sm_upd v1 (s + r.2.2.length + (f (r.2.1 + 1)).2.2.length) 0)) mz_t56 mz_v56_54 rfl rfl rfl rfl rfl (EA.deep (by omega)) ?_
          refine mz_go 2 (c' := (34, [some (.ref 53), some (.int 1), some (.int (nI o)), some (.int 60), some (.int ((nI k) + 1)), some (.int (tx_at T b r.2.1))], [], mz_set (mz_set (mz_set (mz_set m 53 R1) 54 (sm_upd S1 2 (nI (s + r.2.2.length + (f (r.2.1 + 1)).2.2.length) + 1))) 55 (sm_upd g1 (s + r.2.2.length + (f (r.2.1 + 1)).2.2.length) (tx_at T b r.2.1))) 56 (sm_upd v1 (s + r.2.2.length + (f (r.2.1 + 1)).2.2.length) 0))) rfl ?_
          exact hr
        · obtain ⟨z, hz, hz2⟩ := c6
          obtain ⟨S2, g2, v2, EA, hz3⟩ := tc_add3 (m := m) (R := R1) (S := S1) (g := g1) (v := v1) hz hz2 (tx_at T b r.2.1) 0
          obtain ⟨R', S', g', v', k', o', t1, E⟩ := ih (k + 1) (by omega) ((f (r.2.1 + 1)).1, (f (r.2.1 + 1)).2.1, r.2.2 ++ (f (r.2.1 + 1)).2.2 ++ [(tx_at T b r.2.1, 0)]) R1 S2 g2 v2 hGn (tx_S_fail q1 ok2 hz3) (some (.int (tx_at T b r.2.1)))
          refine ⟨R', S', g', v', k', o', t1, fun res hr0 => ?_⟩
          have hr := E res hr0
          rw [nI_succ k] at hr
          refine mz_go 3 (c' := (if 60 ≤ (nI k) then 112 else 40, [some (.ref 53), some (.int 1), some (.int (nI o)), some (.int 60), some (.int (nI k)), o5], [], mz_set (mz_set (mz_set (mz_set m 53 R) 54 S) 55 g) 56 v)) rfl ?_
          refine mz_ifF (show ¬ (60 ≤ (nI k)) from (sm_nleN rfl rfl (show k < 60 by omega) (show 60 < 2 ^ 31 by omega))) ?_
          refine mz_go 2 (c' := (44, [some (.ref 53), some (.int 1), some (.int (nI o)), some (.int 60), some (.int (nI k)), o5], [.int (R 4)], mz_set (mz_set (mz_set (mz_set m 53 R) 54 S) 55 g) 56 v)) rfl ?_
          rw [a4]
          refine mz_go 6 (c' := (56, [some (.ref 53), some (.int 1), some (.int (nI o)), some (.int 60), some (.int (nI k)), o5], [.int (R 3), .ref 8, .int 1], mz_set (mz_set (mz_set (mz_set m 53 R) 54 S) 55 g) 56 v)) rfl ?_
          rw [a1]
          refine mz_doQ (R := mz_r54) (as := [.ref 8, .int (nI r.2.1)]) (rest := [.int 1]) (r1 := some (.int (tx_at T b r.2.1))) (m1 := mz_set (mz_set (mz_set (mz_set m 53 R) 54 S) 55 g) 56 v) mz_t54 mz_v54_8 rfl rfl rfl rfl rfl ((tc_at (m := mz_set (mz_set (mz_set (mz_set m 53 R) 54 S) 55 g) 56 v) hT h8 h9 (x := nI r.2.1) (p := r.2.1) rfl (by omega)).deep (by omega)) ?_
          refine mz_doQ (R := mz_r30) (as := [.int 1, .int (tx_at T b r.2.1)]) (rest := []) (r1 := some (.int (sm_bI (tx_joins 1 (tx_at T b r.2.1))))) (m1 := mz_set (mz_set (mz_set (mz_set m 53 R) 54 S) 55 g) 56 v) mz_t30 mz_v30 rfl rfl rfl rfl rfl ((tc_joins1 (m := mz_set (mz_set (mz_set (mz_set m 53 R) 54 S) 55 g) 56 v) (tx_at T b r.2.1)).deep (by omega)) ?_
          refine mz_go 1 (c' := (if (sm_bI (tx_joins 1 (tx_at T b r.2.1))) = 0 then 112 else 65, [some (.ref 53), some (.int 1), some (.int (nI o)), some (.int 60), some (.int (nI k)), o5], [], mz_set (mz_set (mz_set (mz_set m 53 R) 54 S) 55 g) 56 v)) rfl ?_
          refine mz_ifF hj ?_
          refine mz_go 4 (c' := (73, [some (.ref 53), some (.int 1), some (.int (nI o)), some (.int 60), some (.int (nI k)), o5], [.int (R 3), .ref 8], mz_set (mz_set (mz_set (mz_set m 53 R) 54 S) 55 g) 56 v)) rfl ?_
          rw [a1]
          refine mz_doQ (R := mz_r54) (as := [.ref 8, .int (nI r.2.1)]) (rest := []) (r1 := some (.int (tx_at T b r.2.1))) (m1 := mz_set (mz_set (mz_set (mz_set m 53 R) 54 S) 55 g) 56 v) mz_t54 mz_v54_8 rfl rfl rfl rfl rfl ((tc_at (m := mz_set (mz_set (mz_set (mz_set m 53 R) 54 S) 55 g) 56 v) hT h8 h9 (x := nI r.2.1) (p := r.2.1) rfl (by omega)).deep (by omega)) ?_
          refine mz_go 4 (c' := (83, [some (.ref 53), some (.int 1), some (.int (nI o)), some (.int 60), some (.int (nI k)), some (.int (tx_at T b r.2.1))], [.int (R 3), .ref 53], mz_set (mz_set (mz_set (mz_set m 53 R) 54 S) 55 g) 56 v)) rfl ?_
          rw [a1]
          refine mz_go 3 (c' := (88, [some (.ref 53), some (.int 1), some (.int (nI o)), some (.int 60), some (.int (nI k)), some (.int (tx_at T b r.2.1))], [], mz_up (mz_set (mz_set (mz_set (mz_set m 53 R) 54 S) 55 g) 56 v) 53 3 ((nI r.2.1) + 1))) rfl ?_
          rw [tx_up53]
          refine mz_go 5 (c' := (93, [some (.ref 53), some (.int 1), some (.int (nI o)), some (.int 60), some (.int (nI k)), some (.int (tx_at T b r.2.1))], [.int (nI o), .int 2, .ref 53], mz_set (mz_set (mz_set (mz_set m 53 (sm_upd R 3 ((nI r.2.1) + 1))) 54 S) 55 g) 56 v)) rfl ?_
          refine mz_doQ (R := mz_r29) (as := [.ref 53, .int 2, .int (nI o)]) (rest := []) (r1 := none) (m1 := mz_set (mz_set (mz_set (mz_set m 53 R1) 54 S1) 55 g1) 56 v1) mz_t29 mz_v29_53 rfl rfl rfl rfl rfl (E1.deep (by omega)) ?_
          refine mz_go 4 (c' := (103, [some (.ref 53), some (.int 1), some (.int (nI o)), some (.int 60), some (.int (nI k)), some (.int (tx_at T b r.2.1))], [.int 0, .int (tx_at T b r.2.1), .ref 54], mz_set (mz_set (mz_set (mz_set m 53 R1) 54 S1) 55 g1) 56 v1)) rfl ?_
          refine mz_doQ (R := mz_r56) (as := [.ref 54, .int (tx_at T b r.2.1), .int 0]) (rest := []) (r1 := none) (m1 := mz_set (mz_set (mz_set (mz_set m 53 R1) 54 S2) 55 g2) 56 v2) mz_t56 mz_v56_54 rfl rfl rfl rfl rfl (EA.deep (by omega)) ?_
          refine mz_go 2 (c' := (34, [some (.ref 53), some (.int 1), some (.int (nI o)), some (.int 60), some (.int ((nI k) + 1)), some (.int (tx_at T b r.2.1))], [], mz_set (mz_set (mz_set (mz_set m 53 R1) 54 S2) 55 g2) 56 v2)) rfl ?_
          exact hr
      · have hj : sm_bI (tx_joins 1 (tx_at T b r.2.1)) = 0 := by rw [eq_false_of_ne_true jn]; rfl
        rw [show tx_lp T b 1 f (j + 1) r = r from if_neg (fun z => jn z.2)]
        exact ⟨R, S, g, v, nI k, o5, hS, fun res hr => by
          refine mz_go 3 (c' := (if 60 ≤ (nI k) then 112 else 40, [some (.ref 53), some (.int 1), some (.int (nI o)), some (.int 60), some (.int (nI k)), o5], [], mz_set (mz_set (mz_set (mz_set m 53 R) 54 S) 55 g) 56 v)) rfl ?_
          refine mz_ifF (show ¬ (60 ≤ (nI k)) from (sm_nleN rfl rfl (show k < 60 by omega) (show 60 < 2 ^ 31 by omega))) ?_
          refine mz_go 2 (c' := (44, [some (.ref 53), some (.int 1), some (.int (nI o)), some (.int 60), some (.int (nI k)), o5], [.int (R 4)], mz_set (mz_set (mz_set (mz_set m 53 R) 54 S) 55 g) 56 v)) rfl ?_
          rw [a4]
          refine mz_go 6 (c' := (56, [some (.ref 53), some (.int 1), some (.int (nI o)), some (.int 60), some (.int (nI k)), o5], [.int (R 3), .ref 8, .int 1], mz_set (mz_set (mz_set (mz_set m 53 R) 54 S) 55 g) 56 v)) rfl ?_
          rw [a1]
          refine mz_doQ (R := mz_r54) (as := [.ref 8, .int (nI r.2.1)]) (rest := [.int 1]) (r1 := some (.int (tx_at T b r.2.1))) (m1 := mz_set (mz_set (mz_set (mz_set m 53 R) 54 S) 55 g) 56 v) mz_t54 mz_v54_8 rfl rfl rfl rfl rfl ((tc_at (m := mz_set (mz_set (mz_set (mz_set m 53 R) 54 S) 55 g) 56 v) hT h8 h9 (x := nI r.2.1) (p := r.2.1) rfl (by omega)).deep (by omega)) ?_
          refine mz_doQ (R := mz_r30) (as := [.int 1, .int (tx_at T b r.2.1)]) (rest := []) (r1 := some (.int (sm_bI (tx_joins 1 (tx_at T b r.2.1))))) (m1 := mz_set (mz_set (mz_set (mz_set m 53 R) 54 S) 55 g) 56 v) mz_t30 mz_v30 rfl rfl rfl rfl rfl ((tc_joins1 (m := mz_set (mz_set (mz_set (mz_set m 53 R) 54 S) 55 g) 56 v) (tx_at T b r.2.1)).deep (by omega)) ?_
          refine mz_go 1 (c' := (if (sm_bI (tx_joins 1 (tx_at T b r.2.1))) = 0 then 112 else 65, [some (.ref 53), some (.int 1), some (.int (nI o)), some (.int 60), some (.int (nI k)), o5], [], mz_set (mz_set (mz_set (mz_set m 53 R) 54 S) 55 g) 56 v)) rfl ?_
          refine mz_ifT hj ?_
          exact hr⟩
    · have a4 : R 4 = 0 := by rw [a2, eq_false_of_ne_true ok]; rfl
      rw [show tx_lp T b 1 f (j + 1) r = r from if_neg (fun z => ok z.1)]
      exact ⟨R, S, g, v, nI k, o5, hS, fun res hr => by
        refine mz_go 3 (c' := (if 60 ≤ (nI k) then 112 else 40, [some (.ref 53), some (.int 1), some (.int (nI o)), some (.int 60), some (.int (nI k)), o5], [], mz_set (mz_set (mz_set (mz_set m 53 R) 54 S) 55 g) 56 v)) rfl ?_
        refine mz_ifF (show ¬ (60 ≤ (nI k)) from (sm_nleN rfl rfl (show k < 60 by omega) (show 60 < 2 ^ 31 by omega))) ?_
        refine mz_go 2 (c' := (44, [some (.ref 53), some (.int 1), some (.int (nI o)), some (.int 60), some (.int (nI k)), o5], [.int (R 4)], mz_set (mz_set (mz_set (mz_set m 53 R) 54 S) 55 g) 56 v)) rfl ?_
        rw [a4]
        refine mz_go 1 (c' := (112, [some (.ref 53), some (.int 1), some (.int (nI o)), some (.int 60), some (.int (nI k)), o5], [], mz_set (mz_set (mz_set (mz_set m 53 R) 54 S) 55 g) 56 v)) rfl ?_
        exact hr⟩
set_option maxHeartbeats 4000000 in
set_option maxRecDepth 100000 in
theorem tc_lv1 {u T : Nat} {b : Nat → Int32} (hu : u < 3) (hT : T ≤ 60) (hb : ∀ i, i < 60 → sm_N 255 (b i)) {o D : Nat} {f : Nat → tx_R} (hG : ∀ q, q ≤ T → tx_G u T q (f q)) (hC : tx_C u T b (D + 20) mz_r29 [.ref 53, .int 2, .int (nI o)] f) : tx_C u T b (D + 22) mz_r29 [.ref 53, .int 1, .int (nI o)] (fun p => tx_lp T b 1 f 60 (f p)) := by
  intro m R S g v h8 h9 p s hsp hpT hp hg hnm hs
  obtain ⟨R1, S1, g1, v1, E1, q1⟩ := hC m R S g v h8 h9 p s hsp hpT hp hg hnm hs
  obtain ⟨R', S', g', v', k', o', t1, E⟩ := tc_lp1 hu hT hb hG hC (m := m) h8 h9 (p0 := p) (s := s) hsp (g0 := g) (v0 := v) 60 0 (by omega) (f p) R1 S1 g1 v1 (hG p hpT) q1 none
  have hr : mz_Ex (D + 22) mz_k29 (112, [some (.ref 53), some (.int 1), some (.int (nI o)), some (.int 60), some (.int k'), o'], [], mz_set (mz_set (mz_set (mz_set m 53 R') 54 S') 55 g') 56 v') (none, mz_set (mz_set (mz_set (mz_set m 53 R') 54 S') 55 g') 56 v') := by
    exact mz_ret rfl
  refine ⟨R', S', g', v', ⟨?_, rfl⟩, t1⟩
  refine mz_go 8 (c' := (16, [some (.ref 53), some (.int 1), some (.int (nI o)), none, none, none], [.int (nI o), .int 2, .ref 53], mz_set (mz_set (mz_set (mz_set m 53 R) 54 S) 55 g) 56 v)) rfl ?_
  refine mz_doQ (R := mz_r29) (as := [.ref 53, .int 2, .int (nI o)]) (rest := []) (r1 := none) (m1 := mz_set (mz_set (mz_set (mz_set m 53 R1) 54 S1) 55 g1) 56 v1) mz_t29 mz_v29_53 rfl rfl rfl rfl rfl (E1.deep (by omega)) ?_
  refine mz_go 7 (c' := (34, [some (.ref 53), some (.int 1), some (.int (nI o)), some (.int 60), some (.int 0), none], [], mz_set (mz_set (mz_set (mz_set m 53 R1) 54 S1) 55 g1) 56 v1)) rfl ?_
  exact E _ hr
set_option maxHeartbeats 4000000 in
set_option maxRecDepth 100000 in
theorem tc_lp2 {u T : Nat} {b : Nat → Int32} (hu : u < 3) (hT : T ≤ 60) (hb : ∀ i, i < 60 → sm_N 255 (b i)) {o D : Nat} {f : Nat → tx_R} (hG : ∀ q, q ≤ T → tx_G u T q (f q)) (hC : tx_C u T b (D + 20) mz_r29 [.ref 53, .int 3, .int (nI o)] f) {m : mz_M} (h8 : m 8 1 = nI T) (h9 : ∀ i, m 9 i = b i) {p0 s : Nat} (hs0 : s ≤ p0) {g0 v0 : Nat → Int32} : ∀ j k : Nat, k + j = 1 → ∀ (r : tx_R) (R S g v : Nat → Int32), tx_G u T p0 r → tx_S u r s g0 v0 R S g v → ∀ o5 : Option Value, ∃ (R' S' g' v' : Nat → Int32) (k' : Int32) (o' : Option Value), tx_S u (tx_lp T b 2 f j r) s g0 v0 R' S' g' v' ∧ ∀ res, mz_Ex (D + 22) mz_k29 (112, [some (.ref 53), some (.int 2), some (.int (nI o)), some (.int 1), some (.int k'), o'], [], mz_set (mz_set (mz_set (mz_set m 53 R') 54 S') 55 g') 56 v') res → mz_Ex (D + 22) mz_k29 (34, [some (.ref 53), some (.int 2), some (.int (nI o)), some (.int 1), some (.int (nI k)), o5], [], mz_set (mz_set (mz_set (mz_set m 53 R) 54 S) 55 g) 56 v) res := by
  intro j
  induction j with
  | zero =>
    intro k hk r R S g v hGr hS o5
    rw [show k = 1 by omega]
    exact ⟨R, S, g, v, nI 1, o5, hS, fun res hr => by
      refine mz_go 3 (c' := (if 1 ≤ (nI 1) then 112 else 40, [some (.ref 53), some (.int 2), some (.int (nI o)), some (.int 1), some (.int (nI 1)), o5], [], mz_set (mz_set (mz_set (mz_set m 53 R) 54 S) 55 g) 56 v)) rfl ?_
      refine mz_ifT (show (1 ≤ (nI 1)) from (sm_leN rfl rfl (show 1 ≤ 1 by omega) (show 1 < 2 ^ 31 by omega))) ?_
      exact hr⟩
  | succ j ih =>
    intro k hk r R S g v hGr hS o5
    have hS2 := hS
    have hGr2 := hGr
    obtain ⟨-, GT, -⟩ := hGr2
    obtain ⟨a1, a2, a3, ⟨qq, hqq, a6⟩, a5⟩ := hS2
    by_cases ok : r.1 = true
    · have a4 : R 4 = 1 := by rw [a2, ok]; rfl
      by_cases jn : tx_joins 2 (tx_at T b r.2.1) = true
      · have hj : ¬ sm_bI (tx_joins 2 (tx_at T b r.2.1)) = 0 := by rw [jn]; decide
        have hlt := tx_joins_lt jn
        obtain ⟨G1, G2, G3⟩ := hGr
        obtain ⟨G4, G5, -⟩ := G3 ok
        obtain ⟨b1, b2, b3⟩ := a5 ok
        obtain ⟨R1, S1, g1, v1, E1, q1⟩ := hC m (sm_upd R 3 ((nI r.2.1) + 1)) S g v h8 h9 (r.2.1 + 1) (s + r.2.2.length) (by omega) (by omega) (Eq.trans tx_upE (nI_succ r.2.1).symm) (Eq.trans (tx_upN (by decide)) a4) (Eq.trans (tx_upN (by decide)) a3) b1
        have q2 := q1
        obtain ⟨c1, c2, c3, c6, c5⟩ := q2
        have hG1 := hG (r.2.1 + 1) (by omega)
        have hG2 := hG1
        obtain ⟨G6, G7, G8⟩ := hG2
        have hlp : tx_lp T b 2 f (j + 1) r = tx_lp T b 2 f j ((f (r.2.1 + 1)).1, (f (r.2.1 + 1)).2.1, r.2.2 ++ (f (r.2.1 + 1)).2.2 ++ [(tx_at T b r.2.1, 0)]) := if_pos ⟨ok, jn⟩
        rw [hlp]
        have hGn : tx_G u T p0 ((f (r.2.1 + 1)).1, (f (r.2.1 + 1)).2.1, r.2.2 ++ (f (r.2.1 + 1)).2.2 ++ [(tx_at T b r.2.1, 0)]) := by
          have h := tx_lp_G (b := b) (l := 2) (f := f) hG 1 p0 r ⟨G1, G2, G3⟩
          rw [show tx_lp T b 2 f 1 r = tx_lp T b 2 f 0 ((f (r.2.1 + 1)).1, (f (r.2.1 + 1)).2.1, r.2.2 ++ (f (r.2.1 + 1)).2.2 ++ [(tx_at T b r.2.1, 0)]) from if_pos ⟨ok, jn⟩] at h
          exact h
        by_cases ok2 : (f (r.2.1 + 1)).1 = true
        · obtain ⟨d1, d2, d3⟩ := c5 ok2
          obtain ⟨G9, G10, -⟩ := G8 ok2
          have EA := tc_add2 (m := m) (R := R1) (S := S1) (g := g1) (v := v1) (s := (s + r.2.2.length + (f (r.2.1 + 1)).2.2.length)) (by omega) d1 (tx_at T b r.2.1) 0
          obtain ⟨R', S', g', v', k', o', t1, E⟩ := ih (k + 1) (by omega) ((f (r.2.1 + 1)).1, (f (r.2.1 + 1)).2.1, r.2.2 ++ (f (r.2.1 + 1)).2.2 ++ [(tx_at T b r.2.1, 0)]) R1 _ _ _ hGn (tx_S_step (c := tx_at T b r.2.1) ok hS q1 ok2 (by omega)) (some (.int (tx_at T b r.2.1)))
          refine ⟨R', S', g', v', k', o', t1, fun res hr0 => ?_⟩
          have hr := E res hr0
          rw [nI_succ k] at hr
          refine mz_go 3 (c' := (if 1 ≤ (nI k) then 112 else 40, [some (.ref 53), some (.int 2), some (.int (nI o)), some (.int 1), some (.int (nI k)), o5], [], mz_set (mz_set (mz_set (mz_set m 53 R) 54 S) 55 g) 56 v)) rfl ?_
          refine mz_ifF (show ¬ (1 ≤ (nI k)) from (sm_nleN rfl rfl (show k < 1 by omega) (show 1 < 2 ^ 31 by omega))) ?_
          refine mz_go 2 (c' := (44, [some (.ref 53), some (.int 2), some (.int (nI o)), some (.int 1), some (.int (nI k)), o5], [.int (R 4)], mz_set (mz_set (mz_set (mz_set m 53 R) 54 S) 55 g) 56 v)) rfl ?_
          rw [a4]
          refine mz_go 6 (c' := (56, [some (.ref 53), some (.int 2), some (.int (nI o)), some (.int 1), some (.int (nI k)), o5], [.int (R 3), .ref 8, .int 2], mz_set (mz_set (mz_set (mz_set m 53 R) 54 S) 55 g) 56 v)) rfl ?_
          rw [a1]
          refine mz_doQ (R := mz_r54) (as := [.ref 8, .int (nI r.2.1)]) (rest := [.int 2]) (r1 := some (.int (tx_at T b r.2.1))) (m1 := mz_set (mz_set (mz_set (mz_set m 53 R) 54 S) 55 g) 56 v) mz_t54 mz_v54_8 rfl rfl rfl rfl rfl ((tc_at (m := mz_set (mz_set (mz_set (mz_set m 53 R) 54 S) 55 g) 56 v) hT h8 h9 (x := nI r.2.1) (p := r.2.1) rfl (by omega)).deep (by omega)) ?_
          refine mz_doQ (R := mz_r30) (as := [.int 2, .int (tx_at T b r.2.1)]) (rest := []) (r1 := some (.int (sm_bI (tx_joins 2 (tx_at T b r.2.1))))) (m1 := mz_set (mz_set (mz_set (mz_set m 53 R) 54 S) 55 g) 56 v) mz_t30 mz_v30 rfl rfl rfl rfl rfl ((tc_joins2 (m := mz_set (mz_set (mz_set (mz_set m 53 R) 54 S) 55 g) 56 v) (tx_at T b r.2.1)).deep (by omega)) ?_
          refine mz_go 1 (c' := (if (sm_bI (tx_joins 2 (tx_at T b r.2.1))) = 0 then 112 else 65, [some (.ref 53), some (.int 2), some (.int (nI o)), some (.int 1), some (.int (nI k)), o5], [], mz_set (mz_set (mz_set (mz_set m 53 R) 54 S) 55 g) 56 v)) rfl ?_
          refine mz_ifF hj ?_
          refine mz_go 4 (c' := (73, [some (.ref 53), some (.int 2), some (.int (nI o)), some (.int 1), some (.int (nI k)), o5], [.int (R 3), .ref 8], mz_set (mz_set (mz_set (mz_set m 53 R) 54 S) 55 g) 56 v)) rfl ?_
          rw [a1]
          refine mz_doQ (R := mz_r54) (as := [.ref 8, .int (nI r.2.1)]) (rest := []) (r1 := some (.int (tx_at T b r.2.1))) (m1 := mz_set (mz_set (mz_set (mz_set m 53 R) 54 S) 55 g) 56 v) mz_t54 mz_v54_8 rfl rfl rfl rfl rfl ((tc_at (m := mz_set (mz_set (mz_set (mz_set m 53 R) 54 S) 55 g) 56 v) hT h8 h9 (x := nI r.2.1) (p := r.2.1) rfl (by omega)).deep (by omega)) ?_
          refine mz_go 4 (c' := (83, [some (.ref 53), some (.int 2), some (.int (nI o)), some (.int 1), some (.int (nI k)), some (.int (tx_at T b r.2.1))], [.int (R 3), .ref 53], mz_set (mz_set (mz_set (mz_set m 53 R) 54 S) 55 g) 56 v)) rfl ?_
          rw [a1]
          refine mz_go 3 (c' := (88, [some (.ref 53), some (.int 2), some (.int (nI o)), some (.int 1), some (.int (nI k)), some (.int (tx_at T b r.2.1))], [], mz_up (mz_set (mz_set (mz_set (mz_set m 53 R) 54 S) 55 g) 56 v) 53 3 ((nI r.2.1) + 1))) rfl ?_
          rw [tx_up53]
          refine mz_go 5 (c' := (93, [some (.ref 53), some (.int 2), some (.int (nI o)), some (.int 1), some (.int (nI k)), some (.int (tx_at T b r.2.1))], [.int (nI o), .int 3, .ref 53], mz_set (mz_set (mz_set (mz_set m 53 (sm_upd R 3 ((nI r.2.1) + 1))) 54 S) 55 g) 56 v)) rfl ?_
          refine mz_doQ (R := mz_r29) (as := [.ref 53, .int 3, .int (nI o)]) (rest := []) (r1 := none) (m1 := mz_set (mz_set (mz_set (mz_set m 53 R1) 54 S1) 55 g1) 56 v1) mz_t29 mz_v29_53 rfl rfl rfl rfl rfl (E1.deep (by omega)) ?_
          refine mz_go 4 (c' := (103, [some (.ref 53), some (.int 2), some (.int (nI o)), some (.int 1), some (.int (nI k)), some (.int (tx_at T b r.2.1))], [.int 0, .int (tx_at T b r.2.1), .ref 54], mz_set (mz_set (mz_set (mz_set m 53 R1) 54 S1) 55 g1) 56 v1)) rfl ?_
          refine mz_doQ (R := mz_r56) (as := [.ref 54, .int (tx_at T b r.2.1), .int 0]) (rest := []) (r1 := none) (m1 := mz_set (mz_set (mz_set (mz_set m 53 R1) 54 (sm_upd S1 2 (nI (s + r.2.2.length + (f (r.2.1 + 1)).2.2.length) + 1))) 55 (sm_upd g1 (s + r.2.2.length + (f (r.2.1 + 1)).2.2.length) (tx_at T b r.2.1))) 56 (sm_upd v1 (s + r.2.2.length + (f (r.2.1 + 1)).2.2.length) 0)) mz_t56 mz_v56_54 rfl rfl rfl rfl rfl (EA.deep (by omega)) ?_
          refine mz_go 2 (c' := (34, [some (.ref 53), some (.int 2), some (.int (nI o)), some (.int 1), some (.int ((nI k) + 1)), some (.int (tx_at T b r.2.1))], [], mz_set (mz_set (mz_set (mz_set m 53 R1) 54 (sm_upd S1 2 (nI (s + r.2.2.length + (f (r.2.1 + 1)).2.2.length) + 1))) 55 (sm_upd g1 (s + r.2.2.length + (f (r.2.1 + 1)).2.2.length) (tx_at T b r.2.1))) 56 (sm_upd v1 (s + r.2.2.length + (f (r.2.1 + 1)).2.2.length) 0))) rfl ?_
          exact hr
        · obtain ⟨z, hz, hz2⟩ := c6
          obtain ⟨S2, g2, v2, EA, hz3⟩ := tc_add3 (m := m) (R := R1) (S := S1) (g := g1) (v := v1) hz hz2 (tx_at T b r.2.1) 0
          obtain ⟨R', S', g', v', k', o', t1, E⟩ := ih (k + 1) (by omega) ((f (r.2.1 + 1)).1, (f (r.2.1 + 1)).2.1, r.2.2 ++ (f (r.2.1 + 1)).2.2 ++ [(tx_at T b r.2.1, 0)]) R1 S2 g2 v2 hGn (tx_S_fail q1 ok2 hz3) (some (.int (tx_at T b r.2.1)))
          refine ⟨R', S', g', v', k', o', t1, fun res hr0 => ?_⟩
          have hr := E res hr0
          rw [nI_succ k] at hr
          refine mz_go 3 (c' := (if 1 ≤ (nI k) then 112 else 40, [some (.ref 53), some (.int 2), some (.int (nI o)), some (.int 1), some (.int (nI k)), o5], [], mz_set (mz_set (mz_set (mz_set m 53 R) 54 S) 55 g) 56 v)) rfl ?_
          refine mz_ifF (show ¬ (1 ≤ (nI k)) from (sm_nleN rfl rfl (show k < 1 by omega) (show 1 < 2 ^ 31 by omega))) ?_
          refine mz_go 2 (c' := (44, [some (.ref 53), some (.int 2), some (.int (nI o)), some (.int 1), some (.int (nI k)), o5], [.int (R 4)], mz_set (mz_set (mz_set (mz_set m 53 R) 54 S) 55 g) 56 v)) rfl ?_
          rw [a4]
          refine mz_go 6 (c' := (56, [some (.ref 53), some (.int 2), some (.int (nI o)), some (.int 1), some (.int (nI k)), o5], [.int (R 3), .ref 8, .int 2], mz_set (mz_set (mz_set (mz_set m 53 R) 54 S) 55 g) 56 v)) rfl ?_
          rw [a1]
          refine mz_doQ (R := mz_r54) (as := [.ref 8, .int (nI r.2.1)]) (rest := [.int 2]) (r1 := some (.int (tx_at T b r.2.1))) (m1 := mz_set (mz_set (mz_set (mz_set m 53 R) 54 S) 55 g) 56 v) mz_t54 mz_v54_8 rfl rfl rfl rfl rfl ((tc_at (m := mz_set (mz_set (mz_set (mz_set m 53 R) 54 S) 55 g) 56 v) hT h8 h9 (x := nI r.2.1) (p := r.2.1) rfl (by omega)).deep (by omega)) ?_
          refine mz_doQ (R := mz_r30) (as := [.int 2, .int (tx_at T b r.2.1)]) (rest := []) (r1 := some (.int (sm_bI (tx_joins 2 (tx_at T b r.2.1))))) (m1 := mz_set (mz_set (mz_set (mz_set m 53 R) 54 S) 55 g) 56 v) mz_t30 mz_v30 rfl rfl rfl rfl rfl ((tc_joins2 (m := mz_set (mz_set (mz_set (mz_set m 53 R) 54 S) 55 g) 56 v) (tx_at T b r.2.1)).deep (by omega)) ?_
          refine mz_go 1 (c' := (if (sm_bI (tx_joins 2 (tx_at T b r.2.1))) = 0 then 112 else 65, [some (.ref 53), some (.int 2), some (.int (nI o)), some (.int 1), some (.int (nI k)), o5], [], mz_set (mz_set (mz_set (mz_set m 53 R) 54 S) 55 g) 56 v)) rfl ?_
          refine mz_ifF hj ?_
          refine mz_go 4 (c' := (73, [some (.ref 53), some (.int 2), some (.int (nI o)), some (.int 1), some (.int (nI k)), o5], [.int (R 3), .ref 8], mz_set (mz_set (mz_set (mz_set m 53 R) 54 S) 55 g) 56 v)) rfl ?_
          rw [a1]
          refine mz_doQ (R := mz_r54) (as := [.ref 8, .int (nI r.2.1)]) (rest := []) (r1 := some (.int (tx_at T b r.2.1))) (m1 := mz_set (mz_set (mz_set (mz_set m 53 R) 54 S) 55 g) 56 v) mz_t54 mz_v54_8 rfl rfl rfl rfl rfl ((tc_at (m := mz_set (mz_set (mz_set (mz_set m 53 R) 54 S) 55 g) 56 v) hT h8 h9 (x := nI r.2.1) (p := r.2.1) rfl (by omega)).deep (by omega)) ?_
          refine mz_go 4 (c' := (83, [some (.ref 53), some (.int 2), some (.int (nI o)), some (.int 1), some (.int (nI k)), some (.int (tx_at T b r.2.1))], [.int (R 3), .ref 53], mz_set (mz_set (mz_set (mz_set m 53 R) 54 S) 55 g) 56 v)) rfl ?_
          rw [a1]
          refine mz_go 3 (c' := (88, [some (.ref 53), some (.int 2), some (.int (nI o)), some (.int 1), some (.int (nI k)), some (.int (tx_at T b r.2.1))], [], mz_up (mz_set (mz_set (mz_set (mz_set m 53 R) 54 S) 55 g) 56 v) 53 3 ((nI r.2.1) + 1))) rfl ?_
          rw [tx_up53]
          refine mz_go 5 (c' := (93, [some (.ref 53), some (.int 2), some (.int (nI o)), some (.int 1), some (.int (nI k)), some (.int (tx_at T b r.2.1))], [.int (nI o), .int 3, .ref 53], mz_set (mz_set (mz_set (mz_set m 53 (sm_upd R 3 ((nI r.2.1) + 1))) 54 S) 55 g) 56 v)) rfl ?_
          refine mz_doQ (R := mz_r29) (as := [.ref 53, .int 3, .int (nI o)]) (rest := []) (r1 := none) (m1 := mz_set (mz_set (mz_set (mz_set m 53 R1) 54 S1) 55 g1) 56 v1) mz_t29 mz_v29_53 rfl rfl rfl rfl rfl (E1.deep (by omega)) ?_
          refine mz_go 4 (c' := (103, [some (.ref 53), some (.int 2), some (.int (nI o)), some (.int 1), some (.int (nI k)), some (.int (tx_at T b r.2.1))], [.int 0, .int (tx_at T b r.2.1), .ref 54], mz_set (mz_set (mz_set (mz_set m 53 R1) 54 S1) 55 g1) 56 v1)) rfl ?_
          refine mz_doQ (R := mz_r56) (as := [.ref 54, .int (tx_at T b r.2.1), .int 0]) (rest := []) (r1 := none) (m1 := mz_set (mz_set (mz_set (mz_set m 53 R1) 54 S2) 55 g2) 56 v2) mz_t56 mz_v56_54 rfl rfl rfl rfl rfl (EA.deep (by omega)) ?_
          refine mz_go 2 (c' := (34, [some (.ref 53), some (.int 2), some (.int (nI o)), some (.int 1), some (.int ((nI k) + 1)), some (.int (tx_at T b r.2.1))], [], mz_set (mz_set (mz_set (mz_set m 53 R1) 54 S2) 55 g2) 56 v2)) rfl ?_
          exact hr
      · have hj : sm_bI (tx_joins 2 (tx_at T b r.2.1)) = 0 := by rw [eq_false_of_ne_true jn]; rfl
        rw [show tx_lp T b 2 f (j + 1) r = r from if_neg (fun z => jn z.2)]
        exact ⟨R, S, g, v, nI k, o5, hS, fun res hr => by
          refine mz_go 3 (c' := (if 1 ≤ (nI k) then 112 else 40, [some (.ref 53), some (.int 2), some (.int (nI o)), some (.int 1), some (.int (nI k)), o5], [], mz_set (mz_set (mz_set (mz_set m 53 R) 54 S) 55 g) 56 v)) rfl ?_
          refine mz_ifF (show ¬ (1 ≤ (nI k)) from (sm_nleN rfl rfl (show k < 1 by omega) (show 1 < 2 ^ 31 by omega))) ?_
          refine mz_go 2 (c' := (44, [some (.ref 53), some (.int 2), some (.int (nI o)), some (.int 1), some (.int (nI k)), o5], [.int (R 4)], mz_set (mz_set (mz_set (mz_set m 53 R) 54 S) 55 g) 56 v)) rfl ?_
          rw [a4]
          refine mz_go 6 (c' := (56, [some (.ref 53), some (.int 2), some (.int (nI o)), some (.int 1), some (.int (nI k)), o5], [.int (R 3), .ref 8, .int 2], mz_set (mz_set (mz_set (mz_set m 53 R) 54 S) 55 g) 56 v)) rfl ?_
          rw [a1]
          refine mz_doQ (R := mz_r54) (as := [.ref 8, .int (nI r.2.1)]) (rest := [.int 2]) (r1 := some (.int (tx_at T b r.2.1))) (m1 := mz_set (mz_set (mz_set (mz_set m 53 R) 54 S) 55 g) 56 v) mz_t54 mz_v54_8 rfl rfl rfl rfl rfl ((tc_at (m := mz_set (mz_set (mz_set (mz_set m 53 R) 54 S) 55 g) 56 v) hT h8 h9 (x := nI r.2.1) (p := r.2.1) rfl (by omega)).deep (by omega)) ?_
          refine mz_doQ (R := mz_r30) (as := [.int 2, .int (tx_at T b r.2.1)]) (rest := []) (r1 := some (.int (sm_bI (tx_joins 2 (tx_at T b r.2.1))))) (m1 := mz_set (mz_set (mz_set (mz_set m 53 R) 54 S) 55 g) 56 v) mz_t30 mz_v30 rfl rfl rfl rfl rfl ((tc_joins2 (m := mz_set (mz_set (mz_set (mz_set m 53 R) 54 S) 55 g) 56 v) (tx_at T b r.2.1)).deep (by omega)) ?_
          refine mz_go 1 (c' := (if (sm_bI (tx_joins 2 (tx_at T b r.2.1))) = 0 then 112 else 65, [some (.ref 53), some (.int 2), some (.int (nI o)), some (.int 1), some (.int (nI k)), o5], [], mz_set (mz_set (mz_set (mz_set m 53 R) 54 S) 55 g) 56 v)) rfl ?_
          refine mz_ifT hj ?_
          exact hr⟩
    · have a4 : R 4 = 0 := by rw [a2, eq_false_of_ne_true ok]; rfl
      rw [show tx_lp T b 2 f (j + 1) r = r from if_neg (fun z => ok z.1)]
      exact ⟨R, S, g, v, nI k, o5, hS, fun res hr => by
        refine mz_go 3 (c' := (if 1 ≤ (nI k) then 112 else 40, [some (.ref 53), some (.int 2), some (.int (nI o)), some (.int 1), some (.int (nI k)), o5], [], mz_set (mz_set (mz_set (mz_set m 53 R) 54 S) 55 g) 56 v)) rfl ?_
        refine mz_ifF (show ¬ (1 ≤ (nI k)) from (sm_nleN rfl rfl (show k < 1 by omega) (show 1 < 2 ^ 31 by omega))) ?_
        refine mz_go 2 (c' := (44, [some (.ref 53), some (.int 2), some (.int (nI o)), some (.int 1), some (.int (nI k)), o5], [.int (R 4)], mz_set (mz_set (mz_set (mz_set m 53 R) 54 S) 55 g) 56 v)) rfl ?_
        rw [a4]
        refine mz_go 1 (c' := (112, [some (.ref 53), some (.int 2), some (.int (nI o)), some (.int 1), some (.int (nI k)), o5], [], mz_set (mz_set (mz_set (mz_set m 53 R) 54 S) 55 g) 56 v)) rfl ?_
        exact hr⟩
set_option maxHeartbeats 4000000 in
set_option maxRecDepth 100000 in
theorem tc_lv2 {u T : Nat} {b : Nat → Int32} (hu : u < 3) (hT : T ≤ 60) (hb : ∀ i, i < 60 → sm_N 255 (b i)) {o D : Nat} {f : Nat → tx_R} (hG : ∀ q, q ≤ T → tx_G u T q (f q)) (hC : tx_C u T b (D + 20) mz_r29 [.ref 53, .int 3, .int (nI o)] f) : tx_C u T b (D + 22) mz_r29 [.ref 53, .int 2, .int (nI o)] (fun p => tx_lp T b 2 f 1 (f p)) := by
  intro m R S g v h8 h9 p s hsp hpT hp hg hnm hs
  obtain ⟨R1, S1, g1, v1, E1, q1⟩ := hC m R S g v h8 h9 p s hsp hpT hp hg hnm hs
  obtain ⟨R', S', g', v', k', o', t1, E⟩ := tc_lp2 hu hT hb hG hC (m := m) h8 h9 (p0 := p) (s := s) hsp (g0 := g) (v0 := v) 1 0 (by omega) (f p) R1 S1 g1 v1 (hG p hpT) q1 none
  have hr : mz_Ex (D + 22) mz_k29 (112, [some (.ref 53), some (.int 2), some (.int (nI o)), some (.int 1), some (.int k'), o'], [], mz_set (mz_set (mz_set (mz_set m 53 R') 54 S') 55 g') 56 v') (none, mz_set (mz_set (mz_set (mz_set m 53 R') 54 S') 55 g') 56 v') := by
    exact mz_ret rfl
  refine ⟨R', S', g', v', ⟨?_, rfl⟩, t1⟩
  refine mz_go 8 (c' := (16, [some (.ref 53), some (.int 2), some (.int (nI o)), none, none, none], [.int (nI o), .int 3, .ref 53], mz_set (mz_set (mz_set (mz_set m 53 R) 54 S) 55 g) 56 v)) rfl ?_
  refine mz_doQ (R := mz_r29) (as := [.ref 53, .int 3, .int (nI o)]) (rest := []) (r1 := none) (m1 := mz_set (mz_set (mz_set (mz_set m 53 R1) 54 S1) 55 g1) 56 v1) mz_t29 mz_v29_53 rfl rfl rfl rfl rfl (E1.deep (by omega)) ?_
  refine mz_go 8 (c' := (34, [some (.ref 53), some (.int 2), some (.int (nI o)), some (.int 1), some (.int 0), none], [], mz_set (mz_set (mz_set (mz_set m 53 R1) 54 S1) 55 g1) 56 v1)) rfl ?_
  exact E _ hr
set_option maxHeartbeats 4000000 in
set_option maxRecDepth 100000 in
theorem tc_lp3 {u T : Nat} {b : Nat → Int32} (hu : u < 3) (hT : T ≤ 60) (hb : ∀ i, i < 60 → sm_N 255 (b i)) {o D : Nat} {f : Nat → tx_R} (hG : ∀ q, q ≤ T → tx_G u T q (f q)) (hC : tx_C u T b (D + 20) mz_r29 [.ref 53, .int 4, .int (nI o)] f) {m : mz_M} (h8 : m 8 1 = nI T) (h9 : ∀ i, m 9 i = b i) {p0 s : Nat} (hs0 : s ≤ p0) {g0 v0 : Nat → Int32} : ∀ j k : Nat, k + j = 60 → ∀ (r : tx_R) (R S g v : Nat → Int32), tx_G u T p0 r → tx_S u r s g0 v0 R S g v → ∀ o5 : Option Value, ∃ (R' S' g' v' : Nat → Int32) (k' : Int32) (o' : Option Value), tx_S u (tx_lp T b 3 f j r) s g0 v0 R' S' g' v' ∧ ∀ res, mz_Ex (D + 22) mz_k29 (112, [some (.ref 53), some (.int 3), some (.int (nI o)), some (.int 60), some (.int k'), o'], [], mz_set (mz_set (mz_set (mz_set m 53 R') 54 S') 55 g') 56 v') res → mz_Ex (D + 22) mz_k29 (34, [some (.ref 53), some (.int 3), some (.int (nI o)), some (.int 60), some (.int (nI k)), o5], [], mz_set (mz_set (mz_set (mz_set m 53 R) 54 S) 55 g) 56 v) res := by
  intro j
  induction j with
  | zero =>
    intro k hk r R S g v hGr hS o5
    rw [show k = 60 by omega]
    exact ⟨R, S, g, v, nI 60, o5, hS, fun res hr => by
      refine mz_go 3 (c' := (if 60 ≤ (nI 60) then 112 else 40, [some (.ref 53), some (.int 3), some (.int (nI o)), some (.int 60), some (.int (nI 60)), o5], [], mz_set (mz_set (mz_set (mz_set m 53 R) 54 S) 55 g) 56 v)) rfl ?_
      refine mz_ifT (show (60 ≤ (nI 60)) from (sm_leN rfl rfl (show 60 ≤ 60 by omega) (show 60 < 2 ^ 31 by omega))) ?_
      exact hr⟩
  | succ j ih =>
    intro k hk r R S g v hGr hS o5
    have hS2 := hS
    have hGr2 := hGr
    obtain ⟨-, GT, -⟩ := hGr2
    obtain ⟨a1, a2, a3, ⟨qq, hqq, a6⟩, a5⟩ := hS2
    by_cases ok : r.1 = true
    · have a4 : R 4 = 1 := by rw [a2, ok]; rfl
      by_cases jn : tx_joins 3 (tx_at T b r.2.1) = true
      · have hj : ¬ sm_bI (tx_joins 3 (tx_at T b r.2.1)) = 0 := by rw [jn]; decide
        have hlt := tx_joins_lt jn
        obtain ⟨G1, G2, G3⟩ := hGr
        obtain ⟨G4, G5, -⟩ := G3 ok
        obtain ⟨b1, b2, b3⟩ := a5 ok
        obtain ⟨R1, S1, g1, v1, E1, q1⟩ := hC m (sm_upd R 3 ((nI r.2.1) + 1)) S g v h8 h9 (r.2.1 + 1) (s + r.2.2.length) (by omega) (by omega) (Eq.trans tx_upE (nI_succ r.2.1).symm) (Eq.trans (tx_upN (by decide)) a4) (Eq.trans (tx_upN (by decide)) a3) b1
        have q2 := q1
        obtain ⟨c1, c2, c3, c6, c5⟩ := q2
        have hG1 := hG (r.2.1 + 1) (by omega)
        have hG2 := hG1
        obtain ⟨G6, G7, G8⟩ := hG2
        have hlp : tx_lp T b 3 f (j + 1) r = tx_lp T b 3 f j ((f (r.2.1 + 1)).1, (f (r.2.1 + 1)).2.1, r.2.2 ++ (f (r.2.1 + 1)).2.2 ++ [(tx_at T b r.2.1, 0)]) := if_pos ⟨ok, jn⟩
        rw [hlp]
        have hGn : tx_G u T p0 ((f (r.2.1 + 1)).1, (f (r.2.1 + 1)).2.1, r.2.2 ++ (f (r.2.1 + 1)).2.2 ++ [(tx_at T b r.2.1, 0)]) := by
          have h := tx_lp_G (b := b) (l := 3) (f := f) hG 1 p0 r ⟨G1, G2, G3⟩
          rw [show tx_lp T b 3 f 1 r = tx_lp T b 3 f 0 ((f (r.2.1 + 1)).1, (f (r.2.1 + 1)).2.1, r.2.2 ++ (f (r.2.1 + 1)).2.2 ++ [(tx_at T b r.2.1, 0)]) from if_pos ⟨ok, jn⟩] at h
          exact h
        by_cases ok2 : (f (r.2.1 + 1)).1 = true
        · obtain ⟨d1, d2, d3⟩ := c5 ok2
          obtain ⟨G9, G10, -⟩ := G8 ok2
          have EA := tc_add2 (m := m) (R := R1) (S := S1) (g := g1) (v := v1) (s := (s + r.2.2.length + (f (r.2.1 + 1)).2.2.length)) (by omega) d1 (tx_at T b r.2.1) 0
          obtain ⟨R', S', g', v', k', o', t1, E⟩ := ih (k + 1) (by omega) ((f (r.2.1 + 1)).1, (f (r.2.1 + 1)).2.1, r.2.2 ++ (f (r.2.1 + 1)).2.2 ++ [(tx_at T b r.2.1, 0)]) R1 _ _ _ hGn (tx_S_step (c := tx_at T b r.2.1) ok hS q1 ok2 (by omega)) (some (.int (tx_at T b r.2.1)))
          refine ⟨R', S', g', v', k', o', t1, fun res hr0 => ?_⟩
          have hr := E res hr0
          rw [nI_succ k] at hr
          refine mz_go 3 (c' := (if 60 ≤ (nI k) then 112 else 40, [some (.ref 53), some (.int 3), some (.int (nI o)), some (.int 60), some (.int (nI k)), o5], [], mz_set (mz_set (mz_set (mz_set m 53 R) 54 S) 55 g) 56 v)) rfl ?_
          refine mz_ifF (show ¬ (60 ≤ (nI k)) from (sm_nleN rfl rfl (show k < 60 by omega) (show 60 < 2 ^ 31 by omega))) ?_
          refine mz_go 2 (c' := (44, [some (.ref 53), some (.int 3), some (.int (nI o)), some (.int 60), some (.int (nI k)), o5], [.int (R 4)], mz_set (mz_set (mz_set (mz_set m 53 R) 54 S) 55 g) 56 v)) rfl ?_
          rw [a4]
          refine mz_go 6 (c' := (56, [some (.ref 53), some (.int 3), some (.int (nI o)), some (.int 60), some (.int (nI k)), o5], [.int (R 3), .ref 8, .int 3], mz_set (mz_set (mz_set (mz_set m 53 R) 54 S) 55 g) 56 v)) rfl ?_
          rw [a1]
          refine mz_doQ (R := mz_r54) (as := [.ref 8, .int (nI r.2.1)]) (rest := [.int 3]) (r1 := some (.int (tx_at T b r.2.1))) (m1 := mz_set (mz_set (mz_set (mz_set m 53 R) 54 S) 55 g) 56 v) mz_t54 mz_v54_8 rfl rfl rfl rfl rfl ((tc_at (m := mz_set (mz_set (mz_set (mz_set m 53 R) 54 S) 55 g) 56 v) hT h8 h9 (x := nI r.2.1) (p := r.2.1) rfl (by omega)).deep (by omega)) ?_
          refine mz_doQ (R := mz_r30) (as := [.int 3, .int (tx_at T b r.2.1)]) (rest := []) (r1 := some (.int (sm_bI (tx_joins 3 (tx_at T b r.2.1))))) (m1 := mz_set (mz_set (mz_set (mz_set m 53 R) 54 S) 55 g) 56 v) mz_t30 mz_v30 rfl rfl rfl rfl rfl ((tc_joins3 (m := mz_set (mz_set (mz_set (mz_set m 53 R) 54 S) 55 g) 56 v) (tx_at T b r.2.1)).deep (by omega)) ?_
          refine mz_go 1 (c' := (if (sm_bI (tx_joins 3 (tx_at T b r.2.1))) = 0 then 112 else 65, [some (.ref 53), some (.int 3), some (.int (nI o)), some (.int 60), some (.int (nI k)), o5], [], mz_set (mz_set (mz_set (mz_set m 53 R) 54 S) 55 g) 56 v)) rfl ?_
          refine mz_ifF hj ?_
          refine mz_go 4 (c' := (73, [some (.ref 53), some (.int 3), some (.int (nI o)), some (.int 60), some (.int (nI k)), o5], [.int (R 3), .ref 8], mz_set (mz_set (mz_set (mz_set m 53 R) 54 S) 55 g) 56 v)) rfl ?_
          rw [a1]
          refine mz_doQ (R := mz_r54) (as := [.ref 8, .int (nI r.2.1)]) (rest := []) (r1 := some (.int (tx_at T b r.2.1))) (m1 := mz_set (mz_set (mz_set (mz_set m 53 R) 54 S) 55 g) 56 v) mz_t54 mz_v54_8 rfl rfl rfl rfl rfl ((tc_at (m := mz_set (mz_set (mz_set (mz_set m 53 R) 54 S) 55 g) 56 v) hT h8 h9 (x := nI r.2.1) (p := r.2.1) rfl (by omega)).deep (by omega)) ?_
          refine mz_go 4 (c' := (83, [some (.ref 53), some (.int 3), some (.int (nI o)), some (.int 60), some (.int (nI k)), some (.int (tx_at T b r.2.1))], [.int (R 3), .ref 53], mz_set (mz_set (mz_set (mz_set m 53 R) 54 S) 55 g) 56 v)) rfl ?_
          rw [a1]
          refine mz_go 3 (c' := (88, [some (.ref 53), some (.int 3), some (.int (nI o)), some (.int 60), some (.int (nI k)), some (.int (tx_at T b r.2.1))], [], mz_up (mz_set (mz_set (mz_set (mz_set m 53 R) 54 S) 55 g) 56 v) 53 3 ((nI r.2.1) + 1))) rfl ?_
          rw [tx_up53]
          refine mz_go 5 (c' := (93, [some (.ref 53), some (.int 3), some (.int (nI o)), some (.int 60), some (.int (nI k)), some (.int (tx_at T b r.2.1))], [.int (nI o), .int 4, .ref 53], mz_set (mz_set (mz_set (mz_set m 53 (sm_upd R 3 ((nI r.2.1) + 1))) 54 S) 55 g) 56 v)) rfl ?_
          refine mz_doQ (R := mz_r29) (as := [.ref 53, .int 4, .int (nI o)]) (rest := []) (r1 := none) (m1 := mz_set (mz_set (mz_set (mz_set m 53 R1) 54 S1) 55 g1) 56 v1) mz_t29 mz_v29_53 rfl rfl rfl rfl rfl (E1.deep (by omega)) ?_
          refine mz_go 4 (c' := (103, [some (.ref 53), some (.int 3), some (.int (nI o)), some (.int 60), some (.int (nI k)), some (.int (tx_at T b r.2.1))], [.int 0, .int (tx_at T b r.2.1), .ref 54], mz_set (mz_set (mz_set (mz_set m 53 R1) 54 S1) 55 g1) 56 v1)) rfl ?_
          refine mz_doQ (R := mz_r56) (as := [.ref 54, .int (tx_at T b r.2.1), .int 0]) (rest := []) (r1 := none) (m1 := mz_set (mz_set (mz_set (mz_set m 53 R1) 54 (sm_upd S1 2 (nI (s + r.2.2.length + (f (r.2.1 + 1)).2.2.length) + 1))) 55 (sm_upd g1 (s + r.2.2.length + (f (r.2.1 + 1)).2.2.length) (tx_at T b r.2.1))) 56 (sm_upd v1 (s + r.2.2.length + (f (r.2.1 + 1)).2.2.length) 0)) mz_t56 mz_v56_54 rfl rfl rfl rfl rfl (EA.deep (by omega)) ?_
          refine mz_go 2 (c' := (34, [some (.ref 53), some (.int 3), some (.int (nI o)), some (.int 60), some (.int ((nI k) + 1)), some (.int (tx_at T b r.2.1))], [], mz_set (mz_set (mz_set (mz_set m 53 R1) 54 (sm_upd S1 2 (nI (s + r.2.2.length + (f (r.2.1 + 1)).2.2.length) + 1))) 55 (sm_upd g1 (s + r.2.2.length + (f (r.2.1 + 1)).2.2.length) (tx_at T b r.2.1))) 56 (sm_upd v1 (s + r.2.2.length + (f (r.2.1 + 1)).2.2.length) 0))) rfl ?_
          exact hr
        · obtain ⟨z, hz, hz2⟩ := c6
          obtain ⟨S2, g2, v2, EA, hz3⟩ := tc_add3 (m := m) (R := R1) (S := S1) (g := g1) (v := v1) hz hz2 (tx_at T b r.2.1) 0
          obtain ⟨R', S', g', v', k', o', t1, E⟩ := ih (k + 1) (by omega) ((f (r.2.1 + 1)).1, (f (r.2.1 + 1)).2.1, r.2.2 ++ (f (r.2.1 + 1)).2.2 ++ [(tx_at T b r.2.1, 0)]) R1 S2 g2 v2 hGn (tx_S_fail q1 ok2 hz3) (some (.int (tx_at T b r.2.1)))
          refine ⟨R', S', g', v', k', o', t1, fun res hr0 => ?_⟩
          have hr := E res hr0
          rw [nI_succ k] at hr
          refine mz_go 3 (c' := (if 60 ≤ (nI k) then 112 else 40, [some (.ref 53), some (.int 3), some (.int (nI o)), some (.int 60), some (.int (nI k)), o5], [], mz_set (mz_set (mz_set (mz_set m 53 R) 54 S) 55 g) 56 v)) rfl ?_
          refine mz_ifF (show ¬ (60 ≤ (nI k)) from (sm_nleN rfl rfl (show k < 60 by omega) (show 60 < 2 ^ 31 by omega))) ?_
          refine mz_go 2 (c' := (44, [some (.ref 53), some (.int 3), some (.int (nI o)), some (.int 60), some (.int (nI k)), o5], [.int (R 4)], mz_set (mz_set (mz_set (mz_set m 53 R) 54 S) 55 g) 56 v)) rfl ?_
          rw [a4]
          refine mz_go 6 (c' := (56, [some (.ref 53), some (.int 3), some (.int (nI o)), some (.int 60), some (.int (nI k)), o5], [.int (R 3), .ref 8, .int 3], mz_set (mz_set (mz_set (mz_set m 53 R) 54 S) 55 g) 56 v)) rfl ?_
          rw [a1]
          refine mz_doQ (R := mz_r54) (as := [.ref 8, .int (nI r.2.1)]) (rest := [.int 3]) (r1 := some (.int (tx_at T b r.2.1))) (m1 := mz_set (mz_set (mz_set (mz_set m 53 R) 54 S) 55 g) 56 v) mz_t54 mz_v54_8 rfl rfl rfl rfl rfl ((tc_at (m := mz_set (mz_set (mz_set (mz_set m 53 R) 54 S) 55 g) 56 v) hT h8 h9 (x := nI r.2.1) (p := r.2.1) rfl (by omega)).deep (by omega)) ?_
          refine mz_doQ (R := mz_r30) (as := [.int 3, .int (tx_at T b r.2.1)]) (rest := []) (r1 := some (.int (sm_bI (tx_joins 3 (tx_at T b r.2.1))))) (m1 := mz_set (mz_set (mz_set (mz_set m 53 R) 54 S) 55 g) 56 v) mz_t30 mz_v30 rfl rfl rfl rfl rfl ((tc_joins3 (m := mz_set (mz_set (mz_set (mz_set m 53 R) 54 S) 55 g) 56 v) (tx_at T b r.2.1)).deep (by omega)) ?_
          refine mz_go 1 (c' := (if (sm_bI (tx_joins 3 (tx_at T b r.2.1))) = 0 then 112 else 65, [some (.ref 53), some (.int 3), some (.int (nI o)), some (.int 60), some (.int (nI k)), o5], [], mz_set (mz_set (mz_set (mz_set m 53 R) 54 S) 55 g) 56 v)) rfl ?_
          refine mz_ifF hj ?_
          refine mz_go 4 (c' := (73, [some (.ref 53), some (.int 3), some (.int (nI o)), some (.int 60), some (.int (nI k)), o5], [.int (R 3), .ref 8], mz_set (mz_set (mz_set (mz_set m 53 R) 54 S) 55 g) 56 v)) rfl ?_
          rw [a1]
          refine mz_doQ (R := mz_r54) (as := [.ref 8, .int (nI r.2.1)]) (rest := []) (r1 := some (.int (tx_at T b r.2.1))) (m1 := mz_set (mz_set (mz_set (mz_set m 53 R) 54 S) 55 g) 56 v) mz_t54 mz_v54_8 rfl rfl rfl rfl rfl ((tc_at (m := mz_set (mz_set (mz_set (mz_set m 53 R) 54 S) 55 g) 56 v) hT h8 h9 (x := nI r.2.1) (p := r.2.1) rfl (by omega)).deep (by omega)) ?_
          refine mz_go 4 (c' := (83, [some (.ref 53), some (.int 3), some (.int (nI o)), some (.int 60), some (.int (nI k)), some (.int (tx_at T b r.2.1))], [.int (R 3), .ref 53], mz_set (mz_set (mz_set (mz_set m 53 R) 54 S) 55 g) 56 v)) rfl ?_
          rw [a1]
          refine mz_go 3 (c' := (88, [some (.ref 53), some (.int 3), some (.int (nI o)), some (.int 60), some (.int (nI k)), some (.int (tx_at T b r.2.1))], [], mz_up (mz_set (mz_set (mz_set (mz_set m 53 R) 54 S) 55 g) 56 v) 53 3 ((nI r.2.1) + 1))) rfl ?_
          rw [tx_up53]
          refine mz_go 5 (c' := (93, [some (.ref 53), some (.int 3), some (.int (nI o)), some (.int 60), some (.int (nI k)), some (.int (tx_at T b r.2.1))], [.int (nI o), .int 4, .ref 53], mz_set (mz_set (mz_set (mz_set m 53 (sm_upd R 3 ((nI r.2.1) + 1))) 54 S) 55 g) 56 v)) rfl ?_
          refine mz_doQ (R := mz_r29) (as := [.ref 53, .int 4, .int (nI o)]) (rest := []) (r1 := none) (m1 := mz_set (mz_set (mz_set (mz_set m 53 R1) 54 S1) 55 g1) 56 v1) mz_t29 mz_v29_53 rfl rfl rfl rfl rfl (E1.deep (by omega)) ?_
          refine mz_go 4 (c' := (103, [some (.ref 53), some (.int 3), some (.int (nI o)), some (.int 60), some (.int (nI k)), some (.int (tx_at T b r.2.1))], [.int 0, .int (tx_at T b r.2.1), .ref 54], mz_set (mz_set (mz_set (mz_set m 53 R1) 54 S1) 55 g1) 56 v1)) rfl ?_
          refine mz_doQ (R := mz_r56) (as := [.ref 54, .int (tx_at T b r.2.1), .int 0]) (rest := []) (r1 := none) (m1 := mz_set (mz_set (mz_set (mz_set m 53 R1) 54 S2) 55 g2) 56 v2) mz_t56 mz_v56_54 rfl rfl rfl rfl rfl (EA.deep (by omega)) ?_
          refine mz_go 2 (c' := (34, [some (.ref 53), some (.int 3), some (.int (nI o)), some (.int 60), some (.int ((nI k) + 1)), some (.int (tx_at T b r.2.1))], [], mz_set (mz_set (mz_set (mz_set m 53 R1) 54 S2) 55 g2) 56 v2)) rfl ?_
          exact hr
      · have hj : sm_bI (tx_joins 3 (tx_at T b r.2.1)) = 0 := by rw [eq_false_of_ne_true jn]; rfl
        rw [show tx_lp T b 3 f (j + 1) r = r from if_neg (fun z => jn z.2)]
        exact ⟨R, S, g, v, nI k, o5, hS, fun res hr => by
          refine mz_go 3 (c' := (if 60 ≤ (nI k) then 112 else 40, [some (.ref 53), some (.int 3), some (.int (nI o)), some (.int 60), some (.int (nI k)), o5], [], mz_set (mz_set (mz_set (mz_set m 53 R) 54 S) 55 g) 56 v)) rfl ?_
          refine mz_ifF (show ¬ (60 ≤ (nI k)) from (sm_nleN rfl rfl (show k < 60 by omega) (show 60 < 2 ^ 31 by omega))) ?_
          refine mz_go 2 (c' := (44, [some (.ref 53), some (.int 3), some (.int (nI o)), some (.int 60), some (.int (nI k)), o5], [.int (R 4)], mz_set (mz_set (mz_set (mz_set m 53 R) 54 S) 55 g) 56 v)) rfl ?_
          rw [a4]
          refine mz_go 6 (c' := (56, [some (.ref 53), some (.int 3), some (.int (nI o)), some (.int 60), some (.int (nI k)), o5], [.int (R 3), .ref 8, .int 3], mz_set (mz_set (mz_set (mz_set m 53 R) 54 S) 55 g) 56 v)) rfl ?_
          rw [a1]
          refine mz_doQ (R := mz_r54) (as := [.ref 8, .int (nI r.2.1)]) (rest := [.int 3]) (r1 := some (.int (tx_at T b r.2.1))) (m1 := mz_set (mz_set (mz_set (mz_set m 53 R) 54 S) 55 g) 56 v) mz_t54 mz_v54_8 rfl rfl rfl rfl rfl ((tc_at (m := mz_set (mz_set (mz_set (mz_set m 53 R) 54 S) 55 g) 56 v) hT h8 h9 (x := nI r.2.1) (p := r.2.1) rfl (by omega)).deep (by omega)) ?_
          refine mz_doQ (R := mz_r30) (as := [.int 3, .int (tx_at T b r.2.1)]) (rest := []) (r1 := some (.int (sm_bI (tx_joins 3 (tx_at T b r.2.1))))) (m1 := mz_set (mz_set (mz_set (mz_set m 53 R) 54 S) 55 g) 56 v) mz_t30 mz_v30 rfl rfl rfl rfl rfl ((tc_joins3 (m := mz_set (mz_set (mz_set (mz_set m 53 R) 54 S) 55 g) 56 v) (tx_at T b r.2.1)).deep (by omega)) ?_
          refine mz_go 1 (c' := (if (sm_bI (tx_joins 3 (tx_at T b r.2.1))) = 0 then 112 else 65, [some (.ref 53), some (.int 3), some (.int (nI o)), some (.int 60), some (.int (nI k)), o5], [], mz_set (mz_set (mz_set (mz_set m 53 R) 54 S) 55 g) 56 v)) rfl ?_
          refine mz_ifT hj ?_
          exact hr⟩
    · have a4 : R 4 = 0 := by rw [a2, eq_false_of_ne_true ok]; rfl
      rw [show tx_lp T b 3 f (j + 1) r = r from if_neg (fun z => ok z.1)]
      exact ⟨R, S, g, v, nI k, o5, hS, fun res hr => by
        refine mz_go 3 (c' := (if 60 ≤ (nI k) then 112 else 40, [some (.ref 53), some (.int 3), some (.int (nI o)), some (.int 60), some (.int (nI k)), o5], [], mz_set (mz_set (mz_set (mz_set m 53 R) 54 S) 55 g) 56 v)) rfl ?_
        refine mz_ifF (show ¬ (60 ≤ (nI k)) from (sm_nleN rfl rfl (show k < 60 by omega) (show 60 < 2 ^ 31 by omega))) ?_
        refine mz_go 2 (c' := (44, [some (.ref 53), some (.int 3), some (.int (nI o)), some (.int 60), some (.int (nI k)), o5], [.int (R 4)], mz_set (mz_set (mz_set (mz_set m 53 R) 54 S) 55 g) 56 v)) rfl ?_
        rw [a4]
        refine mz_go 1 (c' := (112, [some (.ref 53), some (.int 3), some (.int (nI o)), some (.int 60), some (.int (nI k)), o5], [], mz_set (mz_set (mz_set (mz_set m 53 R) 54 S) 55 g) 56 v)) rfl ?_
        exact hr⟩
set_option maxHeartbeats 4000000 in
set_option maxRecDepth 100000 in
theorem tc_lv3 {u T : Nat} {b : Nat → Int32} (hu : u < 3) (hT : T ≤ 60) (hb : ∀ i, i < 60 → sm_N 255 (b i)) {o D : Nat} {f : Nat → tx_R} (hG : ∀ q, q ≤ T → tx_G u T q (f q)) (hC : tx_C u T b (D + 20) mz_r29 [.ref 53, .int 4, .int (nI o)] f) : tx_C u T b (D + 22) mz_r29 [.ref 53, .int 3, .int (nI o)] (fun p => tx_lp T b 3 f 60 (f p)) := by
  intro m R S g v h8 h9 p s hsp hpT hp hg hnm hs
  obtain ⟨R1, S1, g1, v1, E1, q1⟩ := hC m R S g v h8 h9 p s hsp hpT hp hg hnm hs
  obtain ⟨R', S', g', v', k', o', t1, E⟩ := tc_lp3 hu hT hb hG hC (m := m) h8 h9 (p0 := p) (s := s) hsp (g0 := g) (v0 := v) 60 0 (by omega) (f p) R1 S1 g1 v1 (hG p hpT) q1 none
  have hr : mz_Ex (D + 22) mz_k29 (112, [some (.ref 53), some (.int 3), some (.int (nI o)), some (.int 60), some (.int k'), o'], [], mz_set (mz_set (mz_set (mz_set m 53 R') 54 S') 55 g') 56 v') (none, mz_set (mz_set (mz_set (mz_set m 53 R') 54 S') 55 g') 56 v') := by
    exact mz_ret rfl
  refine ⟨R', S', g', v', ⟨?_, rfl⟩, t1⟩
  refine mz_go 8 (c' := (16, [some (.ref 53), some (.int 3), some (.int (nI o)), none, none, none], [.int (nI o), .int 4, .ref 53], mz_set (mz_set (mz_set (mz_set m 53 R) 54 S) 55 g) 56 v)) rfl ?_
  refine mz_doQ (R := mz_r29) (as := [.ref 53, .int 4, .int (nI o)]) (rest := []) (r1 := none) (m1 := mz_set (mz_set (mz_set (mz_set m 53 R1) 54 S1) 55 g1) 56 v1) mz_t29 mz_v29_53 rfl rfl rfl rfl rfl (E1.deep (by omega)) ?_
  refine mz_go 7 (c' := (34, [some (.ref 53), some (.int 3), some (.int (nI o)), some (.int 60), some (.int 0), none], [], mz_set (mz_set (mz_set (mz_set m 53 R1) 54 S1) 55 g1) 56 v1)) rfl ?_
  exact E _ hr
set_option maxHeartbeats 4000000 in
set_option maxRecDepth 100000 in
theorem tc_lp4 {u T : Nat} {b : Nat → Int32} (hu : u < 3) (hT : T ≤ 60) (hb : ∀ i, i < 60 → sm_N 255 (b i)) {o D : Nat} {f : Nat → tx_R} (hG : ∀ q, q ≤ T → tx_G u T q (f q)) (hC : tx_C u T b (D + 20) mz_r31 [.ref 53, .int (nI o)] f) {m : mz_M} (h8 : m 8 1 = nI T) (h9 : ∀ i, m 9 i = b i) {p0 s : Nat} (hs0 : s ≤ p0) {g0 v0 : Nat → Int32} : ∀ j k : Nat, k + j = 60 → ∀ (r : tx_R) (R S g v : Nat → Int32), tx_G u T p0 r → tx_S u r s g0 v0 R S g v → ∀ o5 : Option Value, ∃ (R' S' g' v' : Nat → Int32) (k' : Int32) (o' : Option Value), tx_S u (tx_lp T b 4 f j r) s g0 v0 R' S' g' v' ∧ ∀ res, mz_Ex (D + 22) mz_k29 (112, [some (.ref 53), some (.int 4), some (.int (nI o)), some (.int 60), some (.int k'), o'], [], mz_set (mz_set (mz_set (mz_set m 53 R') 54 S') 55 g') 56 v') res → mz_Ex (D + 22) mz_k29 (34, [some (.ref 53), some (.int 4), some (.int (nI o)), some (.int 60), some (.int (nI k)), o5], [], mz_set (mz_set (mz_set (mz_set m 53 R) 54 S) 55 g) 56 v) res := by
  intro j
  induction j with
  | zero =>
    intro k hk r R S g v hGr hS o5
    rw [show k = 60 by omega]
    exact ⟨R, S, g, v, nI 60, o5, hS, fun res hr => by
      refine mz_go 3 (c' := (if 60 ≤ (nI 60) then 112 else 40, [some (.ref 53), some (.int 4), some (.int (nI o)), some (.int 60), some (.int (nI 60)), o5], [], mz_set (mz_set (mz_set (mz_set m 53 R) 54 S) 55 g) 56 v)) rfl ?_
      refine mz_ifT (show (60 ≤ (nI 60)) from (sm_leN rfl rfl (show 60 ≤ 60 by omega) (show 60 < 2 ^ 31 by omega))) ?_
      exact hr⟩
  | succ j ih =>
    intro k hk r R S g v hGr hS o5
    have hS2 := hS
    have hGr2 := hGr
    obtain ⟨-, GT, -⟩ := hGr2
    obtain ⟨a1, a2, a3, ⟨qq, hqq, a6⟩, a5⟩ := hS2
    by_cases ok : r.1 = true
    · have a4 : R 4 = 1 := by rw [a2, ok]; rfl
      by_cases jn : tx_joins 4 (tx_at T b r.2.1) = true
      · have hj : ¬ sm_bI (tx_joins 4 (tx_at T b r.2.1)) = 0 := by rw [jn]; decide
        have hlt := tx_joins_lt jn
        obtain ⟨G1, G2, G3⟩ := hGr
        obtain ⟨G4, G5, -⟩ := G3 ok
        obtain ⟨b1, b2, b3⟩ := a5 ok
        obtain ⟨R1, S1, g1, v1, E1, q1⟩ := hC m (sm_upd R 3 ((nI r.2.1) + 1)) S g v h8 h9 (r.2.1 + 1) (s + r.2.2.length) (by omega) (by omega) (Eq.trans tx_upE (nI_succ r.2.1).symm) (Eq.trans (tx_upN (by decide)) a4) (Eq.trans (tx_upN (by decide)) a3) b1
        have q2 := q1
        obtain ⟨c1, c2, c3, c6, c5⟩ := q2
        have hG1 := hG (r.2.1 + 1) (by omega)
        have hG2 := hG1
        obtain ⟨G6, G7, G8⟩ := hG2
        have hlp : tx_lp T b 4 f (j + 1) r = tx_lp T b 4 f j ((f (r.2.1 + 1)).1, (f (r.2.1 + 1)).2.1, r.2.2 ++ (f (r.2.1 + 1)).2.2 ++ [(tx_at T b r.2.1, 0)]) := if_pos ⟨ok, jn⟩
        rw [hlp]
        have hGn : tx_G u T p0 ((f (r.2.1 + 1)).1, (f (r.2.1 + 1)).2.1, r.2.2 ++ (f (r.2.1 + 1)).2.2 ++ [(tx_at T b r.2.1, 0)]) := by
          have h := tx_lp_G (b := b) (l := 4) (f := f) hG 1 p0 r ⟨G1, G2, G3⟩
          rw [show tx_lp T b 4 f 1 r = tx_lp T b 4 f 0 ((f (r.2.1 + 1)).1, (f (r.2.1 + 1)).2.1, r.2.2 ++ (f (r.2.1 + 1)).2.2 ++ [(tx_at T b r.2.1, 0)]) from if_pos ⟨ok, jn⟩] at h
          exact h
        by_cases ok2 : (f (r.2.1 + 1)).1 = true
        · obtain ⟨d1, d2, d3⟩ := c5 ok2
          obtain ⟨G9, G10, -⟩ := G8 ok2
          have EA := tc_add2 (m := m) (R := R1) (S := S1) (g := g1) (v := v1) (s := (s + r.2.2.length + (f (r.2.1 + 1)).2.2.length)) (by omega) d1 (tx_at T b r.2.1) 0
          obtain ⟨R', S', g', v', k', o', t1, E⟩ := ih (k + 1) (by omega) ((f (r.2.1 + 1)).1, (f (r.2.1 + 1)).2.1, r.2.2 ++ (f (r.2.1 + 1)).2.2 ++ [(tx_at T b r.2.1, 0)]) R1 _ _ _ hGn (tx_S_step (c := tx_at T b r.2.1) ok hS q1 ok2 (by omega)) (some (.int (tx_at T b r.2.1)))
          refine ⟨R', S', g', v', k', o', t1, fun res hr0 => ?_⟩
          have hr := E res hr0
          rw [nI_succ k] at hr
          refine mz_go 3 (c' := (if 60 ≤ (nI k) then 112 else 40, [some (.ref 53), some (.int 4), some (.int (nI o)), some (.int 60), some (.int (nI k)), o5], [], mz_set (mz_set (mz_set (mz_set m 53 R) 54 S) 55 g) 56 v)) rfl ?_
          refine mz_ifF (show ¬ (60 ≤ (nI k)) from (sm_nleN rfl rfl (show k < 60 by omega) (show 60 < 2 ^ 31 by omega))) ?_
          refine mz_go 2 (c' := (44, [some (.ref 53), some (.int 4), some (.int (nI o)), some (.int 60), some (.int (nI k)), o5], [.int (R 4)], mz_set (mz_set (mz_set (mz_set m 53 R) 54 S) 55 g) 56 v)) rfl ?_
          rw [a4]
          refine mz_go 6 (c' := (56, [some (.ref 53), some (.int 4), some (.int (nI o)), some (.int 60), some (.int (nI k)), o5], [.int (R 3), .ref 8, .int 4], mz_set (mz_set (mz_set (mz_set m 53 R) 54 S) 55 g) 56 v)) rfl ?_
          rw [a1]
          refine mz_doQ (R := mz_r54) (as := [.ref 8, .int (nI r.2.1)]) (rest := [.int 4]) (r1 := some (.int (tx_at T b r.2.1))) (m1 := mz_set (mz_set (mz_set (mz_set m 53 R) 54 S) 55 g) 56 v) mz_t54 mz_v54_8 rfl rfl rfl rfl rfl ((tc_at (m := mz_set (mz_set (mz_set (mz_set m 53 R) 54 S) 55 g) 56 v) hT h8 h9 (x := nI r.2.1) (p := r.2.1) rfl (by omega)).deep (by omega)) ?_
          refine mz_doQ (R := mz_r30) (as := [.int 4, .int (tx_at T b r.2.1)]) (rest := []) (r1 := some (.int (sm_bI (tx_joins 4 (tx_at T b r.2.1))))) (m1 := mz_set (mz_set (mz_set (mz_set m 53 R) 54 S) 55 g) 56 v) mz_t30 mz_v30 rfl rfl rfl rfl rfl ((tc_joins4 (m := mz_set (mz_set (mz_set (mz_set m 53 R) 54 S) 55 g) 56 v) (tx_at T b r.2.1)).deep (by omega)) ?_
          refine mz_go 1 (c' := (if (sm_bI (tx_joins 4 (tx_at T b r.2.1))) = 0 then 112 else 65, [some (.ref 53), some (.int 4), some (.int (nI o)), some (.int 60), some (.int (nI k)), o5], [], mz_set (mz_set (mz_set (mz_set m 53 R) 54 S) 55 g) 56 v)) rfl ?_
          refine mz_ifF hj ?_
          refine mz_go 4 (c' := (73, [some (.ref 53), some (.int 4), some (.int (nI o)), some (.int 60), some (.int (nI k)), o5], [.int (R 3), .ref 8], mz_set (mz_set (mz_set (mz_set m 53 R) 54 S) 55 g) 56 v)) rfl ?_
          rw [a1]
          refine mz_doQ (R := mz_r54) (as := [.ref 8, .int (nI r.2.1)]) (rest := []) (r1 := some (.int (tx_at T b r.2.1))) (m1 := mz_set (mz_set (mz_set (mz_set m 53 R) 54 S) 55 g) 56 v) mz_t54 mz_v54_8 rfl rfl rfl rfl rfl ((tc_at (m := mz_set (mz_set (mz_set (mz_set m 53 R) 54 S) 55 g) 56 v) hT h8 h9 (x := nI r.2.1) (p := r.2.1) rfl (by omega)).deep (by omega)) ?_
          refine mz_go 4 (c' := (83, [some (.ref 53), some (.int 4), some (.int (nI o)), some (.int 60), some (.int (nI k)), some (.int (tx_at T b r.2.1))], [.int (R 3), .ref 53], mz_set (mz_set (mz_set (mz_set m 53 R) 54 S) 55 g) 56 v)) rfl ?_
          rw [a1]
          refine mz_go 3 (c' := (88, [some (.ref 53), some (.int 4), some (.int (nI o)), some (.int 60), some (.int (nI k)), some (.int (tx_at T b r.2.1))], [], mz_up (mz_set (mz_set (mz_set (mz_set m 53 R) 54 S) 55 g) 56 v) 53 3 ((nI r.2.1) + 1))) rfl ?_
          rw [tx_up53]
          refine mz_go 5 (c' := (93, [some (.ref 53), some (.int 4), some (.int (nI o)), some (.int 60), some (.int (nI k)), some (.int (tx_at T b r.2.1))], [.int (nI o), .int 5, .ref 53], mz_set (mz_set (mz_set (mz_set m 53 (sm_upd R 3 ((nI r.2.1) + 1))) 54 S) 55 g) 56 v)) rfl ?_
          refine mz_doQ (R := mz_r29) (as := [.ref 53, .int 5, .int (nI o)]) (rest := []) (r1 := none) (m1 := mz_set (mz_set (mz_set (mz_set m 53 R1) 54 S1) 55 g1) 56 v1) mz_t29 mz_v29_53 rfl rfl rfl rfl rfl ⟨?_, rfl⟩ ?_
          · refine mz_go 5 (c' := (7, [some (.ref 53), some (.int 5), some (.int (nI o)), none, none, none], [.int (nI o), .ref 53], mz_set (mz_set (mz_set (mz_set m 53 (sm_upd R 3 ((nI r.2.1) + 1))) 54 S) 55 g) 56 v)) rfl ?_
            refine mz_doQ (R := mz_r31) (as := [.ref 53, .int (nI o)]) (rest := []) (r1 := none) (m1 := mz_set (mz_set (mz_set (mz_set m 53 R1) 54 S1) 55 g1) 56 v1) mz_t31 mz_v31_53 rfl rfl rfl rfl rfl (E1.deep (by omega)) ?_
            exact mz_ret rfl
          refine mz_go 4 (c' := (103, [some (.ref 53), some (.int 4), some (.int (nI o)), some (.int 60), some (.int (nI k)), some (.int (tx_at T b r.2.1))], [.int 0, .int (tx_at T b r.2.1), .ref 54], mz_set (mz_set (mz_set (mz_set m 53 R1) 54 S1) 55 g1) 56 v1)) rfl ?_
          refine mz_doQ (R := mz_r56) (as := [.ref 54, .int (tx_at T b r.2.1), .int 0]) (rest := []) (r1 := none) (m1 := mz_set (mz_set (mz_set (mz_set m 53 R1) 54 (sm_upd S1 2 (nI (s + r.2.2.length + (f (r.2.1 + 1)).2.2.length) + 1))) 55 (sm_upd g1 (s + r.2.2.length + (f (r.2.1 + 1)).2.2.length) (tx_at T b r.2.1))) 56 (sm_upd v1 (s + r.2.2.length + (f (r.2.1 + 1)).2.2.length) 0)) mz_t56 mz_v56_54 rfl rfl rfl rfl rfl (EA.deep (by omega)) ?_
          refine mz_go 2 (c' := (34, [some (.ref 53), some (.int 4), some (.int (nI o)), some (.int 60), some (.int ((nI k) + 1)), some (.int (tx_at T b r.2.1))], [], mz_set (mz_set (mz_set (mz_set m 53 R1) 54 (sm_upd S1 2 (nI (s + r.2.2.length + (f (r.2.1 + 1)).2.2.length) + 1))) 55 (sm_upd g1 (s + r.2.2.length + (f (r.2.1 + 1)).2.2.length) (tx_at T b r.2.1))) 56 (sm_upd v1 (s + r.2.2.length + (f (r.2.1 + 1)).2.2.length) 0))) rfl ?_
          exact hr
        · obtain ⟨z, hz, hz2⟩ := c6
          obtain ⟨S2, g2, v2, EA, hz3⟩ := tc_add3 (m := m) (R := R1) (S := S1) (g := g1) (v := v1) hz hz2 (tx_at T b r.2.1) 0
          obtain ⟨R', S', g', v', k', o', t1, E⟩ := ih (k + 1) (by omega) ((f (r.2.1 + 1)).1, (f (r.2.1 + 1)).2.1, r.2.2 ++ (f (r.2.1 + 1)).2.2 ++ [(tx_at T b r.2.1, 0)]) R1 S2 g2 v2 hGn (tx_S_fail q1 ok2 hz3) (some (.int (tx_at T b r.2.1)))
          refine ⟨R', S', g', v', k', o', t1, fun res hr0 => ?_⟩
          have hr := E res hr0
          rw [nI_succ k] at hr
          refine mz_go 3 (c' := (if 60 ≤ (nI k) then 112 else 40, [some (.ref 53), some (.int 4), some (.int (nI o)), some (.int 60), some (.int (nI k)), o5], [], mz_set (mz_set (mz_set (mz_set m 53 R) 54 S) 55 g) 56 v)) rfl ?_
          refine mz_ifF (show ¬ (60 ≤ (nI k)) from (sm_nleN rfl rfl (show k < 60 by omega) (show 60 < 2 ^ 31 by omega))) ?_
          refine mz_go 2 (c' := (44, [some (.ref 53), some (.int 4), some (.int (nI o)), some (.int 60), some (.int (nI k)), o5], [.int (R 4)], mz_set (mz_set (mz_set (mz_set m 53 R) 54 S) 55 g) 56 v)) rfl ?_
          rw [a4]
          refine mz_go 6 (c' := (56, [some (.ref 53), some (.int 4), some (.int (nI o)), some (.int 60), some (.int (nI k)), o5], [.int (R 3), .ref 8, .int 4], mz_set (mz_set (mz_set (mz_set m 53 R) 54 S) 55 g) 56 v)) rfl ?_
          rw [a1]
          refine mz_doQ (R := mz_r54) (as := [.ref 8, .int (nI r.2.1)]) (rest := [.int 4]) (r1 := some (.int (tx_at T b r.2.1))) (m1 := mz_set (mz_set (mz_set (mz_set m 53 R) 54 S) 55 g) 56 v) mz_t54 mz_v54_8 rfl rfl rfl rfl rfl ((tc_at (m := mz_set (mz_set (mz_set (mz_set m 53 R) 54 S) 55 g) 56 v) hT h8 h9 (x := nI r.2.1) (p := r.2.1) rfl (by omega)).deep (by omega)) ?_
          refine mz_doQ (R := mz_r30) (as := [.int 4, .int (tx_at T b r.2.1)]) (rest := []) (r1 := some (.int (sm_bI (tx_joins 4 (tx_at T b r.2.1))))) (m1 := mz_set (mz_set (mz_set (mz_set m 53 R) 54 S) 55 g) 56 v) mz_t30 mz_v30 rfl rfl rfl rfl rfl ((tc_joins4 (m := mz_set (mz_set (mz_set (mz_set m 53 R) 54 S) 55 g) 56 v) (tx_at T b r.2.1)).deep (by omega)) ?_
          refine mz_go 1 (c' := (if (sm_bI (tx_joins 4 (tx_at T b r.2.1))) = 0 then 112 else 65, [some (.ref 53), some (.int 4), some (.int (nI o)), some (.int 60), some (.int (nI k)), o5], [], mz_set (mz_set (mz_set (mz_set m 53 R) 54 S) 55 g) 56 v)) rfl ?_
          refine mz_ifF hj ?_
          refine mz_go 4 (c' := (73, [some (.ref 53), some (.int 4), some (.int (nI o)), some (.int 60), some (.int (nI k)), o5], [.int (R 3), .ref 8], mz_set (mz_set (mz_set (mz_set m 53 R) 54 S) 55 g) 56 v)) rfl ?_
          rw [a1]
          refine mz_doQ (R := mz_r54) (as := [.ref 8, .int (nI r.2.1)]) (rest := []) (r1 := some (.int (tx_at T b r.2.1))) (m1 := mz_set (mz_set (mz_set (mz_set m 53 R) 54 S) 55 g) 56 v) mz_t54 mz_v54_8 rfl rfl rfl rfl rfl ((tc_at (m := mz_set (mz_set (mz_set (mz_set m 53 R) 54 S) 55 g) 56 v) hT h8 h9 (x := nI r.2.1) (p := r.2.1) rfl (by omega)).deep (by omega)) ?_
          refine mz_go 4 (c' := (83, [some (.ref 53), some (.int 4), some (.int (nI o)), some (.int 60), some (.int (nI k)), some (.int (tx_at T b r.2.1))], [.int (R 3), .ref 53], mz_set (mz_set (mz_set (mz_set m 53 R) 54 S) 55 g) 56 v)) rfl ?_
          rw [a1]
          refine mz_go 3 (c' := (88, [some (.ref 53), some (.int 4), some (.int (nI o)), some (.int 60), some (.int (nI k)), some (.int (tx_at T b r.2.1))], [], mz_up (mz_set (mz_set (mz_set (mz_set m 53 R) 54 S) 55 g) 56 v) 53 3 ((nI r.2.1) + 1))) rfl ?_
          rw [tx_up53]
          refine mz_go 5 (c' := (93, [some (.ref 53), some (.int 4), some (.int (nI o)), some (.int 60), some (.int (nI k)), some (.int (tx_at T b r.2.1))], [.int (nI o), .int 5, .ref 53], mz_set (mz_set (mz_set (mz_set m 53 (sm_upd R 3 ((nI r.2.1) + 1))) 54 S) 55 g) 56 v)) rfl ?_
          refine mz_doQ (R := mz_r29) (as := [.ref 53, .int 5, .int (nI o)]) (rest := []) (r1 := none) (m1 := mz_set (mz_set (mz_set (mz_set m 53 R1) 54 S1) 55 g1) 56 v1) mz_t29 mz_v29_53 rfl rfl rfl rfl rfl ⟨?_, rfl⟩ ?_
          · refine mz_go 5 (c' := (7, [some (.ref 53), some (.int 5), some (.int (nI o)), none, none, none], [.int (nI o), .ref 53], mz_set (mz_set (mz_set (mz_set m 53 (sm_upd R 3 ((nI r.2.1) + 1))) 54 S) 55 g) 56 v)) rfl ?_
            refine mz_doQ (R := mz_r31) (as := [.ref 53, .int (nI o)]) (rest := []) (r1 := none) (m1 := mz_set (mz_set (mz_set (mz_set m 53 R1) 54 S1) 55 g1) 56 v1) mz_t31 mz_v31_53 rfl rfl rfl rfl rfl (E1.deep (by omega)) ?_
            exact mz_ret rfl
          refine mz_go 4 (c' := (103, [some (.ref 53), some (.int 4), some (.int (nI o)), some (.int 60), some (.int (nI k)), some (.int (tx_at T b r.2.1))], [.int 0, .int (tx_at T b r.2.1), .ref 54], mz_set (mz_set (mz_set (mz_set m 53 R1) 54 S1) 55 g1) 56 v1)) rfl ?_
          refine mz_doQ (R := mz_r56) (as := [.ref 54, .int (tx_at T b r.2.1), .int 0]) (rest := []) (r1 := none) (m1 := mz_set (mz_set (mz_set (mz_set m 53 R1) 54 S2) 55 g2) 56 v2) mz_t56 mz_v56_54 rfl rfl rfl rfl rfl (EA.deep (by omega)) ?_
          refine mz_go 2 (c' := (34, [some (.ref 53), some (.int 4), some (.int (nI o)), some (.int 60), some (.int ((nI k) + 1)), some (.int (tx_at T b r.2.1))], [], mz_set (mz_set (mz_set (mz_set m 53 R1) 54 S2) 55 g2) 56 v2)) rfl ?_
          exact hr
      · have hj : sm_bI (tx_joins 4 (tx_at T b r.2.1)) = 0 := by rw [eq_false_of_ne_true jn]; rfl
        rw [show tx_lp T b 4 f (j + 1) r = r from if_neg (fun z => jn z.2)]
        exact ⟨R, S, g, v, nI k, o5, hS, fun res hr => by
          refine mz_go 3 (c' := (if 60 ≤ (nI k) then 112 else 40, [some (.ref 53), some (.int 4), some (.int (nI o)), some (.int 60), some (.int (nI k)), o5], [], mz_set (mz_set (mz_set (mz_set m 53 R) 54 S) 55 g) 56 v)) rfl ?_
          refine mz_ifF (show ¬ (60 ≤ (nI k)) from (sm_nleN rfl rfl (show k < 60 by omega) (show 60 < 2 ^ 31 by omega))) ?_
          refine mz_go 2 (c' := (44, [some (.ref 53), some (.int 4), some (.int (nI o)), some (.int 60), some (.int (nI k)), o5], [.int (R 4)], mz_set (mz_set (mz_set (mz_set m 53 R) 54 S) 55 g) 56 v)) rfl ?_
          rw [a4]
          refine mz_go 6 (c' := (56, [some (.ref 53), some (.int 4), some (.int (nI o)), some (.int 60), some (.int (nI k)), o5], [.int (R 3), .ref 8, .int 4], mz_set (mz_set (mz_set (mz_set m 53 R) 54 S) 55 g) 56 v)) rfl ?_
          rw [a1]
          refine mz_doQ (R := mz_r54) (as := [.ref 8, .int (nI r.2.1)]) (rest := [.int 4]) (r1 := some (.int (tx_at T b r.2.1))) (m1 := mz_set (mz_set (mz_set (mz_set m 53 R) 54 S) 55 g) 56 v) mz_t54 mz_v54_8 rfl rfl rfl rfl rfl ((tc_at (m := mz_set (mz_set (mz_set (mz_set m 53 R) 54 S) 55 g) 56 v) hT h8 h9 (x := nI r.2.1) (p := r.2.1) rfl (by omega)).deep (by omega)) ?_
          refine mz_doQ (R := mz_r30) (as := [.int 4, .int (tx_at T b r.2.1)]) (rest := []) (r1 := some (.int (sm_bI (tx_joins 4 (tx_at T b r.2.1))))) (m1 := mz_set (mz_set (mz_set (mz_set m 53 R) 54 S) 55 g) 56 v) mz_t30 mz_v30 rfl rfl rfl rfl rfl ((tc_joins4 (m := mz_set (mz_set (mz_set (mz_set m 53 R) 54 S) 55 g) 56 v) (tx_at T b r.2.1)).deep (by omega)) ?_
          refine mz_go 1 (c' := (if (sm_bI (tx_joins 4 (tx_at T b r.2.1))) = 0 then 112 else 65, [some (.ref 53), some (.int 4), some (.int (nI o)), some (.int 60), some (.int (nI k)), o5], [], mz_set (mz_set (mz_set (mz_set m 53 R) 54 S) 55 g) 56 v)) rfl ?_
          refine mz_ifT hj ?_
          exact hr⟩
    · have a4 : R 4 = 0 := by rw [a2, eq_false_of_ne_true ok]; rfl
      rw [show tx_lp T b 4 f (j + 1) r = r from if_neg (fun z => ok z.1)]
      exact ⟨R, S, g, v, nI k, o5, hS, fun res hr => by
        refine mz_go 3 (c' := (if 60 ≤ (nI k) then 112 else 40, [some (.ref 53), some (.int 4), some (.int (nI o)), some (.int 60), some (.int (nI k)), o5], [], mz_set (mz_set (mz_set (mz_set m 53 R) 54 S) 55 g) 56 v)) rfl ?_
        refine mz_ifF (show ¬ (60 ≤ (nI k)) from (sm_nleN rfl rfl (show k < 60 by omega) (show 60 < 2 ^ 31 by omega))) ?_
        refine mz_go 2 (c' := (44, [some (.ref 53), some (.int 4), some (.int (nI o)), some (.int 60), some (.int (nI k)), o5], [.int (R 4)], mz_set (mz_set (mz_set (mz_set m 53 R) 54 S) 55 g) 56 v)) rfl ?_
        rw [a4]
        refine mz_go 1 (c' := (112, [some (.ref 53), some (.int 4), some (.int (nI o)), some (.int 60), some (.int (nI k)), o5], [], mz_set (mz_set (mz_set (mz_set m 53 R) 54 S) 55 g) 56 v)) rfl ?_
        exact hr⟩
set_option maxHeartbeats 4000000 in
set_option maxRecDepth 100000 in
theorem tc_lv4 {u T : Nat} {b : Nat → Int32} (hu : u < 3) (hT : T ≤ 60) (hb : ∀ i, i < 60 → sm_N 255 (b i)) {o D : Nat} {f : Nat → tx_R} (hG : ∀ q, q ≤ T → tx_G u T q (f q)) (hC : tx_C u T b (D + 20) mz_r31 [.ref 53, .int (nI o)] f) : tx_C u T b (D + 22) mz_r29 [.ref 53, .int 4, .int (nI o)] (fun p => tx_lp T b 4 f 60 (f p)) := by
  intro m R S g v h8 h9 p s hsp hpT hp hg hnm hs
  obtain ⟨R1, S1, g1, v1, E1, q1⟩ := hC m R S g v h8 h9 p s hsp hpT hp hg hnm hs
  obtain ⟨R', S', g', v', k', o', t1, E⟩ := tc_lp4 hu hT hb hG hC (m := m) h8 h9 (p0 := p) (s := s) hsp (g0 := g) (v0 := v) 60 0 (by omega) (f p) R1 S1 g1 v1 (hG p hpT) q1 none
  have hr : mz_Ex (D + 22) mz_k29 (112, [some (.ref 53), some (.int 4), some (.int (nI o)), some (.int 60), some (.int k'), o'], [], mz_set (mz_set (mz_set (mz_set m 53 R') 54 S') 55 g') 56 v') (none, mz_set (mz_set (mz_set (mz_set m 53 R') 54 S') 55 g') 56 v') := by
    exact mz_ret rfl
  refine ⟨R', S', g', v', ⟨?_, rfl⟩, t1⟩
  refine mz_go 8 (c' := (16, [some (.ref 53), some (.int 4), some (.int (nI o)), none, none, none], [.int (nI o), .int 5, .ref 53], mz_set (mz_set (mz_set (mz_set m 53 R) 54 S) 55 g) 56 v)) rfl ?_
  refine mz_doQ (R := mz_r29) (as := [.ref 53, .int 5, .int (nI o)]) (rest := []) (r1 := none) (m1 := mz_set (mz_set (mz_set (mz_set m 53 R1) 54 S1) 55 g1) 56 v1) mz_t29 mz_v29_53 rfl rfl rfl rfl rfl ⟨?_, rfl⟩ ?_
  · refine mz_go 5 (c' := (7, [some (.ref 53), some (.int 5), some (.int (nI o)), none, none, none], [.int (nI o), .ref 53], mz_set (mz_set (mz_set (mz_set m 53 R) 54 S) 55 g) 56 v)) rfl ?_
    refine mz_doQ (R := mz_r31) (as := [.ref 53, .int (nI o)]) (rest := []) (r1 := none) (m1 := mz_set (mz_set (mz_set (mz_set m 53 R1) 54 S1) 55 g1) 56 v1) mz_t31 mz_v31_53 rfl rfl rfl rfl rfl (E1.deep (by omega)) ?_
    exact mz_ret rfl
  refine mz_go 7 (c' := (34, [some (.ref 53), some (.int 4), some (.int (nI o)), some (.int 60), some (.int 0), none], [], mz_set (mz_set (mz_set (mz_set m 53 R1) 54 S1) 55 g1) 56 v1)) rfl ?_
  exact E _ hr
theorem tx_C_deep {u T : Nat} {b : Nat → Int32} {D D' : Nat} {K : mz_R} {as : List Value} {f : Nat → tx_R} (h : tx_C u T b D K as f) (hd : D ≤ D') : tx_C u T b D' K as f := by
  intro m R S g v h8 h9 p s hsp hpT hp hg hnm hs
  obtain ⟨R', S', g', v', E, q⟩ := h m R S g v h8 h9 p s hsp hpT hp hg hnm hs
  exact ⟨R', S', g', v', E.deep hd, q⟩
theorem tc_all {u T : Nat} {b : Nat → Int32} (hu : u < 3) (hT : T ≤ 60) (hb : ∀ i, i < 60 → sm_N 255 (b i)) : ∀ n : Nat, (∀ o, o ≤ 5 → (5 - o) * 6 + 1 ≤ n → tx_C u T b (2 * n + 20) mz_r31 [.ref 53, .int (nI o)] (tx_rd u T b n 5 o)) ∧ (∀ l o, l < 5 → o ≤ 5 → (5 - o) * 6 + (6 - l) ≤ n → tx_C u T b (2 * n + 20) mz_r29 [.ref 53, .int (nI l), .int (nI o)] (tx_rd u T b n l o)) := by
  intro n
  induction n with
  | zero => exact ⟨fun o h1 h2 => absurd h2 (by omega), fun l o h0 h1 h2 => absurd h2 (by omega)⟩
  | succ n ih =>
    have hG : ∀ l o q, q ≤ T → tx_G u T q (tx_rd u T b n l o q) := fun l o q hq => tx_rd_G hu n l o q hq
    constructor
    · intro o h1 h2
      have e : tx_rd u T b (n + 1) 5 o = fun p => tx_op u T b o p (tx_rd u T b n 0 (o + 1)) (tx_rd u T b n 5 (o + 1)) := by
        funext p
        rw [tx_rd, if_neg (by decide)]
      rw [e]
      refine tx_C_deep (tc_op (D := 2 * n) hu hT hb h1 (hG 0 (o + 1)) (hG 5 (o + 1)) (fun ho => ?_) (fun ho => ?_)) (by omega)
      · have h := ih.2 0 (o + 1) (by decide) (by omega) (by omega)
        rw [nI_succ o] at h
        exact h
      · have h := ih.1 (o + 1) (by omega) (by omega)
        rw [nI_succ o] at h
        exact h
    · intro l o h0 h1 h2
      have e : tx_rd u T b (n + 1) l o = fun p => tx_lp T b l (tx_rd u T b n (l + 1) o) (tx_most l) (tx_rd u T b n (l + 1) o p) := by
        funext p
        rw [tx_rd, if_pos h0]
      rw [e]
      rcases (show l = 0 ∨ l = 1 ∨ l = 2 ∨ l = 3 ∨ l = 4 by omega) with rfl | rfl | rfl | rfl | rfl
      · exact tc_lv0 (D := 2 * n) hu hT hb (hG 1 o) (ih.2 1 o (by decide) h1 (by omega))
      · exact tc_lv1 (D := 2 * n) hu hT hb (hG 2 o) (ih.2 2 o (by decide) h1 (by omega))
      · exact tc_lv2 (D := 2 * n) hu hT hb (hG 3 o) (ih.2 3 o (by decide) h1 (by omega))
      · exact tc_lv3 (D := 2 * n) hu hT hb (hG 4 o) (ih.2 4 o (by decide) h1 (by omega))
      · exact tc_lv4 (D := 2 * n) hu hT hb (hG 5 o) (ih.1 o h1 (by omega))
