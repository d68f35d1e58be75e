/-! texts read: the reference's rows -/
noncomputable def tx_ir (ch : Nat → Int32) (L : List (Int32 × Int32)) (s : Nat) (st : Nat → Int32) : Prop := ∀ i, i < L.length → sm_lk ch (L.getD i (0, 0)).1 (L.getD i (0, 0)).2 (st (2 * (s + i))) (st (2 * (s + i) + 1))
theorem tx_ir_app {ch : Nat → Int32} {L M : List (Int32 × Int32)} {s : Nat} {g : Nat → Int32} (h1 : tx_ir ch L s g) (h2 : tx_ir ch M (s + L.length) g) : tx_ir ch (L ++ M) s g := by
  intro i hi
  rw [List.length_append] at hi
  rw [List.getD_eq_getElem?_getD]
  by_cases e : i < L.length
  · rw [List.getElem?_append_left e, ← List.getD_eq_getElem?_getD]
    exact h1 i e
  · rw [List.getElem?_append_right (by omega), ← List.getD_eq_getElem?_getD]
    have := h2 (i - L.length) (by omega)
    rw [show s + L.length + (i - L.length) = s + i by omega] at this
    exact this
theorem tx_ir_keep {ch : Nat → Int32} {L : List (Int32 × Int32)} {s : Nat} {g g' : Nat → Int32} (h : tx_ir ch L s g) (k : ∀ i, i < 2 * (s + L.length) → g' i = g i) : tx_ir ch L s g' := fun i hi => by
  rw [k (2 * (s + i)) (by omega), k (2 * (s + i) + 1) (by omega)]
  exact h i hi
theorem tx_ir_one {ch : Nat → Int32} {s : Nat} {g : Nat → Int32} {a c : Int32} (h1 : sm_lk ch a c (g (2 * s)) (g (2 * s + 1))) : tx_ir ch [(a, c)] s g := by
  intro i hi
  have hi2 : i < 1 := hi
  obtain rfl : i = 0 := by omega
  exact h1
noncomputable def tx_T (u o : Nat) (ch : Nat → Int32) (r : tx_R) (s : Nat) (x0 g x' g' : Nat → Int32) : Prop := x' 9 = nI r.2.1 ∧ (∀ k, k ≠ 9 → k ≠ 10 → k ≠ 11 → x' k = x0 k) ∧ (r.1 = true → x' 10 = nI o ∧ x' 11 = nI (s + r.2.2.length) ∧ tx_ir ch r.2.2 s g' ∧ ∀ i, i < 2 * s → g' i = g i)
noncomputable def tx_D (u T : Nat) (b ch : Nat → Int32) (D : Nat) (K : mz_R) (o : Nat) (f : Nat → tx_R) : Prop := ∀ (m : mz_M) (x g : Nat → Int32), m 66 1 = nI T → (∀ i, i < 60 → m 66 (550 + i) = b i) → ∀ p s, s ≤ p → p ≤ T → x 9 = nI p → x 10 = nI o → x 11 = nI s → x 12 = nI u → ∃ x' g', mz_Me D K [.ref 65] (mz_set (mz_set m 65 x) 69 g) (some (.int (sm_bI (f p).1))) (mz_set (mz_set m 65 x') 69 g') ∧ tx_T u o ch (f p) s x g x' g'
theorem tx_up65 {m : mz_M} {x g : Nat → Int32} {k : Nat} {v : Int32} : mz_up (mz_set (mz_set m 65 x) 69 g) 65 k v = mz_set (mz_set m 65 (sm_upd x k v)) 69 g := by
  have e : (mz_up (mz_set (mz_set m 65 x) 69 g) 65 k v) 65 = sm_upd x k v := by rw [sm_up_row, mz_set_ne (show (65 : Nat) ≠ 69 by decide), mz_set_eq]
  have h := sm_of2 (m := m) (m' := mz_up (mz_set (mz_set m 65 x) 69 g) 65 k v) (a := 65) (b := 69) (fun i h1 h2 => by simp only [mz_up_ne h1, mz_set_ne h1, mz_set_ne h2])
  rw [e] at h
  exact h
theorem tx_up69 {m : mz_M} {x g : Nat → Int32} {k : Nat} {v : Int32} : mz_up (mz_set (mz_set m 65 x) 69 g) 69 k v = mz_set (mz_set m 65 x) 69 (sm_upd g k v) := by
  have e : (mz_up (mz_set (mz_set m 65 x) 69 g) 69 k v) 69 = sm_upd g k v := by rw [sm_up_row, mz_set_eq]
  have h := sm_of2 (m := m) (m' := mz_up (mz_set (mz_set m 65 x) 69 g) 69 k v) (a := 65) (b := 69) (fun i h1 h2 => by simp only [mz_up_ne h2, mz_set_ne h1, mz_set_ne h2])
  rw [e] at h
  exact h
/-- laid behind what is laid -/
noncomputable def tx_ly (g : Nat → Int32) (s : Nat) (a c : Int32) : Nat → Int32 := sm_upd (sm_upd g (2 * s) a) (2 * s + 1) c
theorem tx_ly_lk {ch g : Nat → Int32} {s : Nat} {a c p q : Int32} (h : sm_lk ch p q a c) : tx_ir ch [(p, q)] s (tx_ly g s a c) := tx_ir_one (by
  unfold tx_ly sm_upd
  rw [if_neg (show ¬ 2 * s = 2 * s + 1 by omega), if_pos rfl, if_pos rfl]
  exact h)
theorem tx_ly_keep {g : Nat → Int32} {s i : Nat} {a c : Int32} (h : i < 2 * s) : tx_ly g s a c i = g i := by
  unfold tx_ly sm_upd
  rw [if_neg (show ¬ i = 2 * s + 1 by omega), if_neg (show ¬ i = 2 * s by omega)]
theorem sm_lk_sgn {ch : Nat → Int32} {c v : Int32} (h : sm_sgn c = true) : sm_lk ch c v 3 c := by
  obtain ⟨n0, n1, n33, -⟩ := sm_sgn_ne h
  exact ⟨fun e => absurd e n0, fun e => absurd e n1, fun e => absurd e n33, fun _ => ⟨rfl, rfl⟩⟩
theorem sm_lk_not {ch : Nat → Int32} {v c : Int32} : sm_lk ch 33 v 2 c := ⟨fun e => absurd e (by decide), fun e => absurd e (by decide), fun _ => rfl, fun e => absurd e (by decide)⟩
theorem sm_lk_num {ch : Nat → Int32} {v : Int32} : sm_lk ch 0 v 0 v := ⟨fun _ => ⟨rfl, rfl⟩, fun e => absurd e (by decide), fun e => absurd e (by decide), fun e => absurd e (by decide)⟩
theorem sm_lk_nm {ch : Nat → Int32} {j : Nat} {c : Int32} (hj : j < 5) (h : c = ch j) : sm_lk ch 1 (nI j) 1 c := ⟨fun e => absurd e (by decide), fun _ => ⟨rfl, by rw [nI_clamp (by omega)]; exact h⟩, fun e => absurd e (by decide), fun e => absurd e (by decide)⟩
theorem tx_T_step {u o o' : Nat} {ch : Nat → Int32} {r q : tx_R} {s : Nat} {x0 g0 x g y x1 g1 : Nat → Int32} {c a1 a2 : Int32} {P : Nat} (ok : r.1 = true) (h : tx_T u o ch r s x0 g0 x g) (hy : ∀ k, k ≠ 9 → k ≠ 10 → k ≠ 11 → y k = x k) (h1 : tx_T u o' ch q (s + r.2.2.length) y g x1 g1) (ok2 : q.1 = true) (hk : sm_lk ch c 0 a1 a2) {x2 : Nat → Int32} (h9 : x2 9 = nI P) (hP : P = q.2.1) (h10 : x2 10 = nI o) (h11 : x2 11 = nI (s + r.2.2.length + q.2.2.length) + 1) (h12 : ∀ k, k ≠ 9 → k ≠ 10 → k ≠ 11 → x2 k = x1 k) : tx_T u o ch (q.1, q.2.1, r.2.2 ++ q.2.2 ++ [(c, 0)]) s x0 g0 x2 (tx_ly g1 (s + r.2.2.length + q.2.2.length) a1 a2) := by
  obtain ⟨-, b2, b3⟩ := h
  obtain ⟨-, b5, b6⟩ := b3 ok
  obtain ⟨-, c2, c3⟩ := h1
  obtain ⟨-, -, c5, c6⟩ := c3 ok2
  refine ⟨hP ▸ h9, fun k h1 h2 h3 => ?_, fun _ => ⟨h10, ?_, ?_, fun i hi => ?_⟩⟩
  · rw [h12 k h1 h2 h3, c2 k h1 h2 h3, hy k h1 h2 h3, b2 k h1 h2 h3]
  · rw [h11]
    show nI _ + 1 = nI (s + (r.2.2 ++ q.2.2 ++ [(c, 0)]).length)
    rw [List.length_append, List.length_append]
    exact (nI_succ _).symm.trans (congrArg nI (by
      show s + r.2.2.length + q.2.2.length + 1 = s + (r.2.2.length + q.2.2.length + 1)
      omega))
  · show tx_ir ch (r.2.2 ++ q.2.2 ++ [(c, 0)]) s _
    refine tx_ir_app (tx_ir_app ?_ ?_) ?_
    · exact tx_ir_keep (tx_ir_keep b6.1 (fun i hi => c6 i hi)) (fun i hi => tx_ly_keep (by omega))
    · exact tx_ir_keep c5 (fun i hi => tx_ly_keep hi)
    · rw [List.length_append, ← Nat.add_assoc]
      exact tx_ly_lk hk
  · rw [tx_ly_keep (by omega), c6 i (by omega)]
    exact b6.2 i hi
theorem tx_T_fail {u o o' : Nat} {ch : Nat → Int32} {q : tx_R} {s s1 : Nat} {L : List (Int32 × Int32)} {x0 g0 y g x1 g1 : Nat → Int32} (hy : ∀ k, k ≠ 9 → k ≠ 10 → k ≠ 11 → y k = x0 k) (h1 : tx_T u o' ch q s1 y g x1 g1) (ok2 : ¬ q.1 = true) : tx_T u o ch (q.1, q.2.1, L) s x0 g0 x1 g1 :=
  ⟨h1.1, fun k a b c => (h1.2.1 k a b c).trans (hy k a b c), fun h => absurd h ok2⟩
noncomputable def tx_ch (u : Nat) : Nat → Int32 := if u = 0 then sm_ch0 else if u = 1 then sm_ch1 else sm_ch2
set_option maxHeartbeats 4000000 in
set_option maxRecDepth 100000 in
theorem tr_look {m : mz_M} {T : Nat} {b : Nat → Int32} (hT : T ≤ 60) (k1 : m 66 1 = nI T) (k2 : ∀ i, i < 60 → m 66 (550 + i) = b i) {p : Nat} (hx : m 65 9 = nI p) (hp : p ≤ 60) : mz_Me 5 mz_r159 [.ref 65] m (some (.int (tx_at T b p))) m := by
  unfold tx_at
  by_cases h : p < T
  · rw [if_pos h]
    refine ⟨?_, rfl⟩
    refine mz_go 2 (c' := (4, [some (.ref 65)], [.int (m 65 9)], m)) rfl ?_
    rw [hx]
    refine mz_go 4 (c' := (10, [some (.ref 65)], [.int (m 66 1), .int (nI p)], m)) rfl ?_
    rw [k1]
    refine mz_go 1 (c' := (if (nI T) ≤ (nI p) then 29 else 13, [some (.ref 65)], [], m)) rfl ?_
    refine mz_ifF (show ¬ ((nI T) ≤ (nI p)) from (sm_nleN rfl rfl (show p < T by omega) (show T < 2 ^ 31 by omega))) ?_
    refine mz_go 5 (c' := (24, [some (.ref 65)], [.int (m 65 9), .int 550, .ref 66], m)) rfl ?_
    rw [hx]
    refine mz_go 1 (c' := (25, [some (.ref 65)], [.int (550 + (nI p)), .ref 66], m)) rfl ?_
    refine mz_arr (c' := (26, [some (.ref 65)], [.int (m 66 ((550 + (nI p)).toNatClampNeg))], m)) rfl (show mz_in (550 + (nI p)) 650 = true from sm_inN (sm_addN rfl rfl) (show (550 + p) < 650 by omega) (by decide)) ?_
    rw [show (550 + (nI p) : Int32).toNatClampNeg = (550 + p) from sm_clN (sm_addN rfl rfl) (show (550 + p) < 2 ^ 31 by omega)]
    rw [k2 p (by omega)]
    refine mz_go 1 (c' := (30, [some (.ref 65)], [.int (b p)], m)) rfl ?_
    exact mz_ret rfl
  · rw [if_neg h]
    refine ⟨?_, rfl⟩
    refine mz_go 2 (c' := (4, [some (.ref 65)], [.int (m 65 9)], m)) rfl ?_
    rw [hx]
    refine mz_go 4 (c' := (10, [some (.ref 65)], [.int (m 66 1), .int (nI p)], m)) rfl ?_
    rw [k1]
    refine mz_go 1 (c' := (if (nI T) ≤ (nI p) then 29 else 13, [some (.ref 65)], [], m)) rfl ?_
    refine mz_ifT (show ((nI T) ≤ (nI p)) from (sm_leN rfl rfl (show T ≤ p by omega) (show p < 2 ^ 31 by omega))) ?_
    refine mz_go 1 (c' := (30, [some (.ref 65)], [.int (-1)], m)) rfl ?_
    exact mz_ret rfl
set_option maxHeartbeats 4000000 in
set_option maxRecDepth 100000 in
theorem tr_lay {m : mz_M} {x g : Nat → Int32} {s : Nat} (hs : s ≤ 60) (h11 : x 11 = nI s) (a c : Int32) : mz_Me 5 mz_r161 [.ref 65, .int a, .int c] (mz_set (mz_set m 65 x) 69 g) none (mz_set (mz_set m 65 (sm_upd x 11 ((nI s) + 1))) 69 (tx_ly g s a c)) := by
  show mz_Me 5 mz_r161 [.ref 65, .int a, .int c] (mz_set (mz_set m 65 x) 69 g) none (mz_set (mz_set m 65 (sm_upd x 11 ((nI s) + 1))) 69 (sm_upd (sm_upd g (2 * s) a) ((2 * s) + 1) c))
  refine ⟨?_, rfl⟩
  refine mz_go 5 (c' := (9, [some (.ref 65), some (.int a), some (.int c)], [.int (x 11), .int 2, .ref 69], mz_set (mz_set m 65 x) 69 g)) rfl ?_
  rw [h11]
  refine mz_go 2 (c' := (11, [some (.ref 65), some (.int a), some (.int c)], [.int a, .int (2 * (nI s)), .ref 69], mz_set (mz_set m 65 x) 69 g)) rfl ?_
  refine mz_arr (c' := (12, [some (.ref 65), some (.int a), some (.int c)], [], mz_up (mz_set (mz_set m 65 x) 69 g) 69 ((2 * (nI s)).toNatClampNeg) a)) rfl (show mz_in (2 * (nI s)) 124 = true from sm_inN (sm_mulN rfl rfl) (show (2 * s) < 124 by omega) (by decide)) ?_
  rw [show (2 * (nI s) : Int32).toNatClampNeg = (2 * s) from sm_clN (sm_mulN rfl rfl) (show (2 * s) < 2 ^ 31 by omega)]
  refine mz_go 1 (c' := (13, [some (.ref 65), some (.int a), some (.int c)], [.ref 65], mz_up (mz_set (mz_set m 65 x) 69 g) 69 (2 * s) a)) rfl ?_
  rw [tx_up69]
  refine mz_go 4 (c' := (21, [some (.ref 65), some (.int a), some (.int c)], [.int (x 11), .int 2, .ref 69], mz_set (mz_set m 65 x) 69 (sm_upd g (2 * s) a))) rfl ?_
  rw [h11]
  refine mz_go 4 (c' := (25, [some (.ref 65), some (.int a), some (.int c)], [.int c, .int ((2 * (nI s)) + 1), .ref 69], mz_set (mz_set m 65 x) 69 (sm_upd g (2 * s) a))) rfl ?_
  refine mz_arr (c' := (26, [some (.ref 65), some (.int a), some (.int c)], [], mz_up (mz_set (mz_set m 65 x) 69 (sm_upd g (2 * s) a)) 69 (((2 * (nI s)) + 1).toNatClampNeg) c)) rfl (show mz_in ((2 * (nI s)) + 1) 124 = true from sm_inN (sm_addN (sm_mulN rfl rfl) rfl) (show ((2 * s) + 1) < 124 by omega) (by decide)) ?_
  rw [show ((2 * (nI s)) + 1 : Int32).toNatClampNeg = ((2 * s) + 1) from sm_clN (sm_addN (sm_mulN rfl rfl) rfl) (show ((2 * s) + 1) < 2 ^ 31 by omega)]
  refine mz_go 1 (c' := (27, [some (.ref 65), some (.int a), some (.int c)], [.ref 65], mz_up (mz_set (mz_set m 65 x) 69 (sm_upd g (2 * s) a)) 69 ((2 * s) + 1) c)) rfl ?_
  rw [tx_up69]
  refine mz_go 2 (c' := (31, [some (.ref 65), some (.int a), some (.int c)], [.int (x 11), .ref 65], mz_set (mz_set m 65 x) 69 (sm_upd (sm_upd g (2 * s) a) ((2 * s) + 1) c))) rfl ?_
  rw [h11]
  refine mz_go 3 (c' := (36, [some (.ref 65), some (.int a), some (.int c)], [], mz_up (mz_set (mz_set m 65 x) 69 (sm_upd (sm_upd g (2 * s) a) ((2 * s) + 1) c)) 65 11 ((nI s) + 1))) rfl ?_
  rw [tx_up65]
  exact mz_ret rfl
set_option maxHeartbeats 4000000 in
set_option maxRecDepth 100000 in
theorem tr_isn0 {m : mz_M} (h12 : m 65 12 = 0) (c : Int32) : mz_Me 5 mz_r160 [.ref 65, .int c] m (some (.int (sm_bI (tx_name 0 c).isSome))) m := by
  by_cases h1 : c = 114
  · have hv : sm_bI (tx_name 0 c).isSome = 1 := by
      unfold tx_name
      simp [h1, sm_bI]
    rw [hv]
    refine ⟨?_, rfl⟩
    refine mz_go 2 (c' := (4, [some (.ref 65), some (.int c)], [.int (m 65 12)], m)) rfl ?_
    rw [h12]
    refine mz_go 4 (c' := (if c = 114 then 25 else 13, [some (.ref 65), some (.int c)], [], m)) rfl ?_
    refine mz_ifT h1 ?_
    refine mz_go 2 (c' := (30, [some (.ref 65), some (.int c)], [.int 1], m)) rfl ?_
    exact mz_ret rfl
  · by_cases h2 : c = 115
    · have hv : sm_bI (tx_name 0 c).isSome = 1 := by
        unfold tx_name
        simp [h1, h2, sm_bI]
      rw [hv]
      refine ⟨?_, rfl⟩
      refine mz_go 2 (c' := (4, [some (.ref 65), some (.int c)], [.int (m 65 12)], m)) rfl ?_
      rw [h12]
      refine mz_go 4 (c' := (if c = 114 then 25 else 13, [some (.ref 65), some (.int c)], [], m)) rfl ?_
      refine mz_ifF h1 ?_
      refine mz_go 3 (c' := (if c = 115 then 25 else 19, [some (.ref 65), some (.int c)], [], m)) rfl ?_
      refine mz_ifT h2 ?_
      refine mz_go 2 (c' := (30, [some (.ref 65), some (.int c)], [.int 1], m)) rfl ?_
      exact mz_ret rfl
    · by_cases h3 : c = 110
      · have hv : sm_bI (tx_name 0 c).isSome = 1 := by
          unfold tx_name
          simp [h1, h2, h3, sm_bI]
        rw [hv]
        refine ⟨?_, rfl⟩
        refine mz_go 2 (c' := (4, [some (.ref 65), some (.int c)], [.int (m 65 12)], m)) rfl ?_
        rw [h12]
        refine mz_go 4 (c' := (if c = 114 then 25 else 13, [some (.ref 65), some (.int c)], [], m)) rfl ?_
        refine mz_ifF h1 ?_
        refine mz_go 3 (c' := (if c = 115 then 25 else 19, [some (.ref 65), some (.int c)], [], m)) rfl ?_
        refine mz_ifF h2 ?_
        refine mz_go 3 (c' := (if c = 110 then 25 else 29, [some (.ref 65), some (.int c)], [], m)) rfl ?_
        refine mz_ifT h3 ?_
        refine mz_go 2 (c' := (30, [some (.ref 65), some (.int c)], [.int 1], m)) rfl ?_
        exact mz_ret rfl
      · have hv : sm_bI (tx_name 0 c).isSome = 0 := by
          unfold tx_name
          simp [h1, h2, h3, sm_bI]
        rw [hv]
        refine ⟨?_, rfl⟩
        refine mz_go 2 (c' := (4, [some (.ref 65), some (.int c)], [.int (m 65 12)], m)) rfl ?_
        rw [h12]
        refine mz_go 4 (c' := (if c = 114 then 25 else 13, [some (.ref 65), some (.int c)], [], m)) rfl ?_
        refine mz_ifF h1 ?_
        refine mz_go 3 (c' := (if c = 115 then 25 else 19, [some (.ref 65), some (.int c)], [], m)) rfl ?_
        refine mz_ifF h2 ?_
        refine mz_go 3 (c' := (if c = 110 then 25 else 29, [some (.ref 65), some (.int c)], [], m)) rfl ?_
        refine mz_ifF h3 ?_
        refine mz_go 1 (c' := (30, [some (.ref 65), some (.int c)], [.int 0], m)) rfl ?_
        exact mz_ret rfl
set_option maxHeartbeats 4000000 in
set_option maxRecDepth 100000 in
theorem tr_isn1 {m : mz_M} (h12 : m 65 12 = 1) (c : Int32) : mz_Me 5 mz_r160 [.ref 65, .int c] m (some (.int (sm_bI (tx_name 1 c).isSome))) m := by
  by_cases h1 : c = 118
  · have hv : sm_bI (tx_name 1 c).isSome = 1 := by
      unfold tx_name
      simp [h1, sm_bI]
    rw [hv]
    refine ⟨?_, rfl⟩
    refine mz_go 2 (c' := (4, [some (.ref 65), some (.int c)], [.int (m 65 12)], m)) rfl ?_
    rw [h12]
    refine mz_go 3 (c' := (35, [some (.ref 65), some (.int c)], [.int (m 65 12)], m)) rfl ?_
    rw [h12]
    refine mz_go 5 (c' := (if c = 118 then 57 else 45, [some (.ref 65), some (.int c)], [], m)) rfl ?_
    refine mz_ifT h1 ?_
    refine mz_go 2 (c' := (62, [some (.ref 65), some (.int c)], [.int 1], m)) rfl ?_
    exact mz_ret rfl
  · by_cases h2 : c = 114
    · have hv : sm_bI (tx_name 1 c).isSome = 1 := by
        unfold tx_name
        simp [h1, h2, sm_bI]
      rw [hv]
      refine ⟨?_, rfl⟩
      refine mz_go 2 (c' := (4, [some (.ref 65), some (.int c)], [.int (m 65 12)], m)) rfl ?_
      rw [h12]
      refine mz_go 3 (c' := (35, [some (.ref 65), some (.int c)], [.int (m 65 12)], m)) rfl ?_
      rw [h12]
      refine mz_go 5 (c' := (if c = 118 then 57 else 45, [some (.ref 65), some (.int c)], [], m)) rfl ?_
      refine mz_ifF h1 ?_
      refine mz_go 3 (c' := (if c = 114 then 57 else 51, [some (.ref 65), some (.int c)], [], m)) rfl ?_
      refine mz_ifT h2 ?_
      refine mz_go 2 (c' := (62, [some (.ref 65), some (.int c)], [.int 1], m)) rfl ?_
      exact mz_ret rfl
    · by_cases h3 : c = 110
      · have hv : sm_bI (tx_name 1 c).isSome = 1 := by
          unfold tx_name
          simp [h1, h2, h3, sm_bI]
        rw [hv]
        refine ⟨?_, rfl⟩
        refine mz_go 2 (c' := (4, [some (.ref 65), some (.int c)], [.int (m 65 12)], m)) rfl ?_
        rw [h12]
        refine mz_go 3 (c' := (35, [some (.ref 65), some (.int c)], [.int (m 65 12)], m)) rfl ?_
        rw [h12]
        refine mz_go 5 (c' := (if c = 118 then 57 else 45, [some (.ref 65), some (.int c)], [], m)) rfl ?_
        refine mz_ifF h1 ?_
        refine mz_go 3 (c' := (if c = 114 then 57 else 51, [some (.ref 65), some (.int c)], [], m)) rfl ?_
        refine mz_ifF h2 ?_
        refine mz_go 3 (c' := (if c = 110 then 57 else 61, [some (.ref 65), some (.int c)], [], m)) rfl ?_
        refine mz_ifT h3 ?_
        refine mz_go 2 (c' := (62, [some (.ref 65), some (.int c)], [.int 1], m)) rfl ?_
        exact mz_ret rfl
      · have hv : sm_bI (tx_name 1 c).isSome = 0 := by
          unfold tx_name
          simp [h1, h2, h3, sm_bI]
        rw [hv]
        refine ⟨?_, rfl⟩
        refine mz_go 2 (c' := (4, [some (.ref 65), some (.int c)], [.int (m 65 12)], m)) rfl ?_
        rw [h12]
        refine mz_go 3 (c' := (35, [some (.ref 65), some (.int c)], [.int (m 65 12)], m)) rfl ?_
        rw [h12]
        refine mz_go 5 (c' := (if c = 118 then 57 else 45, [some (.ref 65), some (.int c)], [], m)) rfl ?_
        refine mz_ifF h1 ?_
        refine mz_go 3 (c' := (if c = 114 then 57 else 51, [some (.ref 65), some (.int c)], [], m)) rfl ?_
        refine mz_ifF h2 ?_
        refine mz_go 3 (c' := (if c = 110 then 57 else 61, [some (.ref 65), some (.int c)], [], m)) rfl ?_
        refine mz_ifF h3 ?_
        refine mz_go 1 (c' := (62, [some (.ref 65), some (.int c)], [.int 0], m)) rfl ?_
        exact mz_ret rfl
set_option maxHeartbeats 4000000 in
set_option maxRecDepth 100000 in
theorem tr_isn2 {m : mz_M} (h12 : m 65 12 = 2) (c : Int32) : mz_Me 5 mz_r160 [.ref 65, .int c] m (some (.int (sm_bI (tx_name 2 c).isSome))) m := by
  by_cases h1 : c = 99
  · have hv : sm_bI (tx_name 2 c).isSome = 1 := by
      unfold tx_name
      simp [h1, sm_bI]
    rw [hv]
    refine ⟨?_, rfl⟩
    refine mz_go 2 (c' := (4, [some (.ref 65), some (.int c)], [.int (m 65 12)], m)) rfl ?_
    rw [h12]
    refine mz_go 3 (c' := (35, [some (.ref 65), some (.int c)], [.int (m 65 12)], m)) rfl ?_
    rw [h12]
    refine mz_go 5 (c' := (if c = 99 then 93 else 69, [some (.ref 65), some (.int c)], [], m)) rfl ?_
    refine mz_ifT h1 ?_
    refine mz_go 2 (c' := (98, [some (.ref 65), some (.int c)], [.int 1], m)) rfl ?_
    exact mz_ret rfl
  · by_cases h2 : c = 108
    · have hv : sm_bI (tx_name 2 c).isSome = 1 := by
        unfold tx_name
        simp [h1, h2, sm_bI]
      rw [hv]
      refine ⟨?_, rfl⟩
      refine mz_go 2 (c' := (4, [some (.ref 65), some (.int c)], [.int (m 65 12)], m)) rfl ?_
      rw [h12]
      refine mz_go 3 (c' := (35, [some (.ref 65), some (.int c)], [.int (m 65 12)], m)) rfl ?_
      rw [h12]
      refine mz_go 5 (c' := (if c = 99 then 93 else 69, [some (.ref 65), some (.int c)], [], m)) rfl ?_
      refine mz_ifF h1 ?_
      refine mz_go 3 (c' := (if c = 108 then 93 else 75, [some (.ref 65), some (.int c)], [], m)) rfl ?_
      refine mz_ifT h2 ?_
      refine mz_go 2 (c' := (98, [some (.ref 65), some (.int c)], [.int 1], m)) rfl ?_
      exact mz_ret rfl
    · by_cases h3 : c = 120
      · have hv : sm_bI (tx_name 2 c).isSome = 1 := by
          unfold tx_name
          simp [h1, h2, h3, sm_bI]
        rw [hv]
        refine ⟨?_, rfl⟩
        refine mz_go 2 (c' := (4, [some (.ref 65), some (.int c)], [.int (m 65 12)], m)) rfl ?_
        rw [h12]
        refine mz_go 3 (c' := (35, [some (.ref 65), some (.int c)], [.int (m 65 12)], m)) rfl ?_
        rw [h12]
        refine mz_go 5 (c' := (if c = 99 then 93 else 69, [some (.ref 65), some (.int c)], [], m)) rfl ?_
        refine mz_ifF h1 ?_
        refine mz_go 3 (c' := (if c = 108 then 93 else 75, [some (.ref 65), some (.int c)], [], m)) rfl ?_
        refine mz_ifF h2 ?_
        refine mz_go 3 (c' := (if c = 120 then 93 else 81, [some (.ref 65), some (.int c)], [], m)) rfl ?_
        refine mz_ifT h3 ?_
        refine mz_go 2 (c' := (98, [some (.ref 65), some (.int c)], [.int 1], m)) rfl ?_
        exact mz_ret rfl
      · by_cases h4 : c = 121
        · have hv : sm_bI (tx_name 2 c).isSome = 1 := by
            unfold tx_name
            simp [h1, h2, h3, h4, sm_bI]
          rw [hv]
          refine ⟨?_, rfl⟩
          refine mz_go 2 (c' := (4, [some (.ref 65), some (.int c)], [.int (m 65 12)], m)) rfl ?_
          rw [h12]
          refine mz_go 3 (c' := (35, [some (.ref 65), some (.int c)], [.int (m 65 12)], m)) rfl ?_
          rw [h12]
          refine mz_go 5 (c' := (if c = 99 then 93 else 69, [some (.ref 65), some (.int c)], [], m)) rfl ?_
          refine mz_ifF h1 ?_
          refine mz_go 3 (c' := (if c = 108 then 93 else 75, [some (.ref 65), some (.int c)], [], m)) rfl ?_
          refine mz_ifF h2 ?_
          refine mz_go 3 (c' := (if c = 120 then 93 else 81, [some (.ref 65), some (.int c)], [], m)) rfl ?_
          refine mz_ifF h3 ?_
          refine mz_go 3 (c' := (if c = 121 then 93 else 87, [some (.ref 65), some (.int c)], [], m)) rfl ?_
          refine mz_ifT h4 ?_
          refine mz_go 2 (c' := (98, [some (.ref 65), some (.int c)], [.int 1], m)) rfl ?_
          exact mz_ret rfl
        · by_cases h5 : c = 101
          · have hv : sm_bI (tx_name 2 c).isSome = 1 := by
              unfold tx_name
              simp [h1, h2, h3, h4, h5, sm_bI]
            rw [hv]
            refine ⟨?_, rfl⟩
            refine mz_go 2 (c' := (4, [some (.ref 65), some (.int c)], [.int (m 65 12)], m)) rfl ?_
            rw [h12]
            refine mz_go 3 (c' := (35, [some (.ref 65), some (.int c)], [.int (m 65 12)], m)) rfl ?_
            rw [h12]
            refine mz_go 5 (c' := (if c = 99 then 93 else 69, [some (.ref 65), some (.int c)], [], m)) rfl ?_
            refine mz_ifF h1 ?_
            refine mz_go 3 (c' := (if c = 108 then 93 else 75, [some (.ref 65), some (.int c)], [], m)) rfl ?_
            refine mz_ifF h2 ?_
            refine mz_go 3 (c' := (if c = 120 then 93 else 81, [some (.ref 65), some (.int c)], [], m)) rfl ?_
            refine mz_ifF h3 ?_
            refine mz_go 3 (c' := (if c = 121 then 93 else 87, [some (.ref 65), some (.int c)], [], m)) rfl ?_
            refine mz_ifF h4 ?_
            refine mz_go 3 (c' := (if c = 101 then 93 else 97, [some (.ref 65), some (.int c)], [], m)) rfl ?_
            refine mz_ifT h5 ?_
            refine mz_go 2 (c' := (98, [some (.ref 65), some (.int c)], [.int 1], m)) rfl ?_
            exact mz_ret rfl
          · have hv : sm_bI (tx_name 2 c).isSome = 0 := by
              unfold tx_name
              simp [h1, h2, h3, h4, h5, sm_bI]
            rw [hv]
            refine ⟨?_, rfl⟩
            refine mz_go 2 (c' := (4, [some (.ref 65), some (.int c)], [.int (m 65 12)], m)) rfl ?_
            rw [h12]
            refine mz_go 3 (c' := (35, [some (.ref 65), some (.int c)], [.int (m 65 12)], m)) rfl ?_
            rw [h12]
            refine mz_go 5 (c' := (if c = 99 then 93 else 69, [some (.ref 65), some (.int c)], [], m)) rfl ?_
            refine mz_ifF h1 ?_
            refine mz_go 3 (c' := (if c = 108 then 93 else 75, [some (.ref 65), some (.int c)], [], m)) rfl ?_
            refine mz_ifF h2 ?_
            refine mz_go 3 (c' := (if c = 120 then 93 else 81, [some (.ref 65), some (.int c)], [], m)) rfl ?_
            refine mz_ifF h3 ?_
            refine mz_go 3 (c' := (if c = 121 then 93 else 87, [some (.ref 65), some (.int c)], [], m)) rfl ?_
            refine mz_ifF h4 ?_
            refine mz_go 3 (c' := (if c = 101 then 93 else 97, [some (.ref 65), some (.int c)], [], m)) rfl ?_
            refine mz_ifF h5 ?_
            refine mz_go 1 (c' := (98, [some (.ref 65), some (.int c)], [.int 0], m)) rfl ?_
            exact mz_ret rfl
set_option maxHeartbeats 4000000 in
set_option maxRecDepth 100000 in
theorem tr_isn {u : Nat} (hu : u < 3) {m : mz_M} (h12 : m 65 12 = nI u) (c : Int32) : mz_Me 5 mz_r160 [.ref 65, .int c] m (some (.int (sm_bI (tx_name u c).isSome))) m := by
  rcases (show u = 0 ∨ u = 1 ∨ u = 2 by omega) with rfl | rfl | rfl
  · exact tr_isn0 h12 c
  · exact tr_isn1 h12 c
  · exact tr_isn2 h12 c
set_option maxHeartbeats 4000000 in
set_option maxRecDepth 100000 in
theorem tr_in {m : mz_M} (c : Int32) : mz_Me 3 mz_r128 [.int c, .int 48, .int 57] m (some (.int (sm_bI (tx_dig c)))) m := by
  by_cases h1 : c < 48
  · have hv : sm_bI (tx_dig c) = 0 := by
      unfold tx_dig
      simp [h1, Int32.not_le.mpr h1, sm_bI]
    rw [hv]
    refine ⟨?_, rfl⟩
    refine mz_go 3 (c' := (if c < 48 then 14 else 5, [some (.int c), some (.int 48), some (.int 57)], [], m)) rfl ?_
    refine mz_ifT h1 ?_
    refine mz_go 1 (c' := (15, [some (.int c), some (.int 48), some (.int 57)], [.int 0], m)) rfl ?_
    exact mz_ret rfl
  · by_cases h2 : 57 < c
    · have hv : sm_bI (tx_dig c) = 0 := by
        unfold tx_dig
        simp [h1, Int32.not_lt.mp h1, h2, Int32.not_le.mpr h2, sm_bI]
      rw [hv]
      refine ⟨?_, rfl⟩
      refine mz_go 3 (c' := (if c < 48 then 14 else 5, [some (.int c), some (.int 48), some (.int 57)], [], m)) rfl ?_
      refine mz_ifF h1 ?_
      refine mz_go 3 (c' := (if 57 < c then 14 else 10, [some (.int c), some (.int 48), some (.int 57)], [], m)) rfl ?_
      refine mz_ifT h2 ?_
      refine mz_go 1 (c' := (15, [some (.int c), some (.int 48), some (.int 57)], [.int 0], m)) rfl ?_
      exact mz_ret rfl
    · have hv : sm_bI (tx_dig c) = 1 := by
        unfold tx_dig
        simp [h1, Int32.not_lt.mp h1, h2, Int32.not_lt.mp h2, sm_bI]
      rw [hv]
      refine ⟨?_, rfl⟩
      refine mz_go 3 (c' := (if c < 48 then 14 else 5, [some (.int c), some (.int 48), some (.int 57)], [], m)) rfl ?_
      refine mz_ifF h1 ?_
      refine mz_go 3 (c' := (if 57 < c then 14 else 10, [some (.int c), some (.int 48), some (.int 57)], [], m)) rfl ?_
      refine mz_ifF h2 ?_
      refine mz_go 2 (c' := (15, [some (.int c), some (.int 48), some (.int 57)], [.int 1], m)) rfl ?_
      exact mz_ret rfl
theorem tx_dig_nm {u : Nat} (hu : u < 3) {c : Int32} (h : tx_dig c = true) : tx_name u c = none := by
  unfold tx_dig at h
  have h2 : ¬ 57 < c := fun e => by
    rw [decide_eq_true e, Bool.not_true, Bool.and_false] at h
    cases h
  have n : ∀ k : Int32, 57 < k → ¬ c = k := fun k hk e => h2 (e ▸ hk)
  rcases (show u = 0 ∨ u = 1 ∨ u = 2 by omega) with rfl | rfl | rfl
  · unfold tx_name
    simp only [if_neg (n 114 (by decide)), if_neg (n 115 (by decide)), if_neg (n 110 (by decide))]
  · unfold tx_name
    simp only [if_neg (n 118 (by decide)), if_neg (n 114 (by decide)), if_neg (n 110 (by decide))]
  · unfold tx_name
    simp only [if_neg (n 99 (by decide)), if_neg (n 108 (by decide)), if_neg (n 120 (by decide)), if_neg (n 121 (by decide)), if_neg (n 101 (by decide))]
theorem tx_name_ch {u j : Nat} (hu : u < 3) {c : Int32} (h : tx_name u c = some j) : c = tx_ch u j := by
  rcases (show u = 0 ∨ u = 1 ∨ u = 2 by omega) with rfl | rfl | rfl
  · by_cases n0 : c = 114
    · have e : tx_name 0 c = some 0 := if_pos n0
      rw [e] at h
      cases h
      exact n0
    · skip
      by_cases n1 : c = 115
      · have e : tx_name 0 c = some 1 := (if_neg n0).trans (if_pos n1)
        rw [e] at h
        cases h
        exact n1
      · skip
        by_cases n2 : c = 110
        · have e : tx_name 0 c = some 2 := (if_neg n0).trans ((if_neg n1).trans (if_pos n2))
          rw [e] at h
          cases h
          exact n2
        · skip
          have e : tx_name 0 c = none := (if_neg n0).trans ((if_neg n1).trans (if_neg n2))
          rw [e] at h
          cases h
  · by_cases n0 : c = 118
    · have e : tx_name 1 c = some 0 := if_pos n0
      rw [e] at h
      cases h
      exact n0
    · skip
      by_cases n1 : c = 114
      · have e : tx_name 1 c = some 1 := (if_neg n0).trans (if_pos n1)
        rw [e] at h
        cases h
        exact n1
      · skip
        by_cases n2 : c = 110
        · have e : tx_name 1 c = some 2 := (if_neg n0).trans ((if_neg n1).trans (if_pos n2))
          rw [e] at h
          cases h
          exact n2
        · skip
          have e : tx_name 1 c = none := (if_neg n0).trans ((if_neg n1).trans (if_neg n2))
          rw [e] at h
          cases h
  · by_cases n0 : c = 99
    · have e : tx_name 2 c = some 0 := if_pos n0
      rw [e] at h
      cases h
      exact n0
    · skip
      by_cases n1 : c = 108
      · have e : tx_name 2 c = some 1 := (if_neg n0).trans (if_pos n1)
        rw [e] at h
        cases h
        exact n1
      · skip
        by_cases n2 : c = 120
        · have e : tx_name 2 c = some 2 := (if_neg n0).trans ((if_neg n1).trans (if_pos n2))
          rw [e] at h
          cases h
          exact n2
        · skip
          by_cases n3 : c = 121
          · have e : tx_name 2 c = some 3 := (if_neg n0).trans ((if_neg n1).trans ((if_neg n2).trans (if_pos n3)))
            rw [e] at h
            cases h
            exact n3
          · skip
            by_cases n4 : c = 101
            · have e : tx_name 2 c = some 4 := (if_neg n0).trans ((if_neg n1).trans ((if_neg n2).trans ((if_neg n3).trans (if_pos n4))))
              rw [e] at h
              cases h
              exact n4
            · skip
              have e : tx_name 2 c = none := (if_neg n0).trans ((if_neg n1).trans ((if_neg n2).trans ((if_neg n3).trans (if_neg n4))))
              rw [e] at h
              cases h
theorem tx_name_40 {u : Nat} (hu : u < 3) : tx_name u 40 = none := by
  rcases (show u = 0 ∨ u = 1 ∨ u = 2 by omega) with rfl | rfl | rfl <;> rfl
theorem tx_name_33 {u : Nat} (hu : u < 3) : tx_name u 33 = none := by
  rcases (show u = 0 ∨ u = 1 ∨ u = 2 by omega) with rfl | rfl | rfl <;> rfl
theorem tx_lp_false {T : Nat} {b : Nat → Int32} {l : Nat} {f : Nat → tx_R} : ∀ (m : Nat) (r : tx_R), ¬ r.1 = true → tx_lp T b l f m r = r := by
  intro m r h
  cases m with
  | zero => rfl
  | succ m => exact if_neg (fun z => h z.1)
set_option maxHeartbeats 4000000 in
set_option maxRecDepth 100000 in
theorem tr_numl {m : mz_M} {T : Nat} {b : Nat → Int32} (hT : T ≤ 60) (k1 : m 66 1 = nI T) (k2 : ∀ i, i < 60 → m 66 (550 + i) = b i) {g : Nat → Int32} {c : Int32} {D : Nat} : ∀ j k : Nat, k + j = 4 → ∀ (x : Nat → Int32) (v : Int32) (p : Nat), x 9 = nI p → p ≤ T → ∃ (x' : Nat → Int32) (k' : Int32), x' 9 = nI (tx_num T b j p v).2 ∧ (∀ i, i ≠ 9 → x' i = x i) ∧ ∀ res, mz_Ex (D + 20) mz_k168 (94, [some (.ref 65), some (.int c), some (.int ((tx_num T b j p v).1)), some (.int k')], [], mz_set (mz_set m 65 x') 69 g) res → mz_Ex (D + 20) mz_k168 (46, [some (.ref 65), some (.int c), some (.int v), some (.int (nI k))], [], mz_set (mz_set m 65 x) 69 g) res := by
  intro j
  induction j with
  | zero =>
    intro k hk x v p hx hp
    rw [show k = 4 by omega]
    exact ⟨x, nI 4, hx, fun _ _ => rfl, fun res hr => by
      refine mz_go 3 (c' := (if 4 ≤ (nI 4) then 94 else 51, [some (.ref 65), some (.int c), some (.int v), some (.int (nI 4))], [], mz_set (mz_set m 65 x) 69 g)) rfl ?_
      refine mz_ifT (show (4 ≤ (nI 4)) from (sm_leN rfl rfl (show 4 ≤ 4 by omega) (show 4 < 2 ^ 31 by omega))) ?_
      exact hr⟩
  | succ j ih =>
    intro k hk x v p hx hp
    by_cases e : tx_dig (tx_at T b p) = true
    · have hlt := tx_dig_lt e
      have hd : ¬ sm_bI (tx_dig (tx_at T b p)) = 0 := by rw [e]; decide
      have hn : tx_num T b (j + 1) p v = tx_num T b j (p + 1) (((v * 10) + (tx_at T b p)) - 48) := if_pos e
      rw [hn]
      obtain ⟨x', k', a1, a2, E⟩ := ih (k + 1) (by omega) (sm_upd x 9 ((nI p) + 1)) (((v * 10) + (tx_at T b p)) - 48) (p + 1) (Eq.trans tx_upE (nI_succ p).symm) (by omega)
      refine ⟨x', k', a1, fun i hi => (a2 i hi).trans (tx_upN hi), fun res hr0 => ?_⟩
      have hr := E res hr0
      rw [nI_succ k] at hr
      refine mz_go 3 (c' := (if 4 ≤ (nI k) then 94 else 51, [some (.ref 65), some (.int c), some (.int v), some (.int (nI k))], [], mz_set (mz_set m 65 x) 69 g)) rfl ?_
      refine mz_ifF (show ¬ (4 ≤ (nI k)) from (sm_nleN rfl rfl (show k < 4 by omega) (show 4 < 2 ^ 31 by omega))) ?_
      refine mz_go 1 (c' := (52, [some (.ref 65), some (.int c), some (.int v), some (.int (nI k))], [.ref 65], mz_set (mz_set m 65 x) 69 g)) rfl ?_
      refine mz_doQ (R := mz_r159) (as := [.ref 65]) (rest := []) (r1 := some (.int (tx_at T b p))) (m1 := mz_set (mz_set m 65 x) 69 g) mz_t159 mz_v159_65 rfl rfl rfl rfl rfl ((tr_look (m := mz_set (mz_set m 65 x) 69 g) hT k1 k2 (p := p) (show (mz_set (mz_set m 65 x) 69 g) 65 9 = nI p from hx) (by omega)).deep (by omega)) ?_
      refine mz_go 2 (c' := (59, [some (.ref 65), some (.int c), some (.int v), some (.int (nI k))], [.int 57, .int 48, .int (tx_at T b p)], mz_set (mz_set m 65 x) 69 g)) rfl ?_
      refine mz_doQ (R := mz_r128) (as := [.int (tx_at T b p), .int 48, .int 57]) (rest := []) (r1 := some (.int (sm_bI (tx_dig (tx_at T b p))))) (m1 := mz_set (mz_set m 65 x) 69 g) mz_t128 mz_v128 rfl rfl rfl rfl rfl ((tr_in (m := mz_set (mz_set m 65 x) 69 g) (tx_at T b p)).deep (by omega)) ?_
      refine mz_go 1 (c' := (if (sm_bI (tx_dig (tx_at T b p))) = 0 then 94 else 65, [some (.ref 65), some (.int c), some (.int v), some (.int (nI k))], [], mz_set (mz_set m 65 x) 69 g)) rfl ?_
      refine mz_ifF hd ?_
      refine mz_go 3 (c' := (69, [some (.ref 65), some (.int c), some (.int v), some (.int (nI k))], [.int (10 * v)], mz_set (mz_set m 65 x) 69 g)) rfl ?_
      rw [Int32.mul_comm 10 v]
      refine mz_go 1 (c' := (70, [some (.ref 65), some (.int c), some (.int v), some (.int (nI k))], [.ref 65, .int (v * 10)], mz_set (mz_set m 65 x) 69 g)) rfl ?_
      refine mz_doQ (R := mz_r159) (as := [.ref 65]) (rest := [.int (v * 10)]) (r1 := some (.int (tx_at T b p))) (m1 := mz_set (mz_set m 65 x) 69 g) mz_t159 mz_v159_65 rfl rfl rfl rfl rfl ((tr_look (m := mz_set (mz_set m 65 x) 69 g) hT k1 k2 (p := p) (show (mz_set (mz_set m 65 x) 69 g) 65 9 = nI p from hx) (by omega)).deep (by omega)) ?_
      refine mz_go 7 (c' := (83, [some (.ref 65), some (.int c), some (.int (((v * 10) + (tx_at T b p)) - 48)), some (.int (nI k))], [.int (x 9), .ref 65], mz_set (mz_set m 65 x) 69 g)) rfl ?_
      rw [hx]
      refine mz_go 3 (c' := (88, [some (.ref 65), some (.int c), some (.int (((v * 10) + (tx_at T b p)) - 48)), some (.int (nI k))], [], mz_up (mz_set (mz_set m 65 x) 69 g) 65 9 ((nI p) + 1))) rfl ?_
      rw [tx_up65]
      refine mz_go 2 (c' := (46, [some (.ref 65), some (.int c), some (.int (((v * 10) + (tx_at T b p)) - 48)), some (.int ((nI k) + 1))], [], mz_set (mz_set m 65 (sm_upd x 9 ((nI p) + 1))) 69 g)) rfl ?_
      exact hr
    · have hd : sm_bI (tx_dig (tx_at T b p)) = 0 := by rw [eq_false_of_ne_true e]; rfl
      rw [show tx_num T b (j + 1) p v = (v, p) from if_neg e]
      exact ⟨x, nI k, hx, fun _ _ => rfl, fun res hr => by
        refine mz_go 3 (c' := (if 4 ≤ (nI k) then 94 else 51, [some (.ref 65), some (.int c), some (.int v), some (.int (nI k))], [], mz_set (mz_set m 65 x) 69 g)) rfl ?_
        refine mz_ifF (show ¬ (4 ≤ (nI k)) from (sm_nleN rfl rfl (show k < 4 by omega) (show 4 < 2 ^ 31 by omega))) ?_
        refine mz_go 1 (c' := (52, [some (.ref 65), some (.int c), some (.int v), some (.int (nI k))], [.ref 65], mz_set (mz_set m 65 x) 69 g)) rfl ?_
        refine mz_doQ (R := mz_r159) (as := [.ref 65]) (rest := []) (r1 := some (.int (tx_at T b p))) (m1 := mz_set (mz_set m 65 x) 69 g) mz_t159 mz_v159_65 rfl rfl rfl rfl rfl ((tr_look (m := mz_set (mz_set m 65 x) 69 g) hT k1 k2 (p := p) (show (mz_set (mz_set m 65 x) 69 g) 65 9 = nI p from hx) (by omega)).deep (by omega)) ?_
        refine mz_go 2 (c' := (59, [some (.ref 65), some (.int c), some (.int v), some (.int (nI k))], [.int 57, .int 48, .int (tx_at T b p)], mz_set (mz_set m 65 x) 69 g)) rfl ?_
        refine mz_doQ (R := mz_r128) (as := [.int (tx_at T b p), .int 48, .int 57]) (rest := []) (r1 := some (.int (sm_bI (tx_dig (tx_at T b p))))) (m1 := mz_set (mz_set m 65 x) 69 g) mz_t128 mz_v128 rfl rfl rfl rfl rfl ((tr_in (m := mz_set (mz_set m 65 x) 69 g) (tx_at T b p)).deep (by omega)) ?_
        refine mz_go 1 (c' := (if (sm_bI (tx_dig (tx_at T b p))) = 0 then 94 else 65, [some (.ref 65), some (.int c), some (.int v), some (.int (nI k))], [], mz_set (mz_set m 65 x) 69 g)) rfl ?_
        refine mz_ifT hd ?_
        exact hr⟩
set_option maxHeartbeats 4000000 in
set_option maxRecDepth 100000 in
theorem tr_one {u T : Nat} {b : Nat → Int32} (hu : u < 3) (hT : T ≤ 60) {o D : Nat} (ho5 : o ≤ 5) {f0 f5 : Nat → tx_R} (hG0 : ∀ q, q ≤ T → tx_G u T q (f0 q)) (hG5 : ∀ q, q ≤ T → tx_G u T q (f5 q)) (h0 : o < 5 → tx_D u T b (tx_ch u) (D + 20) mz_r162 (o + 1) f0) (h5 : o < 5 → tx_D u T b (tx_ch u) (D + 20) mz_r168 (o + 1) f5) : tx_D u T b (tx_ch u) (D + 21) mz_r168 o (fun p => tx_op u T b o p f0 f5) := by
  intro m x g k1 k2 p s hsp hpT hp ho1 hs1 hu1
  show ∃ x' g', mz_Me _ _ _ _ (some (.int (sm_bI (tx_op u T b o p f0 f5).1))) _ ∧ tx_T u o (tx_ch u) (tx_op u T b o p f0 f5) s x g x' g'
  unfold tx_op
  by_cases e1 : tx_dig (tx_at T b p) = true
  · rw [if_pos e1]
    have hlt := tx_dig_lt e1
    have hd : ¬ sm_bI (tx_dig (tx_at T b p)) = 0 := by rw [e1]; decide
    have hn0 : sm_bI (tx_name u (tx_at T b p)).isSome = 0 := by rw [tx_dig_nm hu e1]; rfl
    obtain ⟨x', k', a1, a2, E⟩ := tr_numl (m := m) hT k1 k2 (g := g) (c := tx_at T b p) (D := D + 1) 4 0 (by omega) x 0 p hp hpT
    have EL := tr_lay (m := m) (x := x') (g := g) (s := s) (by omega) ((a2 11 (by decide)).trans hs1) 0 (tx_num T b 4 p 0).1
    have hr : mz_Ex (D + 21) mz_k168 (94, [some (.ref 65), some (.int (tx_at T b p)), some (.int ((tx_num T b 4 p 0).1)), some (.int k')], [], mz_set (mz_set m 65 x') 69 g) (some (.int 1), mz_set (mz_set m 65 (sm_upd x' 11 ((nI s) + 1))) 69 (tx_ly g s 0 (tx_num T b 4 p 0).1)) := by
      refine mz_go 3 (c' := (97, [some (.ref 65), some (.int (tx_at T b p)), some (.int ((tx_num T b 4 p 0).1)), some (.int k')], [.int ((tx_num T b 4 p 0).1), .int 0, .ref 65], mz_set (mz_set m 65 x') 69 g)) rfl ?_
      refine mz_doQ (R := mz_r161) (as := [.ref 65, .int 0, .int ((tx_num T b 4 p 0).1)]) (rest := []) (r1 := none) (m1 := mz_set (mz_set m 65 (sm_upd x' 11 ((nI s) + 1))) 69 (tx_ly g s 0 (tx_num T b 4 p 0).1)) mz_t161 mz_v161_65 rfl rfl rfl rfl rfl (EL.deep (by omega)) ?_
      refine mz_go 1 (c' := (101, [some (.ref 65), some (.int (tx_at T b p)), some (.int ((tx_num T b 4 p 0).1)), some (.int k')], [.int 1], mz_set (mz_set m 65 (sm_upd x' 11 ((nI s) + 1))) 69 (tx_ly g s 0 (tx_num T b 4 p 0).1))) rfl ?_
      exact mz_ret rfl
    refine ⟨(sm_upd x' 11 ((nI s) + 1)), (tx_ly g s 0 (tx_num T b 4 p 0).1), ⟨?_, rfl⟩, Eq.trans (tx_upN (by decide)) a1, fun k h1 h2 h3 => (tx_upN h3).trans (a2 k h1), fun _ => ⟨Eq.trans (tx_upN (by decide)) ((a2 10 (by decide)).trans ho1), Eq.trans tx_upE (nI_succ s).symm, tx_ly_lk sm_lk_num, fun i hi => tx_ly_keep hi⟩⟩
    refine mz_go 1 (c' := (1, [some (.ref 65), none, none, none], [.ref 65], mz_set (mz_set m 65 x) 69 g)) rfl ?_
    refine mz_doQ (R := mz_r159) (as := [.ref 65]) (rest := []) (r1 := some (.int (tx_at T b p))) (m1 := mz_set (mz_set m 65 x) 69 g) mz_t159 mz_v159_65 rfl rfl rfl rfl rfl ((tr_look (m := mz_set (mz_set m 65 x) 69 g) hT k1 k2 (p := p) (show (mz_set (mz_set m 65 x) 69 g) 65 9 = nI p from hp) (by omega)).deep (by omega)) ?_
    refine mz_go 3 (c' := (7, [some (.ref 65), some (.int (tx_at T b p)), none, none], [.int (tx_at T b p), .ref 65], mz_set (mz_set m 65 x) 69 g)) rfl ?_
    refine mz_doQ (R := mz_r160) (as := [.ref 65, .int (tx_at T b p)]) (rest := []) (r1 := some (.int (sm_bI (tx_name u (tx_at T b p)).isSome))) (m1 := mz_set (mz_set m 65 x) 69 g) mz_t160 mz_v160_65 rfl rfl rfl rfl rfl ((tr_isn hu (m := mz_set (mz_set m 65 x) 69 g) hu1 (tx_at T b p)).deep (by omega)) ?_
    refine mz_go 1 (c' := (if (sm_bI (tx_name u (tx_at T b p)).isSome) = 0 then 31 else 13, [some (.ref 65), some (.int (tx_at T b p)), none, none], [], mz_set (mz_set m 65 x) 69 g)) rfl ?_
    refine mz_ifT hn0 ?_
    refine mz_go 3 (c' := (36, [some (.ref 65), some (.int (tx_at T b p)), none, none], [.int 57, .int 48, .int (tx_at T b p)], mz_set (mz_set m 65 x) 69 g)) rfl ?_
    refine mz_doQ (R := mz_r128) (as := [.int (tx_at T b p), .int 48, .int 57]) (rest := []) (r1 := some (.int (sm_bI (tx_dig (tx_at T b p))))) (m1 := mz_set (mz_set m 65 x) 69 g) mz_t128 mz_v128 rfl rfl rfl rfl rfl ((tr_in (m := mz_set (mz_set m 65 x) 69 g) (tx_at T b p)).deep (by omega)) ?_
    refine mz_go 1 (c' := (if (sm_bI (tx_dig (tx_at T b p))) = 0 then 102 else 42, [some (.ref 65), some (.int (tx_at T b p)), none, none], [], mz_set (mz_set m 65 x) 69 g)) rfl ?_
    refine mz_ifF hd ?_
    refine mz_go 4 (c' := (46, [some (.ref 65), some (.int (tx_at T b p)), some (.int 0), some (.int 0)], [], mz_set (mz_set m 65 x) 69 g)) rfl ?_
    exact E _ hr
  · rw [if_neg e1]
    have hd : sm_bI (tx_dig (tx_at T b p)) = 0 := by rw [eq_false_of_ne_true e1]; rfl
    by_cases e2 : tx_at T b p = 40 ∧ o < 5
    · rw [if_pos e2]
      have hlt : p < T := tx_at_lt (by rw [e2.1]; decide)
      obtain ⟨x1, g1, E1, q1⟩ := (h0 e2.2) m (sm_upd (sm_upd x 10 ((nI o) + 1)) 9 ((nI p) + 1)) g k1 k2 (p + 1) s (by omega) (by omega) (Eq.trans tx_upE (nI_succ p).symm) (Eq.trans (tx_upN (by decide)) (Eq.trans tx_upE (nI_succ o).symm)) (Eq.trans (tx_upN (by decide)) (Eq.trans (tx_upN (by decide)) hs1)) (Eq.trans (tx_upN (by decide)) (Eq.trans (tx_upN (by decide)) hu1))
      have q2 := q1
      obtain ⟨c1, c2, c3⟩ := q2
      obtain ⟨G1, G2, G3⟩ := hG0 (p + 1) (by omega)
      have hy : ∀ k, k ≠ 9 → k ≠ 10 → k ≠ 11 → (sm_upd (sm_upd x 10 ((nI o) + 1)) 9 ((nI p) + 1)) k = x k := fun k h1 h2 h3 => (tx_upN h1).trans (tx_upN h2)
      have hn0 : sm_bI (tx_name u (tx_at T b p)).isSome = 0 := by rw [e2.1, tx_name_40 hu]; rfl
      by_cases ok : (f0 (p + 1)).1 = true
      · have hok : ¬ sm_bI (f0 (p + 1)).1 = 0 := by rw [ok]; decide
        obtain ⟨d1, d2, d3, d4⟩ := c3 ok
        by_cases h41 : tx_at T b (f0 (p + 1)).2.1 = 41
        · rw [if_pos ⟨ok, h41⟩]
          refine ⟨(sm_upd (sm_upd x1 9 ((nI ((f0 (p + 1)).2.1)) + 1)) 10 (nI o)), g1, ⟨?_, rfl⟩, Eq.trans (tx_upN (by decide)) (Eq.trans tx_upE (nI_succ _).symm), fun k h1 h2 h3 => (tx_upN h2).trans ((tx_upN h1).trans ((c2 k h1 h2 h3).trans (hy k h1 h2 h3))), fun _ => ⟨tx_upE, Eq.trans (tx_upN (by decide)) (Eq.trans (tx_upN (by decide)) d2), d3, d4⟩⟩
          refine mz_go 1 (c' := (1, [some (.ref 65), none, none, none], [.ref 65], mz_set (mz_set m 65 x) 69 g)) rfl ?_
          refine mz_doQ (R := mz_r159) (as := [.ref 65]) (rest := []) (r1 := some (.int (tx_at T b p))) (m1 := mz_set (mz_set m 65 x) 69 g) mz_t159 mz_v159_65 rfl rfl rfl rfl rfl ((tr_look (m := mz_set (mz_set m 65 x) 69 g) hT k1 k2 (p := p) (show (mz_set (mz_set m 65 x) 69 g) 65 9 = nI p from hp) (by omega)).deep (by omega)) ?_
          refine mz_go 3 (c' := (7, [some (.ref 65), some (.int (tx_at T b p)), none, none], [.int (tx_at T b p), .ref 65], mz_set (mz_set m 65 x) 69 g)) rfl ?_
          refine mz_doQ (R := mz_r160) (as := [.ref 65, .int (tx_at T b p)]) (rest := []) (r1 := some (.int (sm_bI (tx_name u (tx_at T b p)).isSome))) (m1 := mz_set (mz_set m 65 x) 69 g) mz_t160 mz_v160_65 rfl rfl rfl rfl rfl ((tr_isn hu (m := mz_set (mz_set m 65 x) 69 g) hu1 (tx_at T b p)).deep (by omega)) ?_
          refine mz_go 1 (c' := (if (sm_bI (tx_name u (tx_at T b p)).isSome) = 0 then 31 else 13, [some (.ref 65), some (.int (tx_at T b p)), none, none], [], mz_set (mz_set m 65 x) 69 g)) rfl ?_
          refine mz_ifT hn0 ?_
          refine mz_go 3 (c' := (36, [some (.ref 65), some (.int (tx_at T b p)), none, none], [.int 57, .int 48, .int (tx_at T b p)], mz_set (mz_set m 65 x) 69 g)) rfl ?_
          refine mz_doQ (R := mz_r128) (as := [.int (tx_at T b p), .int 48, .int 57]) (rest := []) (r1 := some (.int (sm_bI (tx_dig (tx_at T b p))))) (m1 := mz_set (mz_set m 65 x) 69 g) mz_t128 mz_v128 rfl rfl rfl rfl rfl ((tr_in (m := mz_set (mz_set m 65 x) 69 g) (tx_at T b p)).deep (by omega)) ?_
          refine mz_go 1 (c' := (if (sm_bI (tx_dig (tx_at T b p))) = 0 then 102 else 42, [some (.ref 65), some (.int (tx_at T b p)), none, none], [], mz_set (mz_set m 65 x) 69 g)) rfl ?_
          refine mz_ifT hd ?_
          refine mz_go 3 (c' := (if (tx_at T b p) = 33 then 108 else 142, [some (.ref 65), some (.int (tx_at T b p)), none, none], [], mz_set (mz_set m 65 x) 69 g)) rfl ?_
          refine mz_ifF (by rw [e2.1]; decide) ?_
          refine mz_go 3 (c' := (if (tx_at T b p) = 40 then 148 else 171, [some (.ref 65), some (.int (tx_at T b p)), none, none], [], mz_set (mz_set m 65 x) 69 g)) rfl ?_
          refine mz_ifT e2.1 ?_
          refine mz_go 1 (c' := (149, [some (.ref 65), some (.int (tx_at T b p)), none, none], [.ref 65], mz_set (mz_set m 65 x) 69 g)) rfl ?_
          refine mz_doQ (R := mz_r167) (as := [.ref 65]) (rest := []) (r1 := some (.int 1)) (m1 := mz_set (mz_set m 65 (sm_upd (sm_upd x 10 ((nI o) + 1)) 9 ((nI p) + 1))) 69 g) mz_t167 mz_v167_65 rfl rfl rfl rfl rfl ⟨?_, rfl⟩ ?_
          · refine mz_go 2 (c' := (4, [some (.ref 65)], [.int (x 10)], mz_set (mz_set m 65 x) 69 g)) rfl ?_
            rw [ho1]
            refine mz_go 2 (c' := (if (nI o) = 5 then 8 else 10, [some (.ref 65)], [], mz_set (mz_set m 65 x) 69 g)) rfl ?_
            refine mz_ifF (show ¬ ((nI o) = 5) from (sm_neN rfl rfl (show o ≠ 5 by omega) (show o < 2 ^ 31 by omega) (show 5 < 2 ^ 31 by omega))) ?_
            refine mz_go 3 (c' := (15, [some (.ref 65)], [.int (x 10), .ref 65], mz_set (mz_set m 65 x) 69 g)) rfl ?_
            rw [ho1]
            refine mz_go 3 (c' := (20, [some (.ref 65)], [], mz_up (mz_set (mz_set m 65 x) 69 g) 65 10 ((nI o) + 1))) rfl ?_
            rw [tx_up65]
            refine mz_go 3 (c' := (25, [some (.ref 65)], [.int ((sm_upd x 10 ((nI o) + 1)) 9), .ref 65], mz_set (mz_set m 65 (sm_upd x 10 ((nI o) + 1))) 69 g)) rfl ?_
            rw [show (sm_upd x 10 ((nI o) + 1)) 9 = x 9 from if_neg (by decide)]
            rw [hp]
            refine mz_go 3 (c' := (30, [some (.ref 65)], [], mz_up (mz_set (mz_set m 65 (sm_upd x 10 ((nI o) + 1))) 69 g) 65 9 ((nI p) + 1))) rfl ?_
            rw [tx_up65]
            refine mz_go 1 (c' := (31, [some (.ref 65)], [.int 1], mz_set (mz_set m 65 (sm_upd (sm_upd x 10 ((nI o) + 1)) 9 ((nI p) + 1))) 69 g)) rfl ?_
            exact mz_ret rfl
          refine mz_go 2 (c' := (156, [some (.ref 65), some (.int (tx_at T b p)), none, none], [.ref 65], mz_set (mz_set m 65 (sm_upd (sm_upd x 10 ((nI o) + 1)) 9 ((nI p) + 1))) 69 g)) rfl ?_
          refine mz_doQ (R := mz_r162) (as := [.ref 65]) (rest := []) (r1 := some (.int (sm_bI (f0 (p + 1)).1))) (m1 := mz_set (mz_set m 65 x1) 69 g1) mz_t162 mz_v162_65 rfl rfl rfl rfl rfl (E1.deep (by omega)) ?_
          refine mz_go 1 (c' := (if (sm_bI (f0 (p + 1)).1) = 0 then 171 else 162, [some (.ref 65), some (.int (tx_at T b p)), none, none], [], mz_set (mz_set m 65 x1) 69 g1)) rfl ?_
          refine mz_ifF hok ?_
          refine mz_go 1 (c' := (163, [some (.ref 65), some (.int (tx_at T b p)), none, none], [.ref 65], mz_set (mz_set m 65 x1) 69 g1)) rfl ?_
          refine mz_doQ (R := mz_r159) (as := [.ref 65]) (rest := []) (r1 := some (.int (tx_at T b ((f0 (p + 1)).2.1)))) (m1 := mz_set (mz_set m 65 x1) 69 g1) mz_t159 mz_v159_65 rfl rfl rfl rfl rfl ((tr_look (m := mz_set (mz_set m 65 x1) 69 g1) hT k1 k2 (p := (f0 (p + 1)).2.1) (show (mz_set (mz_set m 65 x1) 69 g1) 65 9 = nI ((f0 (p + 1)).2.1) from c1) (by omega)).deep (by omega)) ?_
          refine mz_go 2 (c' := (if (tx_at T b ((f0 (p + 1)).2.1)) = 41 then 173 else 171, [some (.ref 65), some (.int (tx_at T b p)), none, none], [], mz_set (mz_set m 65 x1) 69 g1)) rfl ?_
          refine mz_ifT h41 ?_
          refine mz_go 3 (c' := (178, [some (.ref 65), some (.int (tx_at T b p)), none, none], [.int (x1 9), .ref 65], mz_set (mz_set m 65 x1) 69 g1)) rfl ?_
          rw [c1]
          refine mz_go 3 (c' := (183, [some (.ref 65), some (.int (tx_at T b p)), none, none], [], mz_up (mz_set (mz_set m 65 x1) 69 g1) 65 9 ((nI ((f0 (p + 1)).2.1)) + 1))) rfl ?_
          rw [tx_up65]
          refine mz_go 3 (c' := (188, [some (.ref 65), some (.int (tx_at T b p)), none, none], [.int ((sm_upd x1 9 ((nI ((f0 (p + 1)).2.1)) + 1)) 10), .ref 65], mz_set (mz_set m 65 (sm_upd x1 9 ((nI ((f0 (p + 1)).2.1)) + 1))) 69 g1)) rfl ?_
          rw [show (sm_upd x1 9 ((nI ((f0 (p + 1)).2.1)) + 1)) 10 = x1 10 from if_neg (by decide)]
          rw [d1]
          refine mz_go 2 (c' := (190, [some (.ref 65), some (.int (tx_at T b p)), none, none], [.int ((nI (o + 1)) - 1), .ref 65], mz_set (mz_set m 65 (sm_upd x1 9 ((nI ((f0 (p + 1)).2.1)) + 1))) 69 g1)) rfl ?_
          rw [show (nI (o + 1)) - 1 = nI o from nI_pred _]
          refine mz_go 1 (c' := (193, [some (.ref 65), some (.int (tx_at T b p)), none, none], [], mz_up (mz_set (mz_set m 65 (sm_upd x1 9 ((nI ((f0 (p + 1)).2.1)) + 1))) 69 g1) 65 10 (nI o))) rfl ?_
          rw [tx_up65]
          refine mz_go 1 (c' := (194, [some (.ref 65), some (.int (tx_at T b p)), none, none], [.int 1], mz_set (mz_set m 65 (sm_upd (sm_upd x1 9 ((nI ((f0 (p + 1)).2.1)) + 1)) 10 (nI o))) 69 g1)) rfl ?_
          exact mz_ret rfl
        · rw [if_neg (fun z => h41 z.2)]
          refine ⟨x1, g1, ⟨?_, rfl⟩, c1, fun k h1 h2 h3 => (c2 k h1 h2 h3).trans (hy k h1 h2 h3), fun z => absurd z Bool.false_ne_true⟩
          refine mz_go 1 (c' := (1, [some (.ref 65), none, none, none], [.ref 65], mz_set (mz_set m 65 x) 69 g)) rfl ?_
          refine mz_doQ (R := mz_r159) (as := [.ref 65]) (rest := []) (r1 := some (.int (tx_at T b p))) (m1 := mz_set (mz_set m 65 x) 69 g) mz_t159 mz_v159_65 rfl rfl rfl rfl rfl ((tr_look (m := mz_set (mz_set m 65 x) 69 g) hT k1 k2 (p := p) (show (mz_set (mz_set m 65 x) 69 g) 65 9 = nI p from hp) (by omega)).deep (by omega)) ?_
          refine mz_go 3 (c' := (7, [some (.ref 65), some (.int (tx_at T b p)), none, none], [.int (tx_at T b p), .ref 65], mz_set (mz_set m 65 x) 69 g)) rfl ?_
          refine mz_doQ (R := mz_r160) (as := [.ref 65, .int (tx_at T b p)]) (rest := []) (r1 := some (.int (sm_bI (tx_name u (tx_at T b p)).isSome))) (m1 := mz_set (mz_set m 65 x) 69 g) mz_t160 mz_v160_65 rfl rfl rfl rfl rfl ((tr_isn hu (m := mz_set (mz_set m 65 x) 69 g) hu1 (tx_at T b p)).deep (by omega)) ?_
          refine mz_go 1 (c' := (if (sm_bI (tx_name u (tx_at T b p)).isSome) = 0 then 31 else 13, [some (.ref 65), some (.int (tx_at T b p)), none, none], [], mz_set (mz_set m 65 x) 69 g)) rfl ?_
          refine mz_ifT hn0 ?_
          refine mz_go 3 (c' := (36, [some (.ref 65), some (.int (tx_at T b p)), none, none], [.int 57, .int 48, .int (tx_at T b p)], mz_set (mz_set m 65 x) 69 g)) rfl ?_
          refine mz_doQ (R := mz_r128) (as := [.int (tx_at T b p), .int 48, .int 57]) (rest := []) (r1 := some (.int (sm_bI (tx_dig (tx_at T b p))))) (m1 := mz_set (mz_set m 65 x) 69 g) mz_t128 mz_v128 rfl rfl rfl rfl rfl ((tr_in (m := mz_set (mz_set m 65 x) 69 g) (tx_at T b p)).deep (by omega)) ?_
          refine mz_go 1 (c' := (if (sm_bI (tx_dig (tx_at T b p))) = 0 then 102 else 42, [some (.ref 65), some (.int (tx_at T b p)), none, none], [], mz_set (mz_set m 65 x) 69 g)) rfl ?_
          refine mz_ifT hd ?_
          refine mz_go 3 (c' := (if (tx_at T b p) = 33 then 108 else 142, [some (.ref 65), some (.int (tx_at T b p)), none, none], [], mz_set (mz_set m 65 x) 69 g)) rfl ?_
          refine mz_ifF (by rw [e2.1]; decide) ?_
          refine mz_go 3 (c' := (if (tx_at T b p) = 40 then 148 else 171, [some (.ref 65), some (.int (tx_at T b p)), none, none], [], mz_set (mz_set m 65 x) 69 g)) rfl ?_
          refine mz_ifT e2.1 ?_
          refine mz_go 1 (c' := (149, [some (.ref 65), some (.int (tx_at T b p)), none, none], [.ref 65], mz_set (mz_set m 65 x) 69 g)) rfl ?_
          refine mz_doQ (R := mz_r167) (as := [.ref 65]) (rest := []) (r1 := some (.int 1)) (m1 := mz_set (mz_set m 65 (sm_upd (sm_upd x 10 ((nI o) + 1)) 9 ((nI p) + 1))) 69 g) mz_t167 mz_v167_65 rfl rfl rfl rfl rfl ⟨?_, rfl⟩ ?_
          · refine mz_go 2 (c' := (4, [some (.ref 65)], [.int (x 10)], mz_set (mz_set m 65 x) 69 g)) rfl ?_
            rw [ho1]
            refine mz_go 2 (c' := (if (nI o) = 5 then 8 else 10, [some (.ref 65)], [], mz_set (mz_set m 65 x) 69 g)) rfl ?_
            refine mz_ifF (show ¬ ((nI o) = 5) from (sm_neN rfl rfl (show o ≠ 5 by omega) (show o < 2 ^ 31 by omega) (show 5 < 2 ^ 31 by omega))) ?_
            refine mz_go 3 (c' := (15, [some (.ref 65)], [.int (x 10), .ref 65], mz_set (mz_set m 65 x) 69 g)) rfl ?_
            rw [ho1]
            refine mz_go 3 (c' := (20, [some (.ref 65)], [], mz_up (mz_set (mz_set m 65 x) 69 g) 65 10 ((nI o) + 1))) rfl ?_
            rw [tx_up65]
            refine mz_go 3 (c' := (25, [some (.ref 65)], [.int ((sm_upd x 10 ((nI o) + 1)) 9), .ref 65], mz_set (mz_set m 65 (sm_upd x 10 ((nI o) + 1))) 69 g)) rfl ?_
            rw [show (sm_upd x 10 ((nI o) + 1)) 9 = x 9 from if_neg (by decide)]
            rw [hp]
            refine mz_go 3 (c' := (30, [some (.ref 65)], [], mz_up (mz_set (mz_set m 65 (sm_upd x 10 ((nI o) + 1))) 69 g) 65 9 ((nI p) + 1))) rfl ?_
            rw [tx_up65]
            refine mz_go 1 (c' := (31, [some (.ref 65)], [.int 1], mz_set (mz_set m 65 (sm_upd (sm_upd x 10 ((nI o) + 1)) 9 ((nI p) + 1))) 69 g)) rfl ?_
            exact mz_ret rfl
          refine mz_go 2 (c' := (156, [some (.ref 65), some (.int (tx_at T b p)), none, none], [.ref 65], mz_set (mz_set m 65 (sm_upd (sm_upd x 10 ((nI o) + 1)) 9 ((nI p) + 1))) 69 g)) rfl ?_
          refine mz_doQ (R := mz_r162) (as := [.ref 65]) (rest := []) (r1 := some (.int (sm_bI (f0 (p + 1)).1))) (m1 := mz_set (mz_set m 65 x1) 69 g1) mz_t162 mz_v162_65 rfl rfl rfl rfl rfl (E1.deep (by omega)) ?_
          refine mz_go 1 (c' := (if (sm_bI (f0 (p + 1)).1) = 0 then 171 else 162, [some (.ref 65), some (.int (tx_at T b p)), none, none], [], mz_set (mz_set m 65 x1) 69 g1)) rfl ?_
          refine mz_ifF hok ?_
          refine mz_go 1 (c' := (163, [some (.ref 65), some (.int (tx_at T b p)), none, none], [.ref 65], mz_set (mz_set m 65 x1) 69 g1)) rfl ?_
          refine mz_doQ (R := mz_r159) (as := [.ref 65]) (rest := []) (r1 := some (.int (tx_at T b ((f0 (p + 1)).2.1)))) (m1 := mz_set (mz_set m 65 x1) 69 g1) mz_t159 mz_v159_65 rfl rfl rfl rfl rfl ((tr_look (m := mz_set (mz_set m 65 x1) 69 g1) hT k1 k2 (p := (f0 (p + 1)).2.1) (show (mz_set (mz_set m 65 x1) 69 g1) 65 9 = nI ((f0 (p + 1)).2.1) from c1) (by omega)).deep (by omega)) ?_
          refine mz_go 2 (c' := (if (tx_at T b ((f0 (p + 1)).2.1)) = 41 then 173 else 171, [some (.ref 65), some (.int (tx_at T b p)), none, none], [], mz_set (mz_set m 65 x1) 69 g1)) rfl ?_
          refine mz_ifF h41 ?_
          refine mz_go 1 (c' := (172, [some (.ref 65), some (.int (tx_at T b p)), none, none], [.int 0], mz_set (mz_set m 65 x1) 69 g1)) rfl ?_
          exact mz_ret rfl
      · have hok : sm_bI (f0 (p + 1)).1 = 0 := by rw [eq_false_of_ne_true ok]; rfl
        rw [if_neg (fun z => ok z.1)]
        refine ⟨x1, g1, ⟨?_, rfl⟩, c1, fun k h1 h2 h3 => (c2 k h1 h2 h3).trans (hy k h1 h2 h3), fun z => absurd z Bool.false_ne_true⟩
        refine mz_go 1 (c' := (1, [some (.ref 65), none, none, none], [.ref 65], mz_set (mz_set m 65 x) 69 g)) rfl ?_
        refine mz_doQ (R := mz_r159) (as := [.ref 65]) (rest := []) (r1 := some (.int (tx_at T b p))) (m1 := mz_set (mz_set m 65 x) 69 g) mz_t159 mz_v159_65 rfl rfl rfl rfl rfl ((tr_look (m := mz_set (mz_set m 65 x) 69 g) hT k1 k2 (p := p) (show (mz_set (mz_set m 65 x) 69 g) 65 9 = nI p from hp) (by omega)).deep (by omega)) ?_
        refine mz_go 3 (c' := (7, [some (.ref 65), some (.int (tx_at T b p)), none, none], [.int (tx_at T b p), .ref 65], mz_set (mz_set m 65 x) 69 g)) rfl ?_
        refine mz_doQ (R := mz_r160) (as := [.ref 65, .int (tx_at T b p)]) (rest := []) (r1 := some (.int (sm_bI (tx_name u (tx_at T b p)).isSome))) (m1 := mz_set (mz_set m 65 x) 69 g) mz_t160 mz_v160_65 rfl rfl rfl rfl rfl ((tr_isn hu (m := mz_set (mz_set m 65 x) 69 g) hu1 (tx_at T b p)).deep (by omega)) ?_
        refine mz_go 1 (c' := (if (sm_bI (tx_name u (tx_at T b p)).isSome) = 0 then 31 else 13, [some (.ref 65), some (.int (tx_at T b p)), none, none], [], mz_set (mz_set m 65 x) 69 g)) rfl ?_
        refine mz_ifT hn0 ?_
        refine mz_go 3 (c' := (36, [some (.ref 65), some (.int (tx_at T b p)), none, none], [.int 57, .int 48, .int (tx_at T b p)], mz_set (mz_set m 65 x) 69 g)) rfl ?_
        refine mz_doQ (R := mz_r128) (as := [.int (tx_at T b p), .int 48, .int 57]) (rest := []) (r1 := some (.int (sm_bI (tx_dig (tx_at T b p))))) (m1 := mz_set (mz_set m 65 x) 69 g) mz_t128 mz_v128 rfl rfl rfl rfl rfl ((tr_in (m := mz_set (mz_set m 65 x) 69 g) (tx_at T b p)).deep (by omega)) ?_
        refine mz_go 1 (c' := (if (sm_bI (tx_dig (tx_at T b p))) = 0 then 102 else 42, [some (.ref 65), some (.int (tx_at T b p)), none, none], [], mz_set (mz_set m 65 x) 69 g)) rfl ?_
        refine mz_ifT hd ?_
        refine mz_go 3 (c' := (if (tx_at T b p) = 33 then 108 else 142, [some (.ref 65), some (.int (tx_at T b p)), none, none], [], mz_set (mz_set m 65 x) 69 g)) rfl ?_
        refine mz_ifF (by rw [e2.1]; decide) ?_
        refine mz_go 3 (c' := (if (tx_at T b p) = 40 then 148 else 171, [some (.ref 65), some (.int (tx_at T b p)), none, none], [], mz_set (mz_set m 65 x) 69 g)) rfl ?_
        refine mz_ifT e2.1 ?_
        refine mz_go 1 (c' := (149, [some (.ref 65), some (.int (tx_at T b p)), none, none], [.ref 65], mz_set (mz_set m 65 x) 69 g)) rfl ?_
        refine mz_doQ (R := mz_r167) (as := [.ref 65]) (rest := []) (r1 := some (.int 1)) (m1 := mz_set (mz_set m 65 (sm_upd (sm_upd x 10 ((nI o) + 1)) 9 ((nI p) + 1))) 69 g) mz_t167 mz_v167_65 rfl rfl rfl rfl rfl ⟨?_, rfl⟩ ?_
        · refine mz_go 2 (c' := (4, [some (.ref 65)], [.int (x 10)], mz_set (mz_set m 65 x) 69 g)) rfl ?_
          rw [ho1]
          refine mz_go 2 (c' := (if (nI o) = 5 then 8 else 10, [some (.ref 65)], [], mz_set (mz_set m 65 x) 69 g)) rfl ?_
          refine mz_ifF (show ¬ ((nI o) = 5) from (sm_neN rfl rfl (show o ≠ 5 by omega) (show o < 2 ^ 31 by omega) (show 5 < 2 ^ 31 by omega))) ?_
          refine mz_go 3 (c' := (15, [some (.ref 65)], [.int (x 10), .ref 65], mz_set (mz_set m 65 x) 69 g)) rfl ?_
          rw [ho1]
          refine mz_go 3 (c' := (20, [some (.ref 65)], [], mz_up (mz_set (mz_set m 65 x) 69 g) 65 10 ((nI o) + 1))) rfl ?_
          rw [tx_up65]
          refine mz_go 3 (c' := (25, [some (.ref 65)], [.int ((sm_upd x 10 ((nI o) + 1)) 9), .ref 65], mz_set (mz_set m 65 (sm_upd x 10 ((nI o) + 1))) 69 g)) rfl ?_
          rw [show (sm_upd x 10 ((nI o) + 1)) 9 = x 9 from if_neg (by decide)]
          rw [hp]
          refine mz_go 3 (c' := (30, [some (.ref 65)], [], mz_up (mz_set (mz_set m 65 (sm_upd x 10 ((nI o) + 1))) 69 g) 65 9 ((nI p) + 1))) rfl ?_
          rw [tx_up65]
          refine mz_go 1 (c' := (31, [some (.ref 65)], [.int 1], mz_set (mz_set m 65 (sm_upd (sm_upd x 10 ((nI o) + 1)) 9 ((nI p) + 1))) 69 g)) rfl ?_
          exact mz_ret rfl
        refine mz_go 2 (c' := (156, [some (.ref 65), some (.int (tx_at T b p)), none, none], [.ref 65], mz_set (mz_set m 65 (sm_upd (sm_upd x 10 ((nI o) + 1)) 9 ((nI p) + 1))) 69 g)) rfl ?_
        refine mz_doQ (R := mz_r162) (as := [.ref 65]) (rest := []) (r1 := some (.int (sm_bI (f0 (p + 1)).1))) (m1 := mz_set (mz_set m 65 x1) 69 g1) mz_t162 mz_v162_65 rfl rfl rfl rfl rfl (E1.deep (by omega)) ?_
        refine mz_go 1 (c' := (if (sm_bI (f0 (p + 1)).1) = 0 then 171 else 162, [some (.ref 65), some (.int (tx_at T b p)), none, none], [], mz_set (mz_set m 65 x1) 69 g1)) rfl ?_
        refine mz_ifT hok ?_
        refine mz_go 1 (c' := (172, [some (.ref 65), some (.int (tx_at T b p)), none, none], [.int 0], mz_set (mz_set m 65 x1) 69 g1)) rfl ?_
        exact mz_ret rfl
    · rw [if_neg e2]
      by_cases e3 : tx_at T b p = 33 ∧ o < 5
      · rw [if_pos e3]
        have hlt : p < T := tx_at_lt (by rw [e3.1]; decide)
        obtain ⟨x1, g1, E1, q1⟩ := (h5 e3.2) m (sm_upd (sm_upd x 10 ((nI o) + 1)) 9 ((nI p) + 1)) g k1 k2 (p + 1) s (by omega) (by omega) (Eq.trans tx_upE (nI_succ p).symm) (Eq.trans (tx_upN (by decide)) (Eq.trans tx_upE (nI_succ o).symm)) (Eq.trans (tx_upN (by decide)) (Eq.trans (tx_upN (by decide)) hs1)) (Eq.trans (tx_upN (by decide)) (Eq.trans (tx_upN (by decide)) hu1))
        have q2 := q1
        obtain ⟨c1, c2, c3⟩ := q2
        obtain ⟨G1, G2, G3⟩ := hG5 (p + 1) (by omega)
        have hy : ∀ k, k ≠ 9 → k ≠ 10 → k ≠ 11 → (sm_upd (sm_upd x 10 ((nI o) + 1)) 9 ((nI p) + 1)) k = x k := fun k h1 h2 h3 => (tx_upN h1).trans (tx_upN h2)
        have hn0 : sm_bI (tx_name u (tx_at T b p)).isSome = 0 := by rw [e3.1, tx_name_33 hu]; rfl
        by_cases ok : (f5 (p + 1)).1 = true
        · have hok : ¬ sm_bI (f5 (p + 1)).1 = 0 := by rw [ok]; decide
          obtain ⟨d1, d2, d3, d4⟩ := c3 ok
          obtain ⟨G4, G5, -⟩ := G3 ok
          have EL := tr_lay (m := m) (x := sm_upd x1 10 (nI o)) (g := g1) (s := (s + (f5 (p + 1)).2.2.length)) (by omega) (Eq.trans (tx_upN (by decide)) d2) 2 0
          rw [show sm_bI (f5 (p + 1)).1 = 1 from by rw [ok]; rfl]
          refine ⟨sm_upd (sm_upd x1 10 (nI o)) 11 ((nI (s + (f5 (p + 1)).2.2.length)) + 1), tx_ly g1 (s + (f5 (p + 1)).2.2.length) 2 0, ⟨?_, rfl⟩, tx_T_step (u := u) (o := o) (r := (true, p, [])) (q := f5 (p + 1)) (s := s) (x0 := x) (g0 := g) (x := x) (g := g) (y := (sm_upd (sm_upd x 10 ((nI o) + 1)) 9 ((nI p) + 1))) (x1 := x1) (g1 := g1) (c := 33) (a1 := 2) (a2 := 0) (P := (f5 (p + 1)).2.1) rfl ⟨hp, fun _ _ _ _ => rfl, fun _ => ⟨ho1, hs1, fun i hi => absurd hi (Nat.not_lt_zero i), fun _ _ => rfl⟩⟩ hy q1 ok sm_lk_not (x2 := sm_upd (sm_upd x1 10 (nI o)) 11 ((nI (s + (f5 (p + 1)).2.2.length)) + 1)) (Eq.trans (tx_upN (by decide)) (Eq.trans (tx_upN (by decide)) c1)) rfl (Eq.trans (tx_upN (by decide)) tx_upE) tx_upE (fun k h1 h2 h3 => (tx_upN h3).trans (tx_upN h2))⟩
          refine mz_go 1 (c' := (1, [some (.ref 65), none, none, none], [.ref 65], mz_set (mz_set m 65 x) 69 g)) rfl ?_
          refine mz_doQ (R := mz_r159) (as := [.ref 65]) (rest := []) (r1 := some (.int (tx_at T b p))) (m1 := mz_set (mz_set m 65 x) 69 g) mz_t159 mz_v159_65 rfl rfl rfl rfl rfl ((tr_look (m := mz_set (mz_set m 65 x) 69 g) hT k1 k2 (p := p) (show (mz_set (mz_set m 65 x) 69 g) 65 9 = nI p from hp) (by omega)).deep (by omega)) ?_
          refine mz_go 3 (c' := (7, [some (.ref 65), some (.int (tx_at T b p)), none, none], [.int (tx_at T b p), .ref 65], mz_set (mz_set m 65 x) 69 g)) rfl ?_
          refine mz_doQ (R := mz_r160) (as := [.ref 65, .int (tx_at T b p)]) (rest := []) (r1 := some (.int (sm_bI (tx_name u (tx_at T b p)).isSome))) (m1 := mz_set (mz_set m 65 x) 69 g) mz_t160 mz_v160_65 rfl rfl rfl rfl rfl ((tr_isn hu (m := mz_set (mz_set m 65 x) 69 g) hu1 (tx_at T b p)).deep (by omega)) ?_
          refine mz_go 1 (c' := (if (sm_bI (tx_name u (tx_at T b p)).isSome) = 0 then 31 else 13, [some (.ref 65), some (.int (tx_at T b p)), none, none], [], mz_set (mz_set m 65 x) 69 g)) rfl ?_
          refine mz_ifT hn0 ?_
          refine mz_go 3 (c' := (36, [some (.ref 65), some (.int (tx_at T b p)), none, none], [.int 57, .int 48, .int (tx_at T b p)], mz_set (mz_set m 65 x) 69 g)) rfl ?_
          refine mz_doQ (R := mz_r128) (as := [.int (tx_at T b p), .int 48, .int 57]) (rest := []) (r1 := some (.int (sm_bI (tx_dig (tx_at T b p))))) (m1 := mz_set (mz_set m 65 x) 69 g) mz_t128 mz_v128 rfl rfl rfl rfl rfl ((tr_in (m := mz_set (mz_set m 65 x) 69 g) (tx_at T b p)).deep (by omega)) ?_
          refine mz_go 1 (c' := (if (sm_bI (tx_dig (tx_at T b p))) = 0 then 102 else 42, [some (.ref 65), some (.int (tx_at T b p)), none, none], [], mz_set (mz_set m 65 x) 69 g)) rfl ?_
          refine mz_ifT hd ?_
          refine mz_go 3 (c' := (if (tx_at T b p) = 33 then 108 else 142, [some (.ref 65), some (.int (tx_at T b p)), none, none], [], mz_set (mz_set m 65 x) 69 g)) rfl ?_
          refine mz_ifT e3.1 ?_
          refine mz_go 1 (c' := (109, [some (.ref 65), some (.int (tx_at T b p)), none, none], [.ref 65], mz_set (mz_set m 65 x) 69 g)) rfl ?_
          refine mz_doQ (R := mz_r167) (as := [.ref 65]) (rest := []) (r1 := some (.int 1)) (m1 := mz_set (mz_set m 65 (sm_upd (sm_upd x 10 ((nI o) + 1)) 9 ((nI p) + 1))) 69 g) mz_t167 mz_v167_65 rfl rfl rfl rfl rfl ⟨?_, rfl⟩ ?_
          · refine mz_go 2 (c' := (4, [some (.ref 65)], [.int (x 10)], mz_set (mz_set m 65 x) 69 g)) rfl ?_
            rw [ho1]
            refine mz_go 2 (c' := (if (nI o) = 5 then 8 else 10, [some (.ref 65)], [], mz_set (mz_set m 65 x) 69 g)) rfl ?_
            refine mz_ifF (show ¬ ((nI o) = 5) from (sm_neN rfl rfl (show o ≠ 5 by omega) (show o < 2 ^ 31 by omega) (show 5 < 2 ^ 31 by omega))) ?_
            refine mz_go 3 (c' := (15, [some (.ref 65)], [.int (x 10), .ref 65], mz_set (mz_set m 65 x) 69 g)) rfl ?_
            rw [ho1]
            refine mz_go 3 (c' := (20, [some (.ref 65)], [], mz_up (mz_set (mz_set m 65 x) 69 g) 65 10 ((nI o) + 1))) rfl ?_
            rw [tx_up65]
            refine mz_go 3 (c' := (25, [some (.ref 65)], [.int ((sm_upd x 10 ((nI o) + 1)) 9), .ref 65], mz_set (mz_set m 65 (sm_upd x 10 ((nI o) + 1))) 69 g)) rfl ?_
            rw [show (sm_upd x 10 ((nI o) + 1)) 9 = x 9 from if_neg (by decide)]
            rw [hp]
            refine mz_go 3 (c' := (30, [some (.ref 65)], [], mz_up (mz_set (mz_set m 65 (sm_upd x 10 ((nI o) + 1))) 69 g) 65 9 ((nI p) + 1))) rfl ?_
            rw [tx_up65]
            refine mz_go 1 (c' := (31, [some (.ref 65)], [.int 1], mz_set (mz_set m 65 (sm_upd (sm_upd x 10 ((nI o) + 1)) 9 ((nI p) + 1))) 69 g)) rfl ?_
            exact mz_ret rfl
          refine mz_go 2 (c' := (116, [some (.ref 65), some (.int (tx_at T b p)), none, none], [.ref 65], mz_set (mz_set m 65 (sm_upd (sm_upd x 10 ((nI o) + 1)) 9 ((nI p) + 1))) 69 g)) rfl ?_
          refine mz_doQ (R := mz_r168) (as := [.ref 65]) (rest := []) (r1 := some (.int (sm_bI (f5 (p + 1)).1))) (m1 := mz_set (mz_set m 65 x1) 69 g1) mz_t168 mz_v168_65 rfl rfl rfl rfl rfl (E1.deep (by omega)) ?_
          refine mz_go 1 (c' := (if (sm_bI (f5 (p + 1)).1) = 0 then 122 else 124, [some (.ref 65), some (.int (tx_at T b p)), none, none], [], mz_set (mz_set m 65 x1) 69 g1)) rfl ?_
          refine mz_ifF hok ?_
          refine mz_go 3 (c' := (129, [some (.ref 65), some (.int (tx_at T b p)), none, none], [.int (x1 10), .ref 65], mz_set (mz_set m 65 x1) 69 g1)) rfl ?_
          rw [d1]
          refine mz_go 2 (c' := (131, [some (.ref 65), some (.int (tx_at T b p)), none, none], [.int ((nI (o + 1)) - 1), .ref 65], mz_set (mz_set m 65 x1) 69 g1)) rfl ?_
          rw [show (nI (o + 1)) - 1 = nI o from nI_pred _]
          refine mz_go 1 (c' := (134, [some (.ref 65), some (.int (tx_at T b p)), none, none], [], mz_up (mz_set (mz_set m 65 x1) 69 g1) 65 10 (nI o))) rfl ?_
          rw [tx_up65]
          refine mz_go 3 (c' := (137, [some (.ref 65), some (.int (tx_at T b p)), none, none], [.int 0, .int 2, .ref 65], mz_set (mz_set m 65 (sm_upd x1 10 (nI o))) 69 g1)) rfl ?_
          refine mz_doQ (R := mz_r161) (as := [.ref 65, .int 2, .int 0]) (rest := []) (r1 := none) (m1 := mz_set (mz_set m 65 (sm_upd (sm_upd x1 10 (nI o)) 11 ((nI (s + (f5 (p + 1)).2.2.length)) + 1))) 69 (tx_ly g1 (s + (f5 (p + 1)).2.2.length) 2 0)) mz_t161 mz_v161_65 rfl rfl rfl rfl rfl (EL.deep (by omega)) ?_
          refine mz_go 1 (c' := (141, [some (.ref 65), some (.int (tx_at T b p)), none, none], [.int 1], mz_set (mz_set m 65 (sm_upd (sm_upd x1 10 (nI o)) 11 ((nI (s + (f5 (p + 1)).2.2.length)) + 1))) 69 (tx_ly g1 (s + (f5 (p + 1)).2.2.length) 2 0))) rfl ?_
          exact mz_ret rfl
        · have hok : sm_bI (f5 (p + 1)).1 = 0 := by rw [eq_false_of_ne_true ok]; rfl
          rw [hok]
          refine ⟨x1, g1, ⟨?_, rfl⟩, tx_T_fail hy q1 ok⟩
          refine mz_go 1 (c' := (1, [some (.ref 65), none, none, none], [.ref 65], mz_set (mz_set m 65 x) 69 g)) rfl ?_
          refine mz_doQ (R := mz_r159) (as := [.ref 65]) (rest := []) (r1 := some (.int (tx_at T b p))) (m1 := mz_set (mz_set m 65 x) 69 g) mz_t159 mz_v159_65 rfl rfl rfl rfl rfl ((tr_look (m := mz_set (mz_set m 65 x) 69 g) hT k1 k2 (p := p) (show (mz_set (mz_set m 65 x) 69 g) 65 9 = nI p from hp) (by omega)).deep (by omega)) ?_
          refine mz_go 3 (c' := (7, [some (.ref 65), some (.int (tx_at T b p)), none, none], [.int (tx_at T b p), .ref 65], mz_set (mz_set m 65 x) 69 g)) rfl ?_
          refine mz_doQ (R := mz_r160) (as := [.ref 65, .int (tx_at T b p)]) (rest := []) (r1 := some (.int (sm_bI (tx_name u (tx_at T b p)).isSome))) (m1 := mz_set (mz_set m 65 x) 69 g) mz_t160 mz_v160_65 rfl rfl rfl rfl rfl ((tr_isn hu (m := mz_set (mz_set m 65 x) 69 g) hu1 (tx_at T b p)).deep (by omega)) ?_
          refine mz_go 1 (c' := (if (sm_bI (tx_name u (tx_at T b p)).isSome) = 0 then 31 else 13, [some (.ref 65), some (.int (tx_at T b p)), none, none], [], mz_set (mz_set m 65 x) 69 g)) rfl ?_
          refine mz_ifT hn0 ?_
          refine mz_go 3 (c' := (36, [some (.ref 65), some (.int (tx_at T b p)), none, none], [.int 57, .int 48, .int (tx_at T b p)], mz_set (mz_set m 65 x) 69 g)) rfl ?_
          refine mz_doQ (R := mz_r128) (as := [.int (tx_at T b p), .int 48, .int 57]) (rest := []) (r1 := some (.int (sm_bI (tx_dig (tx_at T b p))))) (m1 := mz_set (mz_set m 65 x) 69 g) mz_t128 mz_v128 rfl rfl rfl rfl rfl ((tr_in (m := mz_set (mz_set m 65 x) 69 g) (tx_at T b p)).deep (by omega)) ?_
          refine mz_go 1 (c' := (if (sm_bI (tx_dig (tx_at T b p))) = 0 then 102 else 42, [some (.ref 65), some (.int (tx_at T b p)), none, none], [], mz_set (mz_set m 65 x) 69 g)) rfl ?_
          refine mz_ifT hd ?_
          refine mz_go 3 (c' := (if (tx_at T b p) = 33 then 108 else 142, [some (.ref 65), some (.int (tx_at T b p)), none, none], [], mz_set (mz_set m 65 x) 69 g)) rfl ?_
          refine mz_ifT e3.1 ?_
          refine mz_go 1 (c' := (109, [some (.ref 65), some (.int (tx_at T b p)), none, none], [.ref 65], mz_set (mz_set m 65 x) 69 g)) rfl ?_
          refine mz_doQ (R := mz_r167) (as := [.ref 65]) (rest := []) (r1 := some (.int 1)) (m1 := mz_set (mz_set m 65 (sm_upd (sm_upd x 10 ((nI o) + 1)) 9 ((nI p) + 1))) 69 g) mz_t167 mz_v167_65 rfl rfl rfl rfl rfl ⟨?_, rfl⟩ ?_
          · refine mz_go 2 (c' := (4, [some (.ref 65)], [.int (x 10)], mz_set (mz_set m 65 x) 69 g)) rfl ?_
            rw [ho1]
            refine mz_go 2 (c' := (if (nI o) = 5 then 8 else 10, [some (.ref 65)], [], mz_set (mz_set m 65 x) 69 g)) rfl ?_
            refine mz_ifF (show ¬ ((nI o) = 5) from (sm_neN rfl rfl (show o ≠ 5 by omega) (show o < 2 ^ 31 by omega) (show 5 < 2 ^ 31 by omega))) ?_
            refine mz_go 3 (c' := (15, [some (.ref 65)], [.int (x 10), .ref 65], mz_set (mz_set m 65 x) 69 g)) rfl ?_
            rw [ho1]
            refine mz_go 3 (c' := (20, [some (.ref 65)], [], mz_up (mz_set (mz_set m 65 x) 69 g) 65 10 ((nI o) + 1))) rfl ?_
            rw [tx_up65]
            refine mz_go 3 (c' := (25, [some (.ref 65)], [.int ((sm_upd x 10 ((nI o) + 1)) 9), .ref 65], mz_set (mz_set m 65 (sm_upd x 10 ((nI o) + 1))) 69 g)) rfl ?_
            rw [show (sm_upd x 10 ((nI o) + 1)) 9 = x 9 from if_neg (by decide)]
            rw [hp]
            refine mz_go 3 (c' := (30, [some (.ref 65)], [], mz_up (mz_set (mz_set m 65 (sm_upd x 10 ((nI o) + 1))) 69 g) 65 9 ((nI p) + 1))) rfl ?_
            rw [tx_up65]
            refine mz_go 1 (c' := (31, [some (.ref 65)], [.int 1], mz_set (mz_set m 65 (sm_upd (sm_upd x 10 ((nI o) + 1)) 9 ((nI p) + 1))) 69 g)) rfl ?_
            exact mz_ret rfl
          refine mz_go 2 (c' := (116, [some (.ref 65), some (.int (tx_at T b p)), none, none], [.ref 65], mz_set (mz_set m 65 (sm_upd (sm_upd x 10 ((nI o) + 1)) 9 ((nI p) + 1))) 69 g)) rfl ?_
          refine mz_doQ (R := mz_r168) (as := [.ref 65]) (rest := []) (r1 := some (.int (sm_bI (f5 (p + 1)).1))) (m1 := mz_set (mz_set m 65 x1) 69 g1) mz_t168 mz_v168_65 rfl rfl rfl rfl rfl (E1.deep (by omega)) ?_
          refine mz_go 1 (c' := (if (sm_bI (f5 (p + 1)).1) = 0 then 122 else 124, [some (.ref 65), some (.int (tx_at T b p)), none, none], [], mz_set (mz_set m 65 x1) 69 g1)) rfl ?_
          refine mz_ifT hok ?_
          refine mz_go 1 (c' := (123, [some (.ref 65), some (.int (tx_at T b p)), none, none], [.int 0], mz_set (mz_set m 65 x1) 69 g1)) rfl ?_
          exact mz_ret rfl
      · rw [if_neg e3]
        cases hj : tx_name u (tx_at T b p) with
        | some j =>
          have hlt := tx_name_lt hj
          have hj5 : j < 5 := Nat.lt_of_lt_of_le (tx_name_c hu hj) (by unfold tx_c; split <;> decide)
          have hn0 : ¬ sm_bI (tx_name u (tx_at T b p)).isSome = 0 := by
            rw [hj]
            exact (by decide : ¬ (1 : Int32) = 0)
          have EL := tr_lay (m := m) (x := sm_upd x 9 ((nI p) + 1)) (g := g) (s := s) (by omega) (Eq.trans (tx_upN (by decide)) hs1) 1 (tx_at T b p)
          refine ⟨(sm_upd (sm_upd x 9 ((nI p) + 1)) 11 ((nI s) + 1)), (tx_ly g s 1 (tx_at T b p)), ⟨?_, rfl⟩, Eq.trans (tx_upN (by decide)) (Eq.trans tx_upE (nI_succ p).symm), fun k h1 h2 h3 => (tx_upN h3).trans (tx_upN h1), fun _ => ⟨Eq.trans (tx_upN (by decide)) (Eq.trans (tx_upN (by decide)) ho1), Eq.trans tx_upE (nI_succ s).symm, tx_ly_lk (sm_lk_nm hj5 (tx_name_ch hu hj)), fun i hi => tx_ly_keep hi⟩⟩
          refine mz_go 1 (c' := (1, [some (.ref 65), none, none, none], [.ref 65], mz_set (mz_set m 65 x) 69 g)) rfl ?_
          refine mz_doQ (R := mz_r159) (as := [.ref 65]) (rest := []) (r1 := some (.int (tx_at T b p))) (m1 := mz_set (mz_set m 65 x) 69 g) mz_t159 mz_v159_65 rfl rfl rfl rfl rfl ((tr_look (m := mz_set (mz_set m 65 x) 69 g) hT k1 k2 (p := p) (show (mz_set (mz_set m 65 x) 69 g) 65 9 = nI p from hp) (by omega)).deep (by omega)) ?_
          refine mz_go 3 (c' := (7, [some (.ref 65), some (.int (tx_at T b p)), none, none], [.int (tx_at T b p), .ref 65], mz_set (mz_set m 65 x) 69 g)) rfl ?_
          refine mz_doQ (R := mz_r160) (as := [.ref 65, .int (tx_at T b p)]) (rest := []) (r1 := some (.int (sm_bI (tx_name u (tx_at T b p)).isSome))) (m1 := mz_set (mz_set m 65 x) 69 g) mz_t160 mz_v160_65 rfl rfl rfl rfl rfl ((tr_isn hu (m := mz_set (mz_set m 65 x) 69 g) hu1 (tx_at T b p)).deep (by omega)) ?_
          refine mz_go 1 (c' := (if (sm_bI (tx_name u (tx_at T b p)).isSome) = 0 then 31 else 13, [some (.ref 65), some (.int (tx_at T b p)), none, none], [], mz_set (mz_set m 65 x) 69 g)) rfl ?_
          refine mz_ifF hn0 ?_
          refine mz_go 3 (c' := (18, [some (.ref 65), some (.int (tx_at T b p)), none, none], [.int (x 9), .ref 65], mz_set (mz_set m 65 x) 69 g)) rfl ?_
          rw [hp]
          refine mz_go 3 (c' := (23, [some (.ref 65), some (.int (tx_at T b p)), none, none], [], mz_up (mz_set (mz_set m 65 x) 69 g) 65 9 ((nI p) + 1))) rfl ?_
          rw [tx_up65]
          refine mz_go 3 (c' := (26, [some (.ref 65), some (.int (tx_at T b p)), none, none], [.int (tx_at T b p), .int 1, .ref 65], mz_set (mz_set m 65 (sm_upd x 9 ((nI p) + 1))) 69 g)) rfl ?_
          refine mz_doQ (R := mz_r161) (as := [.ref 65, .int 1, .int (tx_at T b p)]) (rest := []) (r1 := none) (m1 := mz_set (mz_set m 65 (sm_upd (sm_upd x 9 ((nI p) + 1)) 11 ((nI s) + 1))) 69 (tx_ly g s 1 (tx_at T b p))) mz_t161 mz_v161_65 rfl rfl rfl rfl rfl (EL.deep (by omega)) ?_
          refine mz_go 1 (c' := (30, [some (.ref 65), some (.int (tx_at T b p)), none, none], [.int 1], mz_set (mz_set m 65 (sm_upd (sm_upd x 9 ((nI p) + 1)) 11 ((nI s) + 1))) 69 (tx_ly g s 1 (tx_at T b p)))) rfl ?_
          exact mz_ret rfl
        | none =>
          have hn0 : sm_bI (tx_name u (tx_at T b p)).isSome = 0 := by rw [hj]; rfl
          refine ⟨x, g, ⟨?_, rfl⟩, hp, fun _ _ _ _ => rfl, fun z => absurd z Bool.false_ne_true⟩
          by_cases h40 : tx_at T b p = 40
          · have ho : ¬ o < 5 := fun z => e2 ⟨h40, z⟩
            have h33 : ¬ tx_at T b p = 33 := by rw [h40]; decide
            refine mz_go 1 (c' := (1, [some (.ref 65), none, none, none], [.ref 65], mz_set (mz_set m 65 x) 69 g)) rfl ?_
            refine mz_doQ (R := mz_r159) (as := [.ref 65]) (rest := []) (r1 := some (.int (tx_at T b p))) (m1 := mz_set (mz_set m 65 x) 69 g) mz_t159 mz_v159_65 rfl rfl rfl rfl rfl ((tr_look (m := mz_set (mz_set m 65 x) 69 g) hT k1 k2 (p := p) (show (mz_set (mz_set m 65 x) 69 g) 65 9 = nI p from hp) (by omega)).deep (by omega)) ?_
            refine mz_go 3 (c' := (7, [some (.ref 65), some (.int (tx_at T b p)), none, none], [.int (tx_at T b p), .ref 65], mz_set (mz_set m 65 x) 69 g)) rfl ?_
            refine mz_doQ (R := mz_r160) (as := [.ref 65, .int (tx_at T b p)]) (rest := []) (r1 := some (.int (sm_bI (tx_name u (tx_at T b p)).isSome))) (m1 := mz_set (mz_set m 65 x) 69 g) mz_t160 mz_v160_65 rfl rfl rfl rfl rfl ((tr_isn hu (m := mz_set (mz_set m 65 x) 69 g) hu1 (tx_at T b p)).deep (by omega)) ?_
            refine mz_go 1 (c' := (if (sm_bI (tx_name u (tx_at T b p)).isSome) = 0 then 31 else 13, [some (.ref 65), some (.int (tx_at T b p)), none, none], [], mz_set (mz_set m 65 x) 69 g)) rfl ?_
            refine mz_ifT hn0 ?_
            refine mz_go 3 (c' := (36, [some (.ref 65), some (.int (tx_at T b p)), none, none], [.int 57, .int 48, .int (tx_at T b p)], mz_set (mz_set m 65 x) 69 g)) rfl ?_
            refine mz_doQ (R := mz_r128) (as := [.int (tx_at T b p), .int 48, .int 57]) (rest := []) (r1 := some (.int (sm_bI (tx_dig (tx_at T b p))))) (m1 := mz_set (mz_set m 65 x) 69 g) mz_t128 mz_v128 rfl rfl rfl rfl rfl ((tr_in (m := mz_set (mz_set m 65 x) 69 g) (tx_at T b p)).deep (by omega)) ?_
            refine mz_go 1 (c' := (if (sm_bI (tx_dig (tx_at T b p))) = 0 then 102 else 42, [some (.ref 65), some (.int (tx_at T b p)), none, none], [], mz_set (mz_set m 65 x) 69 g)) rfl ?_
            refine mz_ifT hd ?_
            refine mz_go 3 (c' := (if (tx_at T b p) = 33 then 108 else 142, [some (.ref 65), some (.int (tx_at T b p)), none, none], [], mz_set (mz_set m 65 x) 69 g)) rfl ?_
            refine mz_ifF h33 ?_
            refine mz_go 3 (c' := (if (tx_at T b p) = 40 then 148 else 171, [some (.ref 65), some (.int (tx_at T b p)), none, none], [], mz_set (mz_set m 65 x) 69 g)) rfl ?_
            refine mz_ifT h40 ?_
            refine mz_go 1 (c' := (149, [some (.ref 65), some (.int (tx_at T b p)), none, none], [.ref 65], mz_set (mz_set m 65 x) 69 g)) rfl ?_
            refine mz_doQ (R := mz_r167) (as := [.ref 65]) (rest := []) (r1 := some (.int 0)) (m1 := mz_set (mz_set m 65 x) 69 g) mz_t167 mz_v167_65 rfl rfl rfl rfl rfl ⟨?_, rfl⟩ ?_
            · refine mz_go 2 (c' := (4, [some (.ref 65)], [.int (x 10)], mz_set (mz_set m 65 x) 69 g)) rfl ?_
              rw [ho1]
              refine mz_go 2 (c' := (if (nI o) = 5 then 8 else 10, [some (.ref 65)], [], mz_set (mz_set m 65 x) 69 g)) rfl ?_
              refine mz_ifT (show ((nI o) = 5) from (sm_eqN rfl rfl (show o = 5 by omega))) ?_
              refine mz_go 1 (c' := (9, [some (.ref 65)], [.int 0], mz_set (mz_set m 65 x) 69 g)) rfl ?_
              exact mz_ret rfl
            refine mz_go 2 (c' := (172, [some (.ref 65), some (.int (tx_at T b p)), none, none], [.int 0], mz_set (mz_set m 65 x) 69 g)) rfl ?_
            exact mz_ret rfl
          · by_cases h33 : tx_at T b p = 33
            · have ho : ¬ o < 5 := fun z => e3 ⟨h33, z⟩
              refine mz_go 1 (c' := (1, [some (.ref 65), none, none, none], [.ref 65], mz_set (mz_set m 65 x) 69 g)) rfl ?_
              refine mz_doQ (R := mz_r159) (as := [.ref 65]) (rest := []) (r1 := some (.int (tx_at T b p))) (m1 := mz_set (mz_set m 65 x) 69 g) mz_t159 mz_v159_65 rfl rfl rfl rfl rfl ((tr_look (m := mz_set (mz_set m 65 x) 69 g) hT k1 k2 (p := p) (show (mz_set (mz_set m 65 x) 69 g) 65 9 = nI p from hp) (by omega)).deep (by omega)) ?_
              refine mz_go 3 (c' := (7, [some (.ref 65), some (.int (tx_at T b p)), none, none], [.int (tx_at T b p), .ref 65], mz_set (mz_set m 65 x) 69 g)) rfl ?_
              refine mz_doQ (R := mz_r160) (as := [.ref 65, .int (tx_at T b p)]) (rest := []) (r1 := some (.int (sm_bI (tx_name u (tx_at T b p)).isSome))) (m1 := mz_set (mz_set m 65 x) 69 g) mz_t160 mz_v160_65 rfl rfl rfl rfl rfl ((tr_isn hu (m := mz_set (mz_set m 65 x) 69 g) hu1 (tx_at T b p)).deep (by omega)) ?_
              refine mz_go 1 (c' := (if (sm_bI (tx_name u (tx_at T b p)).isSome) = 0 then 31 else 13, [some (.ref 65), some (.int (tx_at T b p)), none, none], [], mz_set (mz_set m 65 x) 69 g)) rfl ?_
              refine mz_ifT hn0 ?_
              refine mz_go 3 (c' := (36, [some (.ref 65), some (.int (tx_at T b p)), none, none], [.int 57, .int 48, .int (tx_at T b p)], mz_set (mz_set m 65 x) 69 g)) rfl ?_
              refine mz_doQ (R := mz_r128) (as := [.int (tx_at T b p), .int 48, .int 57]) (rest := []) (r1 := some (.int (sm_bI (tx_dig (tx_at T b p))))) (m1 := mz_set (mz_set m 65 x) 69 g) mz_t128 mz_v128 rfl rfl rfl rfl rfl ((tr_in (m := mz_set (mz_set m 65 x) 69 g) (tx_at T b p)).deep (by omega)) ?_
              refine mz_go 1 (c' := (if (sm_bI (tx_dig (tx_at T b p))) = 0 then 102 else 42, [some (.ref 65), some (.int (tx_at T b p)), none, none], [], mz_set (mz_set m 65 x) 69 g)) rfl ?_
              refine mz_ifT hd ?_
              refine mz_go 3 (c' := (if (tx_at T b p) = 33 then 108 else 142, [some (.ref 65), some (.int (tx_at T b p)), none, none], [], mz_set (mz_set m 65 x) 69 g)) rfl ?_
              refine mz_ifT h33 ?_
              refine mz_go 1 (c' := (109, [some (.ref 65), some (.int (tx_at T b p)), none, none], [.ref 65], mz_set (mz_set m 65 x) 69 g)) rfl ?_
              refine mz_doQ (R := mz_r167) (as := [.ref 65]) (rest := []) (r1 := some (.int 0)) (m1 := mz_set (mz_set m 65 x) 69 g) mz_t167 mz_v167_65 rfl rfl rfl rfl rfl ⟨?_, rfl⟩ ?_
              · refine mz_go 2 (c' := (4, [some (.ref 65)], [.int (x 10)], mz_set (mz_set m 65 x) 69 g)) rfl ?_
                rw [ho1]
                refine mz_go 2 (c' := (if (nI o) = 5 then 8 else 10, [some (.ref 65)], [], mz_set (mz_set m 65 x) 69 g)) rfl ?_
                refine mz_ifT (show ((nI o) = 5) from (sm_eqN rfl rfl (show o = 5 by omega))) ?_
                refine mz_go 1 (c' := (9, [some (.ref 65)], [.int 0], mz_set (mz_set m 65 x) 69 g)) rfl ?_
                exact mz_ret rfl
              refine mz_go 2 (c' := (123, [some (.ref 65), some (.int (tx_at T b p)), none, none], [.int 0], mz_set (mz_set m 65 x) 69 g)) rfl ?_
              exact mz_ret rfl
            · skip
              refine mz_go 1 (c' := (1, [some (.ref 65), none, none, none], [.ref 65], mz_set (mz_set m 65 x) 69 g)) rfl ?_
              refine mz_doQ (R := mz_r159) (as := [.ref 65]) (rest := []) (r1 := some (.int (tx_at T b p))) (m1 := mz_set (mz_set m 65 x) 69 g) mz_t159 mz_v159_65 rfl rfl rfl rfl rfl ((tr_look (m := mz_set (mz_set m 65 x) 69 g) hT k1 k2 (p := p) (show (mz_set (mz_set m 65 x) 69 g) 65 9 = nI p from hp) (by omega)).deep (by omega)) ?_
              refine mz_go 3 (c' := (7, [some (.ref 65), some (.int (tx_at T b p)), none, none], [.int (tx_at T b p), .ref 65], mz_set (mz_set m 65 x) 69 g)) rfl ?_
              refine mz_doQ (R := mz_r160) (as := [.ref 65, .int (tx_at T b p)]) (rest := []) (r1 := some (.int (sm_bI (tx_name u (tx_at T b p)).isSome))) (m1 := mz_set (mz_set m 65 x) 69 g) mz_t160 mz_v160_65 rfl rfl rfl rfl rfl ((tr_isn hu (m := mz_set (mz_set m 65 x) 69 g) hu1 (tx_at T b p)).deep (by omega)) ?_
              refine mz_go 1 (c' := (if (sm_bI (tx_name u (tx_at T b p)).isSome) = 0 then 31 else 13, [some (.ref 65), some (.int (tx_at T b p)), none, none], [], mz_set (mz_set m 65 x) 69 g)) rfl ?_
              refine mz_ifT hn0 ?_
              refine mz_go 3 (c' := (36, [some (.ref 65), some (.int (tx_at T b p)), none, none], [.int 57, .int 48, .int (tx_at T b p)], mz_set (mz_set m 65 x) 69 g)) rfl ?_
              refine mz_doQ (R := mz_r128) (as := [.int (tx_at T b p), .int 48, .int 57]) (rest := []) (r1 := some (.int (sm_bI (tx_dig (tx_at T b p))))) (m1 := mz_set (mz_set m 65 x) 69 g) mz_t128 mz_v128 rfl rfl rfl rfl rfl ((tr_in (m := mz_set (mz_set m 65 x) 69 g) (tx_at T b p)).deep (by omega)) ?_
              refine mz_go 1 (c' := (if (sm_bI (tx_dig (tx_at T b p))) = 0 then 102 else 42, [some (.ref 65), some (.int (tx_at T b p)), none, none], [], mz_set (mz_set m 65 x) 69 g)) rfl ?_
              refine mz_ifT hd ?_
              refine mz_go 3 (c' := (if (tx_at T b p) = 33 then 108 else 142, [some (.ref 65), some (.int (tx_at T b p)), none, none], [], mz_set (mz_set m 65 x) 69 g)) rfl ?_
              refine mz_ifF h33 ?_
              refine mz_go 3 (c' := (if (tx_at T b p) = 40 then 148 else 171, [some (.ref 65), some (.int (tx_at T b p)), none, none], [], mz_set (mz_set m 65 x) 69 g)) rfl ?_
              refine mz_ifF h40 ?_
              refine mz_go 1 (c' := (172, [some (.ref 65), some (.int (tx_at T b p)), none, none], [.int 0], mz_set (mz_set m 65 x) 69 g)) rfl ?_
              exact mz_ret rfl
