/-! texts read: a plain parser -/
noncomputable abbrev tx_R : Type := Bool × Nat × List (Int32 × Int32)
noncomputable def tx_at (T : Nat) (b : Nat → Int32) (p : Nat) : Int32 := if p < T then b p else -1
noncomputable def tx_dig (c : Int32) : Bool := !decide (c < 48) && !decide (57 < c)
noncomputable def tx_joins (l : Nat) (c : Int32) : Bool := match l with
  | 0 => decide (c = 124)
  | 1 => decide (c = 38)
  | 2 => decide (c = 60) || (decide (c = 61) || decide (c = 62))
  | 3 => decide (c = 43) || decide (c = 45)
  | _ => decide (c = 42) || (decide (c = 47) || decide (c = 37))
noncomputable def tx_name (u : Nat) (c : Int32) : Option Nat := match u with
  | 0 => if c = 114 then some 0 else if c = 115 then some 1 else if c = 110 then some 2 else none
  | 1 => if c = 118 then some 0 else if c = 114 then some 1 else if c = 110 then some 2 else none
  | _ => if c = 99 then some 0 else if c = 108 then some 1 else if c = 120 then some 2 else if c = 121 then some 3 else if c = 101 then some 4 else none
noncomputable def tx_num (T : Nat) (b : Nat → Int32) : Nat → Nat → Int32 → Int32 × Nat
  | 0, p, v => (v, p)
  | n + 1, p, v => if tx_dig (tx_at T b p) = true then tx_num T b n (p + 1) ((v * 10 + tx_at T b p) - 48) else (v, p)
noncomputable def tx_lp (T : Nat) (b : Nat → Int32) (l : Nat) (f : Nat → tx_R) : Nat → tx_R → tx_R
  | 0, r => r
  | m + 1, r => if r.1 = true ∧ tx_joins l (tx_at T b r.2.1) = true then tx_lp T b l f m ((f (r.2.1 + 1)).1, (f (r.2.1 + 1)).2.1, r.2.2 ++ (f (r.2.1 + 1)).2.2 ++ [(tx_at T b r.2.1, 0)]) else r
noncomputable def tx_most (l : Nat) : Nat := if l = 2 then 1 else 60
noncomputable def tx_op (u T : Nat) (b : Nat → Int32) (o p : Nat) (f0 f5 : Nat → tx_R) : tx_R :=
  if tx_dig (tx_at T b p) = true then (true, (tx_num T b 4 p 0).2, [(0, (tx_num T b 4 p 0).1)])
  else if tx_at T b p = 40 ∧ o < 5 then (if (f0 (p + 1)).1 = true ∧ tx_at T b (f0 (p + 1)).2.1 = 41 then (true, (f0 (p + 1)).2.1 + 1, (f0 (p + 1)).2.2) else (false, (f0 (p + 1)).2.1, (f0 (p + 1)).2.2))
  else if tx_at T b p = 33 ∧ o < 5 then ((f5 (p + 1)).1, (f5 (p + 1)).2.1, (f5 (p + 1)).2.2 ++ [(33, 0)])
  else match tx_name u (tx_at T b p) with
    | some j => (true, p + 1, [(1, nI j)])
    | none => (false, p, [])
noncomputable def tx_rd (u T : Nat) (b : Nat → Int32) : Nat → Nat → Nat → Nat → tx_R
  | 0, _, _, p => (false, p, [])
  | n + 1, l, o, p => if l < 5 then tx_lp T b l (tx_rd u T b n (l + 1) o) (tx_most l) (tx_rd u T b n (l + 1) o p) else tx_op u T b o p (tx_rd u T b n 0 (o + 1)) (tx_rd u T b n 5 (o + 1))
/-- what is behind a byte -/
theorem tx_at_lt {T : Nat} {b : Nat → Int32} {p : Nat} (h : tx_at T b p ≠ -1) : p < T := by
  unfold tx_at at h
  by_cases e : p < T
  · exact e
  · rw [if_neg e] at h
    exact absurd rfl h
theorem tx_dig_lt {T : Nat} {b : Nat → Int32} {p : Nat} (h : tx_dig (tx_at T b p) = true) : p < T := tx_at_lt (fun e => by
  rw [e] at h
  exact absurd h (by decide))
theorem tx_joins_lt {T : Nat} {b : Nat → Int32} {l p : Nat} (h : tx_joins l (tx_at T b p) = true) : p < T := tx_at_lt (fun e => by
  rw [e] at h
  match l, h with
  | 0, h => exact absurd h (by decide)
  | 1, h => exact absurd h (by decide)
  | 2, h => exact absurd h (by decide)
  | 3, h => exact absurd h (by decide)
  | _ + 4, h => exact absurd h (show ¬ ((decide ((-1 : Int32) = 42) || (decide ((-1 : Int32) = 47) || decide ((-1 : Int32) = 37))) = true) by decide))
theorem tx_name_lt {T : Nat} {b : Nat → Int32} {u p j : Nat} (h : tx_name u (tx_at T b p) = some j) : p < T := tx_at_lt (fun e => by
  rw [e] at h
  match u, h with
  | 0, h =>
    rw [show tx_name 0 (-1) = none from rfl] at h
    cases h
  | 1, h =>
    rw [show tx_name 1 (-1) = none from rfl] at h
    cases h
  | q + 2, h =>
    rw [show tx_name (q + 2) (-1) = none from rfl] at h
    cases h)
/-- how many names a use has -/
noncomputable def tx_c (u : Nat) : Nat := if u = 2 then 5 else 3
theorem tx_name_c {u j : Nat} (hu : u < 3) {c : Int32} (h : tx_name u c = some j) : j < tx_c u := by
  rcases (show u = 0 ∨ u = 1 ∨ u = 2 by omega) with rfl | rfl | rfl
  · show j < 3
    by_cases n0 : c = 114
    · have e : tx_name 0 c = some 0 := if_pos n0
      rw [e] at h
      cases h
      decide
    · skip
      by_cases n1 : c = 115
      · have e : tx_name 0 c = some 1 := (if_neg n0).trans (if_pos n1)
        rw [e] at h
        cases h
        decide
      · skip
        by_cases n2 : c = 110
        · have e : tx_name 0 c = some 2 := (if_neg n0).trans ((if_neg n1).trans (if_pos n2))
          rw [e] at h
          cases h
          decide
        · skip
          have e : tx_name 0 c = none := (if_neg n0).trans ((if_neg n1).trans (if_neg n2))
          rw [e] at h
          cases h
  · show j < 3
    by_cases n0 : c = 118
    · have e : tx_name 1 c = some 0 := if_pos n0
      rw [e] at h
      cases h
      decide
    · skip
      by_cases n1 : c = 114
      · have e : tx_name 1 c = some 1 := (if_neg n0).trans (if_pos n1)
        rw [e] at h
        cases h
        decide
      · skip
        by_cases n2 : c = 110
        · have e : tx_name 1 c = some 2 := (if_neg n0).trans ((if_neg n1).trans (if_pos n2))
          rw [e] at h
          cases h
          decide
        · skip
          have e : tx_name 1 c = none := (if_neg n0).trans ((if_neg n1).trans (if_neg n2))
          rw [e] at h
          cases h
  · show j < 5
    by_cases n0 : c = 99
    · have e : tx_name 2 c = some 0 := if_pos n0
      rw [e] at h
      cases h
      decide
    · skip
      by_cases n1 : c = 108
      · have e : tx_name 2 c = some 1 := (if_neg n0).trans (if_pos n1)
        rw [e] at h
        cases h
        decide
      · skip
        by_cases n2 : c = 120
        · have e : tx_name 2 c = some 2 := (if_neg n0).trans ((if_neg n1).trans (if_pos n2))
          rw [e] at h
          cases h
          decide
        · skip
          by_cases n3 : c = 121
          · have e : tx_name 2 c = some 3 := (if_neg n0).trans ((if_neg n1).trans ((if_neg n2).trans (if_pos n3)))
            rw [e] at h
            cases h
            decide
          · skip
            by_cases n4 : c = 101
            · have e : tx_name 2 c = some 4 := (if_neg n0).trans ((if_neg n1).trans ((if_neg n2).trans ((if_neg n3).trans (if_pos n4))))
              rw [e] at h
              cases h
              decide
            · skip
              have e : tx_name 2 c = none := (if_neg n0).trans ((if_neg n1).trans ((if_neg n2).trans ((if_neg n3).trans (if_neg n4))))
              rw [e] at h
              cases h
theorem tx_num_p {T : Nat} {b : Nat → Int32} : ∀ (n p : Nat) (v : Int32), p ≤ T → p ≤ (tx_num T b n p v).2 ∧ (tx_num T b n p v).2 ≤ T := by
  intro n
  induction n with
  | zero => exact fun p v h => ⟨Nat.le_refl p, h⟩
  | succ n ih =>
    intro p v h
    unfold tx_num
    by_cases e : tx_dig (tx_at T b p) = true
    · rw [if_pos e]
      have := tx_dig_lt e
      obtain ⟨h1, h2⟩ := ih (p + 1) ((v * 10 + tx_at T b p) - 48) (by omega)
      exact ⟨by omega, h2⟩
    · rw [if_neg e]
      exact ⟨Nat.le_refl p, h⟩
theorem tx_num_1 {T : Nat} {b : Nat → Int32} {n p : Nat} {v : Int32} (e : tx_dig (tx_at T b p) = true) : p + 1 ≤ (tx_num T b (n + 1) p v).2 := by
  have := tx_dig_lt e
  show p + 1 ≤ (if tx_dig (tx_at T b p) = true then tx_num T b n (p + 1) ((v * 10 + tx_at T b p) - 48) else (v, p)).2
  rw [if_pos e]
  exact (tx_num_p n (p + 1) _ (by omega)).1
/-- depth behind a list of steps -/
noncomputable def tx_ld (c : Nat) : List (Int32 × Int32) → Nat → Option Nat
  | [], d => some d
  | q :: L, d => if q.1 = 0 ∨ (q.1 = 1 ∧ ∃ j, j < c ∧ q.2 = nI j) then tx_ld c L (d + 1) else if q.1 = 33 ∧ 1 ≤ d then tx_ld c L d else if sm_sgn q.1 = true ∧ 2 ≤ d then tx_ld c L (d - 1) else none
theorem tx_ld_app {c : Nat} : ∀ (L M : List (Int32 × Int32)) (d e : Nat), tx_ld c L d = some e → tx_ld c (L ++ M) d = tx_ld c M e := by
  intro L
  induction L with
  | nil =>
    intro M d e h
    cases h
    rfl
  | cons q L ih =>
    intro M d e h
    unfold tx_ld at h
    show tx_ld c (q :: (L ++ M)) d = _
    rw [tx_ld]
    split at h
    · rename_i h1
      rw [if_pos h1]
      exact ih M _ _ h
    · rename_i h1
      rw [if_neg h1]
      split at h
      · rename_i h2
        rw [if_pos h2]
        exact ih M _ _ h
      · rename_i h2
        rw [if_neg h2]
        split at h
        · rename_i h3
          rw [if_pos h3]
          exact ih M _ _ h
        · cases h
/-- what holds of every reading: from p on -/
noncomputable def tx_G (u T p : Nat) (r : tx_R) : Prop := p ≤ r.2.1 ∧ r.2.1 ≤ T ∧ (r.1 = true → p + 1 ≤ r.2.1 ∧ p + r.2.2.length ≤ r.2.1 ∧ ∀ d, tx_ld (tx_c u) r.2.2 d = some (d + 1))
theorem tx_joins_sgn {l : Nat} {c : Int32} (h : tx_joins l c = true) : sm_sgn c = true := by
  match l, h with
  | 0, h =>
    have e : c = 124 := of_decide_eq_true h
    subst e
    decide
  | 1, h =>
    have e : c = 38 := of_decide_eq_true h
    subst e
    decide
  | 2, h =>
    rcases (Bool.or_eq_true _ _).mp h with h | h
    · have e : c = 60 := of_decide_eq_true h
      subst e
      decide
    · rcases (Bool.or_eq_true _ _).mp h with h | h
      · have e : c = 61 := of_decide_eq_true h
        subst e
        decide
      · have e : c = 62 := of_decide_eq_true h
        subst e
        decide
  | 3, h =>
    rcases (Bool.or_eq_true _ _).mp h with h | h
    · have e : c = 43 := of_decide_eq_true h
      subst e
      decide
    · have e : c = 45 := of_decide_eq_true h
      subst e
      decide
  | _ + 4, h =>
    rcases (Bool.or_eq_true _ _).mp h with h | h
    · have e : c = 42 := of_decide_eq_true h
      subst e
      decide
    · rcases (Bool.or_eq_true _ _).mp h with h | h
      · have e : c = 47 := of_decide_eq_true h
        subst e
        decide
      · have e : c = 37 := of_decide_eq_true h
        subst e
        decide
theorem tx_ld_sgn {k : Nat} {c : Int32} (h : sm_sgn c = true) (d : Nat) : tx_ld k [(c, 0)] (d + 2) = some (d + 1) := by
  obtain ⟨h0, h1, h33, -⟩ := sm_sgn_ne h
  rw [tx_ld, if_neg (fun e => e.elim h0 (fun e => h1 e.1)), if_neg (fun e => h33 e.1), if_pos ⟨h, by omega⟩]
  rfl
theorem tx_lp_G {u T : Nat} {b : Nat → Int32} {l : Nat} {f : Nat → tx_R} (hf : ∀ q, q ≤ T → tx_G u T q (f q)) : ∀ (m p : Nat) (r : tx_R), tx_G u T p r → tx_G u T p (tx_lp T b l f m r) := by
  intro m
  induction m with
  | zero => exact fun p r h => h
  | succ m ih =>
    intro p r h
    show tx_G u T p (if r.1 = true ∧ tx_joins l (tx_at T b r.2.1) = true then _ else r)
    by_cases e : r.1 = true ∧ tx_joins l (tx_at T b r.2.1) = true
    · rw [if_pos e]
      obtain ⟨h1, h2, h3⟩ := h
      obtain ⟨a1, a2, a3⟩ := h3 e.1
      have hlt := tx_joins_lt e.2
      obtain ⟨q1, q2, q3⟩ := hf (r.2.1 + 1) (by omega)
      refine ih p _ ⟨?_, q2, fun ok => ?_⟩
      · show p ≤ (f (r.2.1 + 1)).2.1
        omega
      · obtain ⟨c1, c2, c3⟩ := q3 ok
        refine ⟨?_, ?_, fun d => ?_⟩
        · show p + 1 ≤ (f (r.2.1 + 1)).2.1
          omega
        · show p + (r.2.2 ++ (f (r.2.1 + 1)).2.2 ++ [(tx_at T b r.2.1, 0)]).length ≤ (f (r.2.1 + 1)).2.1
          rw [List.length_append, List.length_append]
          show p + (r.2.2.length + (f (r.2.1 + 1)).2.2.length + 1) ≤ (f (r.2.1 + 1)).2.1
          omega
        · show tx_ld (tx_c u) (r.2.2 ++ (f (r.2.1 + 1)).2.2 ++ [(tx_at T b r.2.1, 0)]) d = some (d + 1)
          rw [List.append_assoc, tx_ld_app _ _ _ _ (a3 d), tx_ld_app _ _ _ _ (c3 (d + 1))]
          exact tx_ld_sgn (tx_joins_sgn e.2) d
    · rw [if_neg e]
      exact h
theorem tx_op_G {u T : Nat} {b : Nat → Int32} {o p : Nat} {f0 f5 : Nat → tx_R} (hu : u < 3) (hp : p ≤ T) (h0 : ∀ q, q ≤ T → tx_G u T q (f0 q)) (h5 : ∀ q, q ≤ T → tx_G u T q (f5 q)) : tx_G u T p (tx_op u T b o p f0 f5) := by
  unfold tx_op
  by_cases e1 : tx_dig (tx_at T b p) = true
  · rw [if_pos e1]
    obtain ⟨a, c⟩ := tx_num_p (T := T) (b := b) 4 p 0 hp
    refine ⟨a, c, fun _ => ⟨tx_num_1 e1, tx_num_1 e1, fun d => ?_⟩⟩
    rw [tx_ld, if_pos (Or.inl rfl)]
    rfl
  · rw [if_neg e1]
    by_cases e2 : tx_at T b p = 40 ∧ o < 5
    · rw [if_pos e2]
      have hlt : p < T := tx_at_lt (by rw [e2.1]; decide)
      obtain ⟨q1, q2, q3⟩ := h0 (p + 1) (by omega)
      by_cases e3 : (f0 (p + 1)).1 = true ∧ tx_at T b (f0 (p + 1)).2.1 = 41
      · rw [if_pos e3]
        have hlt2 : (f0 (p + 1)).2.1 < T := tx_at_lt (by rw [e3.2]; decide)
        obtain ⟨c1, c2, c3⟩ := q3 e3.1
        refine ⟨?_, ?_, fun _ => ⟨?_, ?_, c3⟩⟩
        · show p ≤ (f0 (p + 1)).2.1 + 1
          omega
        · show (f0 (p + 1)).2.1 + 1 ≤ T
          omega
        · show p + 1 ≤ (f0 (p + 1)).2.1 + 1
          omega
        · show p + (f0 (p + 1)).2.2.length ≤ (f0 (p + 1)).2.1 + 1
          omega
      · rw [if_neg e3]
        refine ⟨?_, q2, fun h => absurd h Bool.false_ne_true⟩
        show p ≤ (f0 (p + 1)).2.1
        omega
    · rw [if_neg e2]
      by_cases e3 : tx_at T b p = 33 ∧ o < 5
      · rw [if_pos e3]
        have hlt : p < T := tx_at_lt (by rw [e3.1]; decide)
        obtain ⟨q1, q2, q3⟩ := h5 (p + 1) (by omega)
        refine ⟨?_, q2, fun ok => ?_⟩
        · show p ≤ (f5 (p + 1)).2.1
          omega
        · obtain ⟨c1, c2, c3⟩ := q3 ok
          refine ⟨?_, ?_, fun d => ?_⟩
          · show p + 1 ≤ (f5 (p + 1)).2.1
            omega
          · show p + ((f5 (p + 1)).2.2 ++ [((33 : Int32), (0 : Int32))]).length ≤ (f5 (p + 1)).2.1
            rw [List.length_append]
            show p + ((f5 (p + 1)).2.2.length + 1) ≤ (f5 (p + 1)).2.1
            omega
          · show tx_ld (tx_c u) ((f5 (p + 1)).2.2 ++ [((33 : Int32), (0 : Int32))]) d = some (d + 1)
            rw [tx_ld_app _ _ _ _ (c3 d), tx_ld, if_neg (by
              rintro (h | ⟨h, -⟩)
              · exact absurd h (by decide)
              · exact absurd h (by decide)), if_pos ⟨rfl, by omega⟩]
            rfl
      · rw [if_neg e3]
        split
        · rename_i j hj
          have hlt := tx_name_lt hj
          refine ⟨?_, ?_, fun _ => ⟨Nat.le_refl _, Nat.le_refl _, fun d => ?_⟩⟩
          · show p ≤ p + 1
            omega
          · show p + 1 ≤ T
            omega
          · rw [tx_ld, if_pos (Or.inr ⟨rfl, j, tx_name_c hu hj, rfl⟩)]
            rfl
        · exact ⟨Nat.le_refl p, hp, fun h => absurd h Bool.false_ne_true⟩
theorem tx_rd_G {u T : Nat} {b : Nat → Int32} (hu : u < 3) : ∀ n l o p, p ≤ T → tx_G u T p (tx_rd u T b n l o p) := by
  intro n
  induction n with
  | zero => exact fun l o p hp => ⟨Nat.le_refl p, hp, fun h => absurd h Bool.false_ne_true⟩
  | succ n ih =>
    intro l o p hp
    rw [tx_rd]
    by_cases e : l < 5
    · rw [if_pos e]
      exact tx_lp_G (fun q hq => ih (l + 1) o q hq) _ p _ (ih (l + 1) o p hp)
    · rw [if_neg e]
      exact tx_op_G hu hp (fun q hq => ih 0 (o + 1) q hq) (fun q hq => ih 5 (o + 1) q hq)
/-- a list of steps in rows -/
noncomputable def tx_in (L : List (Int32 × Int32)) (s : Nat) (g v : Nat → Int32) : Prop := ∀ i, i < L.length → g (s + i) = (L.getD i (0, 0)).1 ∧ v (s + i) = (L.getD i (0, 0)).2
theorem tx_in_app {L M : List (Int32 × Int32)} {s : Nat} {g v : Nat → Int32} (h1 : tx_in L s g v) (h2 : tx_in M (s + L.length) g v) : tx_in (L ++ M) s g v := by
  intro i hi
  rw [List.length_append] at hi
  rw [List.getD_eq_getElem?_getD]
  by_cases e : i < L.length
  · rw [List.getElem?_append_left e, ← List.getD_eq_getElem?_getD]
    exact h1 i e
  · rw [List.getElem?_append_right (by omega), ← List.getD_eq_getElem?_getD]
    have := h2 (i - L.length) (by omega)
    rw [show s + L.length + (i - L.length) = s + i by omega] at this
    exact this
theorem tx_in_keep {L : List (Int32 × Int32)} {s : Nat} {g v g' v' : Nat → Int32} (h : tx_in L s g v) (k : ∀ i, i < s + L.length → g' i = g i ∧ v' i = v i) : tx_in L s g' v' := fun i hi => ⟨(k _ (by omega)).1.trans (h i hi).1, (k _ (by omega)).2.trans (h i hi).2⟩
theorem tx_in_one {s : Nat} {g v : Nat → Int32} {a c : Int32} (h1 : g s = a) (h2 : v s = c) : tx_in [(a, c)] s g v := by
  intro i hi
  have hi2 : i < 1 := hi
  obtain rfl : i = 0 := by omega
  exact ⟨h1, h2⟩
theorem tx_ld_dp {c : Nat} {g v : Nat → Int32} : ∀ (L : List (Int32 × Int32)) (s e : Nat), tx_in L s g v → tx_ld c L (sm_dp g s) = some e → sm_dp g (s + L.length) = e ∧ ∀ k, s ≤ k → k < s + L.length → g k = 0 ∨ (g k = 1 ∧ ∃ j, j < c ∧ v k = nI j) ∨ (g k = 33 ∧ 1 ≤ sm_dp g k) ∨ (sm_sgn (g k) = true ∧ 2 ≤ sm_dp g k) := by
  intro L
  induction L with
  | nil =>
    intro s e _ h
    cases h
    exact ⟨rfl, fun k h1 h2 => absurd h2 (by
      show ¬ k < s + 0
      omega)⟩
  | cons q L ih =>
    intro s e hin h
    obtain ⟨g0, v0⟩ := hin 0 (Nat.zero_lt_succ _)
    have g1 : g s = q.1 := g0
    have v1 : v s = q.2 := v0
    have hin2 : tx_in L (s + 1) g v := fun i hi => by
      have := hin (i + 1) (Nat.succ_lt_succ hi)
      rw [show s + (i + 1) = s + 1 + i by omega] at this
      exact this
    have hlen : s + (q :: L).length = s + 1 + L.length := by
      show s + (L.length + 1) = _
      omega
    have hdp : sm_dp g (s + 1) = if g s = 0 ∨ g s = 1 then sm_dp g s + 1 else if g s = 33 then sm_dp g s else sm_dp g s - 1 := rfl
    rw [g1] at hdp
    rw [hlen]
    have fin : ∀ e', sm_dp g (s + 1) = e' → tx_ld c L e' = some e → (q.1 = 0 ∨ (q.1 = 1 ∧ ∃ j, j < c ∧ q.2 = nI j) ∨ (q.1 = 33 ∧ 1 ≤ sm_dp g s) ∨ (sm_sgn q.1 = true ∧ 2 ≤ sm_dp g s)) → sm_dp g (s + 1 + L.length) = e ∧ ∀ k, s ≤ k → k < s + 1 + L.length → g k = 0 ∨ (g k = 1 ∧ ∃ j, j < c ∧ v k = nI j) ∨ (g k = 33 ∧ 1 ≤ sm_dp g k) ∨ (sm_sgn (g k) = true ∧ 2 ≤ sm_dp g k) := by
      intro e' h1 h2 h3
      rw [← h1] at h2
      obtain ⟨a, bb⟩ := ih (s + 1) e hin2 h2
      refine ⟨a, fun k hk1 hk2 => ?_⟩
      by_cases e : k = s
      · rw [e, g1, v1]
        exact h3
      · exact bb k (by omega) hk2
    unfold tx_ld at h
    split at h
    · rename_i h1
      refine fin _ ?_ h (h1.elim Or.inl (fun z => Or.inr (Or.inl z)))
      rw [hdp, if_pos (h1.elim Or.inl (fun z => Or.inr z.1))]
    · rename_i h1
      split at h
      · rename_i h2
        refine fin _ ?_ h (Or.inr (Or.inr (Or.inl h2)))
        rw [hdp, h2.1, if_neg (by decide), if_pos rfl]
      · rename_i h2
        split at h
        · rename_i h3
          obtain ⟨n0, n1, n33, -⟩ := sm_sgn_ne h3.1
          refine fin _ ?_ h (Or.inr (Or.inr (Or.inr h3)))
          rw [hdp, if_neg (fun z => z.elim n0 n1), if_neg n33]
        · cases h
theorem tx_wf {c : Nat} {g v : Nat → Int32} {L : List (Int32 × Int32)} (h1 : L.length ≤ 60) (h2 : tx_in L 0 g v) (h3 : tx_ld c L 0 = some 1) : sm_wf L.length c g v := by
  obtain ⟨a, b⟩ := tx_ld_dp L 0 1 h2 h3
  rw [Nat.zero_add] at a b
  exact ⟨h1, a, fun k hk => b k (Nat.zero_le k) hk⟩
/-! texts read: the class's rows -/
noncomputable def tx_S (u : Nat) (r : tx_R) (s : Nat) (g v R' S' g' v' : Nat → Int32) : Prop := R' 3 = nI r.2.1 ∧ R' 4 = sm_bI r.1 ∧ R' 2 = nI (2001 + u) ∧ (∃ q, q ≤ 60 ∧ S' 2 = nI q) ∧ (r.1 = true → S' 2 = nI (s + r.2.2.length) ∧ tx_in r.2.2 s g' v' ∧ ∀ i, i < s → g' i = g i ∧ v' i = v i)
theorem tx_upE {f : Nat → Int32} {k : Nat} {v : Int32} : sm_upd f k v k = v := if_pos rfl
theorem tx_upN {f : Nat → Int32} {k i : Nat} {v : Int32} (h : i ≠ k) : sm_upd f k v i = f i := if_neg h
noncomputable abbrev tx_M (m : mz_M) (R S g v : Nat → Int32) : mz_M := mz_set (mz_set (mz_set (mz_set m 53 R) 54 S) 55 g) 56 v
noncomputable def tx_C (u T : Nat) (b : Nat → Int32) (D : Nat) (K : mz_R) (as : List Value) (f : Nat → tx_R) : Prop := ∀ (m : mz_M) (R S g v : Nat → Int32), m 8 1 = nI T → (∀ i, m 9 i = b i) → ∀ p s, s ≤ p → p ≤ T → R 3 = nI p → R 4 = 1 → R 2 = nI (2001 + u) → S 2 = nI s → ∃ R' S' g' v', mz_Me D K as (mz_set (mz_set (mz_set (mz_set m 53 R) 54 S) 55 g) 56 v) none (mz_set (mz_set (mz_set (mz_set m 53 R') 54 S') 55 g') 56 v') ∧ tx_S u (f p) s g v R' S' g' v'
theorem tx_up53 {m : mz_M} {R S g v : Nat → Int32} {k : Nat} {x : Int32} : mz_up (mz_set (mz_set (mz_set (mz_set m 53 R) 54 S) 55 g) 56 v) 53 k x = mz_set (mz_set (mz_set (mz_set m 53 (sm_upd R k x)) 54 S) 55 g) 56 v := by
  have e53 : (mz_up (mz_set (mz_set (mz_set (mz_set m 53 R) 54 S) 55 g) 56 v) 53 k x) 53 = sm_upd R k x := by rw [sm_up_row, mz_set_ne (show (53 : Nat) ≠ 56 by decide), mz_set_ne (show (53 : Nat) ≠ 55 by decide), mz_set_ne (show (53 : Nat) ≠ 54 by decide), mz_set_eq]
  have h := sm_of4 (m := m) (m' := mz_up (mz_set (mz_set (mz_set (mz_set m 53 R) 54 S) 55 g) 56 v) 53 k x) (a := 53) (b := 54) (c := 55) (d := 56) (fun i h1 h2 h3 h4 => by simp only [mz_up_ne h1, mz_set_ne h1, mz_set_ne h2, mz_set_ne h3, mz_set_ne h4])
  rw [e53] at h
  exact h
theorem tx_S_one {u P s : Nat} {a c : Int32} {g v R' S : Nat → Int32} (h60 : s < 60) (h3 : R' 3 = nI P) (h4 : R' 4 = 1) (h2 : R' 2 = nI (2001 + u)) : tx_S u (true, P, [(a, c)]) s g v R' (sm_upd S 2 (nI s + 1)) (sm_upd g s a) (sm_upd v s c) := by
  have hS : sm_upd S 2 (nI s + 1) 2 = nI (s + 1) := by
    unfold sm_upd
    rw [if_pos rfl]
    exact (nI_succ s).symm
  refine ⟨h3, h4, h2, ⟨s + 1, by omega, hS⟩, fun _ => ⟨hS, tx_in_one ?_ ?_, fun i hi => ?_⟩⟩
  · unfold sm_upd
    rw [if_pos rfl]
  · unfold sm_upd
    rw [if_pos rfl]
  · unfold sm_upd
    rw [if_neg (show ¬ i = s by omega), if_neg (show ¬ i = s by omega)]
    exact ⟨rfl, rfl⟩
theorem tx_S_base {u s : Nat} {P : Nat} {g v R S : Nat → Int32} (hs60 : s ≤ 60) (h3 : R 3 = nI P) (h4 : R 4 = 1) (h2 : R 2 = nI (2001 + u)) (hS : S 2 = nI s) : tx_S u (true, P, []) s g v R S g v :=
  ⟨h3, h4, h2, ⟨s, hs60, hS⟩, fun _ => ⟨hS, fun i hi => absurd hi (Nat.not_lt_zero i), fun i _ => ⟨rfl, rfl⟩⟩⟩
theorem tx_S_step {u : Nat} {r q : tx_R} {s : Nat} {g0 v0 R S g v R1 S1 g1 v1 : Nat → Int32} {c : Int32} (ok : r.1 = true) (h : tx_S u r s g0 v0 R S g v) (h1 : tx_S u q (s + r.2.2.length) g v R1 S1 g1 v1) (ok2 : q.1 = true) (hl : s + r.2.2.length + q.2.2.length < 60) : tx_S u (q.1, q.2.1, r.2.2 ++ q.2.2 ++ [(c, 0)]) s g0 v0 R1 (sm_upd S1 2 (nI (s + r.2.2.length + q.2.2.length) + 1)) (sm_upd g1 (s + r.2.2.length + q.2.2.length) c) (sm_upd v1 (s + r.2.2.length + q.2.2.length) 0) := by
  obtain ⟨-, -, -, -, a5⟩ := h
  obtain ⟨-, a6, a7⟩ := a5 ok
  obtain ⟨c1, c2, c3, -, c5⟩ := h1
  obtain ⟨-, c6, c7⟩ := c5 ok2
  have hS : sm_upd S1 2 (nI (s + r.2.2.length + q.2.2.length) + 1) 2 = nI (s + r.2.2.length + q.2.2.length + 1) := by
    unfold sm_upd
    rw [if_pos rfl]
    exact (nI_succ _).symm
  have K : ∀ i, i < s + r.2.2.length + q.2.2.length → sm_upd g1 (s + r.2.2.length + q.2.2.length) c i = g1 i ∧ sm_upd v1 (s + r.2.2.length + q.2.2.length) 0 i = v1 i := fun i hi => by
    unfold sm_upd
    rw [if_neg (show ¬ i = s + r.2.2.length + q.2.2.length by omega), if_neg (show ¬ i = s + r.2.2.length + q.2.2.length by omega)]
    exact ⟨rfl, rfl⟩
  refine ⟨c1, c2, c3, ⟨_, by omega, hS⟩, fun _ => ⟨?_, ?_, fun i hi => ?_⟩⟩
  · rw [hS]
    show nI _ = nI (s + (r.2.2 ++ q.2.2 ++ [(c, 0)]).length)
    rw [List.length_append, List.length_append]
    exact congrArg nI (by
      show s + r.2.2.length + q.2.2.length + 1 = s + (r.2.2.length + q.2.2.length + 1)
      omega)
  · show tx_in (r.2.2 ++ q.2.2 ++ [(c, 0)]) s _ _
    refine tx_in_app (tx_in_app ?_ ?_) ?_
    · refine tx_in_keep (tx_in_keep a6 (fun i hi => c7 i hi)) (fun i hi => K i (by omega))
    · exact tx_in_keep c6 (fun i hi => K i hi)
    · rw [List.length_append, ← Nat.add_assoc]
      refine tx_in_one ?_ ?_
      · unfold sm_upd
        rw [if_pos rfl]
      · unfold sm_upd
        rw [if_pos rfl]
  · obtain ⟨k1, k2⟩ := K i (by omega)
    obtain ⟨k3, k4⟩ := c7 i (by omega)
    obtain ⟨k5, k6⟩ := a7 i hi
    exact ⟨k1.trans (k3.trans k5), k2.trans (k4.trans k6)⟩
theorem tx_S_fail {u : Nat} {q : tx_R} {L : List (Int32 × Int32)} {s s1 : Nat} {g0 v0 g v R1 S1 S2 g1 v1 g2 v2 : Nat → Int32} (h1 : tx_S u q s1 g v R1 S1 g1 v1) (ok2 : ¬ q.1 = true) (hS : ∃ z, z ≤ 60 ∧ S2 2 = nI z) : tx_S u (q.1, q.2.1, L) s g0 v0 R1 S2 g2 v2 :=
  ⟨h1.1, h1.2.1, h1.2.2.1, hS, fun h => absurd h ok2⟩
theorem tx_b8 {c : Int32} {k : Nat} (h : sm_N 255 c) (hk : k < 128) (hne : ¬ c = nI k) : ¬ c.toInt8.toInt32 = nI k := by
  intro e
  obtain ⟨j, hj, rfl⟩ := sm_Nof (by decide) h
  have e2 : (nI j).toInt8.toInt32.toInt = (nI k).toInt := by rw [e]
  rw [Int8.toInt_toInt32, Int32.toInt_toInt8, nI_toInt (by omega), nI_toInt (by omega)] at e2
  simp only [Int.bmod_def] at e2
  refine hne (congrArg nI ?_)
  omega
theorem tx_i2c {c : Int32} (h : sm_N 255 c) : (c.toUInt32 % 65536).toInt32 = c := by
  obtain ⟨j, hj, rfl⟩ := sm_Nof (by decide) h
  apply Int32.toBitVec_inj.mp
  apply BitVec.eq_of_toNat_eq
  show ((BitVec.ofNat 32 j) % (65536#32)).toNat = (BitVec.ofNat 32 j).toNat
  rw [BitVec.toNat_umod, BitVec.toNat_ofNat]
  show j % 2 ^ 32 % 65536 = j % 2 ^ 32
  omega
noncomputable def tx_ix (u : Nat) (c : Int32) : Int32 := match tx_name u c with
  | some j => nI j
  | none => -1
theorem tx_at_N {T : Nat} {b : Nat → Int32} {p : Nat} (hT : T ≤ 60) (hb : ∀ i, i < 60 → sm_N 255 (b i)) (h : p < T) : sm_N 255 (tx_at T b p) := by
  unfold tx_at
  rw [if_pos h]
  exact hb p (by omega)
set_option maxHeartbeats 4000000 in
set_option maxRecDepth 100000 in
theorem tc_at {m : mz_M} {T : Nat} {b : Nat → Int32} (hT : T ≤ 60) (h8 : m 8 1 = nI T) (h9 : ∀ i, m 9 i = b i) {x : Int32} {p : Nat} (hx : x = nI p) (hp : p ≤ 60) : mz_Me 5 mz_r54 [.ref 8, .int x] m (some (.int (tx_at T b p))) m := by
  subst hx
  unfold tx_at
  by_cases h : p < T
  · rw [if_pos h]
    refine ⟨?_, rfl⟩
    refine mz_go 2 (c' := (if (nI p) < 0 then 27 else 4, [some (.ref 8), some (.int (nI p))], [], m)) rfl ?_
    refine mz_ifF (show ¬ ((nI p) < 0) from (sm_nltN rfl rfl (show 0 ≤ p by omega) (show p < 2 ^ 31 by omega))) ?_
    refine mz_go 3 (c' := (9, [some (.ref 8), some (.int (nI p))], [.int (m 8 1), .int (nI p)], m)) rfl ?_
    rw [h8]
    refine mz_go 1 (c' := (if (nI T) ≤ (nI p) then 27 else 12, [some (.ref 8), some (.int (nI p))], [], m)) rfl ?_
    refine mz_ifF (show ¬ ((nI T) ≤ (nI p)) from (sm_nleN rfl rfl (show p < T by omega) (show T < 2 ^ 31 by omega))) ?_
    refine mz_go 3 (c' := (if 60 ≤ (nI p) then 27 else 18, [some (.ref 8), some (.int (nI p))], [], m)) rfl ?_
    refine mz_ifF (show ¬ (60 ≤ (nI p)) from (sm_nleN rfl rfl (show p < 60 by omega) (show 60 < 2 ^ 31 by omega))) ?_
    refine mz_go 3 (c' := (23, [some (.ref 8), some (.int (nI p))], [.int (nI p), .ref 9], m)) rfl ?_
    refine mz_arr (c' := (24, [some (.ref 8), some (.int (nI p))], [.int (m 9 ((nI p).toNatClampNeg))], m)) rfl (show mz_in (nI p) 60 = true from sm_inN rfl (show p < 60 by omega) (by decide)) ?_
    rw [show (nI p : Int32).toNatClampNeg = p from sm_clN rfl (show p < 2 ^ 31 by omega)]
    rw [h9 p]
    refine mz_go 1 (c' := (28, [some (.ref 8), some (.int (nI p))], [.int (b p)], m)) rfl ?_
    exact mz_ret rfl
  · rw [if_neg h]
    refine ⟨?_, rfl⟩
    refine mz_go 2 (c' := (if (nI p) < 0 then 27 else 4, [some (.ref 8), some (.int (nI p))], [], m)) rfl ?_
    refine mz_ifF (show ¬ ((nI p) < 0) from (sm_nltN rfl rfl (show 0 ≤ p by omega) (show p < 2 ^ 31 by omega))) ?_
    refine mz_go 3 (c' := (9, [some (.ref 8), some (.int (nI p))], [.int (m 8 1), .int (nI p)], m)) rfl ?_
    rw [h8]
    refine mz_go 1 (c' := (if (nI T) ≤ (nI p) then 27 else 12, [some (.ref 8), some (.int (nI p))], [], m)) rfl ?_
    refine mz_ifT (show ((nI T) ≤ (nI p)) from (sm_leN rfl rfl (show T ≤ p by omega) (show p < 2 ^ 31 by omega))) ?_
    refine mz_go 1 (c' := (28, [some (.ref 8), some (.int (nI p))], [.int (-1)], m)) rfl ?_
    exact mz_ret rfl
set_option maxHeartbeats 4000000 in
set_option maxRecDepth 100000 in
theorem tc_dig {m : mz_M} (c : Int32) : mz_Me 3 mz_r35 [.int c] m (some (.int (sm_bI (tx_dig c)))) m := by
  by_cases h1 : c < 48
  · have hv : sm_bI (tx_dig c) = 0 := by
      unfold tx_dig
      simp [h1, Int32.not_le.mpr h1, sm_bI]
    rw [hv]
    refine ⟨?_, rfl⟩
    refine mz_go 3 (c' := (if c < 48 then 16 else 6, [some (.int c)], [], m)) rfl ?_
    refine mz_ifT h1 ?_
    refine mz_go 1 (c' := (17, [some (.int c)], [.int 0], m)) rfl ?_
    exact mz_ret rfl
  · by_cases h2 : 57 < c
    · have hv : sm_bI (tx_dig c) = 0 := by
        unfold tx_dig
        simp [h1, Int32.not_lt.mp h1, h2, Int32.not_le.mpr h2, sm_bI]
      rw [hv]
      refine ⟨?_, rfl⟩
      refine mz_go 3 (c' := (if c < 48 then 16 else 6, [some (.int c)], [], m)) rfl ?_
      refine mz_ifF h1 ?_
      refine mz_go 3 (c' := (if 57 < c then 16 else 12, [some (.int c)], [], m)) rfl ?_
      refine mz_ifT h2 ?_
      refine mz_go 1 (c' := (17, [some (.int c)], [.int 0], m)) rfl ?_
      exact mz_ret rfl
    · have hv : sm_bI (tx_dig c) = 1 := by
        unfold tx_dig
        simp [h1, Int32.not_lt.mp h1, h2, Int32.not_lt.mp h2, sm_bI]
      rw [hv]
      refine ⟨?_, rfl⟩
      refine mz_go 3 (c' := (if c < 48 then 16 else 6, [some (.int c)], [], m)) rfl ?_
      refine mz_ifF h1 ?_
      refine mz_go 3 (c' := (if 57 < c then 16 else 12, [some (.int c)], [], m)) rfl ?_
      refine mz_ifF h2 ?_
      refine mz_go 2 (c' := (17, [some (.int c)], [.int 1], m)) rfl ?_
      exact mz_ret rfl
set_option maxHeartbeats 4000000 in
set_option maxRecDepth 100000 in
theorem tc_joins0 {m : mz_M} (c : Int32) : mz_Me 3 mz_r30 [.int 0, .int c] m (some (.int (sm_bI (tx_joins 0 c)))) m := by
  by_cases h1 : c = 124
  · have hv : sm_bI (tx_joins 0 c) = 1 := by
      unfold tx_joins
      simp [h1, sm_bI]
    rw [hv]
    refine ⟨?_, rfl⟩
    refine mz_go 5 (c' := (if c = 124 then 38 else 42, [some (.int 0), some (.int c)], [], m)) rfl ?_
    refine mz_ifT h1 ?_
    refine mz_go 2 (c' := (43, [some (.int 0), some (.int c)], [.int 1], m)) rfl ?_
    exact mz_ret rfl
  · have hv : sm_bI (tx_joins 0 c) = 0 := by
      unfold tx_joins
      simp [h1, sm_bI]
    rw [hv]
    refine ⟨?_, rfl⟩
    refine mz_go 5 (c' := (if c = 124 then 38 else 42, [some (.int 0), some (.int c)], [], m)) rfl ?_
    refine mz_ifF h1 ?_
    refine mz_go 1 (c' := (43, [some (.int 0), some (.int c)], [.int 0], m)) rfl ?_
    exact mz_ret rfl
set_option maxHeartbeats 4000000 in
set_option maxRecDepth 100000 in
theorem tc_joins1 {m : mz_M} (c : Int32) : mz_Me 3 mz_r30 [.int 1, .int c] m (some (.int (sm_bI (tx_joins 1 c)))) m := by
  by_cases h1 : c = 38
  · have hv : sm_bI (tx_joins 1 c) = 1 := by
      unfold tx_joins
      simp [h1, sm_bI]
    rw [hv]
    refine ⟨?_, rfl⟩
    refine mz_go 5 (c' := (if c = 38 then 50 else 54, [some (.int 1), some (.int c)], [], m)) rfl ?_
    refine mz_ifT h1 ?_
    refine mz_go 2 (c' := (55, [some (.int 1), some (.int c)], [.int 1], m)) rfl ?_
    exact mz_ret rfl
  · have hv : sm_bI (tx_joins 1 c) = 0 := by
      unfold tx_joins
      simp [h1, sm_bI]
    rw [hv]
    refine ⟨?_, rfl⟩
    refine mz_go 5 (c' := (if c = 38 then 50 else 54, [some (.int 1), some (.int c)], [], m)) rfl ?_
    refine mz_ifF h1 ?_
    refine mz_go 1 (c' := (55, [some (.int 1), some (.int c)], [.int 0], m)) rfl ?_
    exact mz_ret rfl
set_option maxHeartbeats 4000000 in
set_option maxRecDepth 100000 in
theorem tc_joins2 {m : mz_M} (c : Int32) : mz_Me 3 mz_r30 [.int 2, .int c] m (some (.int (sm_bI (tx_joins 2 c)))) m := by
  by_cases h1 : c = 60
  · have hv : sm_bI (tx_joins 2 c) = 1 := by
      unfold tx_joins
      simp [h1, sm_bI]
    rw [hv]
    refine ⟨?_, rfl⟩
    refine mz_go 5 (c' := (if c = 60 then 74 else 62, [some (.int 2), some (.int c)], [], m)) rfl ?_
    refine mz_ifT h1 ?_
    refine mz_go 2 (c' := (79, [some (.int 2), some (.int c)], [.int 1], m)) rfl ?_
    exact mz_ret rfl
  · by_cases h2 : c = 61
    · have hv : sm_bI (tx_joins 2 c) = 1 := by
        unfold tx_joins
        simp [h1, h2, sm_bI]
      rw [hv]
      refine ⟨?_, rfl⟩
      refine mz_go 5 (c' := (if c = 60 then 74 else 62, [some (.int 2), some (.int c)], [], m)) rfl ?_
      refine mz_ifF h1 ?_
      refine mz_go 3 (c' := (if c = 61 then 74 else 68, [some (.int 2), some (.int c)], [], m)) rfl ?_
      refine mz_ifT h2 ?_
      refine mz_go 2 (c' := (79, [some (.int 2), some (.int c)], [.int 1], m)) rfl ?_
      exact mz_ret rfl
    · by_cases h3 : c = 62
      · have hv : sm_bI (tx_joins 2 c) = 1 := by
          unfold tx_joins
          simp [h1, h2, h3, sm_bI]
        rw [hv]
        refine ⟨?_, rfl⟩
        refine mz_go 5 (c' := (if c = 60 then 74 else 62, [some (.int 2), some (.int c)], [], m)) rfl ?_
        refine mz_ifF h1 ?_
        refine mz_go 3 (c' := (if c = 61 then 74 else 68, [some (.int 2), some (.int c)], [], m)) rfl ?_
        refine mz_ifF h2 ?_
        refine mz_go 3 (c' := (if c = 62 then 74 else 78, [some (.int 2), some (.int c)], [], m)) rfl ?_
        refine mz_ifT h3 ?_
        refine mz_go 2 (c' := (79, [some (.int 2), some (.int c)], [.int 1], m)) rfl ?_
        exact mz_ret rfl
      · have hv : sm_bI (tx_joins 2 c) = 0 := by
          unfold tx_joins
          simp [h1, h2, h3, sm_bI]
        rw [hv]
        refine ⟨?_, rfl⟩
        refine mz_go 5 (c' := (if c = 60 then 74 else 62, [some (.int 2), some (.int c)], [], m)) rfl ?_
        refine mz_ifF h1 ?_
        refine mz_go 3 (c' := (if c = 61 then 74 else 68, [some (.int 2), some (.int c)], [], m)) rfl ?_
        refine mz_ifF h2 ?_
        refine mz_go 3 (c' := (if c = 62 then 74 else 78, [some (.int 2), some (.int c)], [], m)) rfl ?_
        refine mz_ifF h3 ?_
        refine mz_go 1 (c' := (79, [some (.int 2), some (.int c)], [.int 0], m)) rfl ?_
        exact mz_ret rfl
set_option maxHeartbeats 4000000 in
set_option maxRecDepth 100000 in
theorem tc_joins3 {m : mz_M} (c : Int32) : mz_Me 3 mz_r30 [.int 3, .int c] m (some (.int (sm_bI (tx_joins 3 c)))) m := by
  by_cases h1 : c = 43
  · have hv : sm_bI (tx_joins 3 c) = 1 := by
      unfold tx_joins
      simp [h1, sm_bI]
    rw [hv]
    refine ⟨?_, rfl⟩
    refine mz_go 5 (c' := (if c = 43 then 92 else 86, [some (.int 3), some (.int c)], [], m)) rfl ?_
    refine mz_ifT h1 ?_
    refine mz_go 2 (c' := (97, [some (.int 3), some (.int c)], [.int 1], m)) rfl ?_
    exact mz_ret rfl
  · by_cases h2 : c = 45
    · have hv : sm_bI (tx_joins 3 c) = 1 := by
        unfold tx_joins
        simp [h1, h2, sm_bI]
      rw [hv]
      refine ⟨?_, rfl⟩
      refine mz_go 5 (c' := (if c = 43 then 92 else 86, [some (.int 3), some (.int c)], [], m)) rfl ?_
      refine mz_ifF h1 ?_
      refine mz_go 3 (c' := (if c = 45 then 92 else 96, [some (.int 3), some (.int c)], [], m)) rfl ?_
      refine mz_ifT h2 ?_
      refine mz_go 2 (c' := (97, [some (.int 3), some (.int c)], [.int 1], m)) rfl ?_
      exact mz_ret rfl
    · have hv : sm_bI (tx_joins 3 c) = 0 := by
        unfold tx_joins
        simp [h1, h2, sm_bI]
      rw [hv]
      refine ⟨?_, rfl⟩
      refine mz_go 5 (c' := (if c = 43 then 92 else 86, [some (.int 3), some (.int c)], [], m)) rfl ?_
      refine mz_ifF h1 ?_
      refine mz_go 3 (c' := (if c = 45 then 92 else 96, [some (.int 3), some (.int c)], [], m)) rfl ?_
      refine mz_ifF h2 ?_
      refine mz_go 1 (c' := (97, [some (.int 3), some (.int c)], [.int 0], m)) rfl ?_
      exact mz_ret rfl
set_option maxHeartbeats 4000000 in
set_option maxRecDepth 100000 in
theorem tc_joins4 {m : mz_M} (c : Int32) : mz_Me 3 mz_r30 [.int 4, .int c] m (some (.int (sm_bI (tx_joins 4 c)))) m := by
  by_cases h1 : c = 42
  · have hv : sm_bI (tx_joins 4 c) = 1 := by
      unfold tx_joins
      simp [h1, sm_bI]
    rw [hv]
    refine ⟨?_, rfl⟩
    refine mz_go 5 (c' := (if c = 42 then 116 else 104, [some (.int 4), some (.int c)], [], m)) rfl ?_
    refine mz_ifT h1 ?_
    refine mz_go 2 (c' := (121, [some (.int 4), some (.int c)], [.int 1], m)) rfl ?_
    exact mz_ret rfl
  · by_cases h2 : c = 47
    · have hv : sm_bI (tx_joins 4 c) = 1 := by
        unfold tx_joins
        simp [h1, h2, sm_bI]
      rw [hv]
      refine ⟨?_, rfl⟩
      refine mz_go 5 (c' := (if c = 42 then 116 else 104, [some (.int 4), some (.int c)], [], m)) rfl ?_
      refine mz_ifF h1 ?_
      refine mz_go 3 (c' := (if c = 47 then 116 else 110, [some (.int 4), some (.int c)], [], m)) rfl ?_
      refine mz_ifT h2 ?_
      refine mz_go 2 (c' := (121, [some (.int 4), some (.int c)], [.int 1], m)) rfl ?_
      exact mz_ret rfl
    · by_cases h3 : c = 37
      · have hv : sm_bI (tx_joins 4 c) = 1 := by
          unfold tx_joins
          simp [h1, h2, h3, sm_bI]
        rw [hv]
        refine ⟨?_, rfl⟩
        refine mz_go 5 (c' := (if c = 42 then 116 else 104, [some (.int 4), some (.int c)], [], m)) rfl ?_
        refine mz_ifF h1 ?_
        refine mz_go 3 (c' := (if c = 47 then 116 else 110, [some (.int 4), some (.int c)], [], m)) rfl ?_
        refine mz_ifF h2 ?_
        refine mz_go 3 (c' := (if c = 37 then 116 else 120, [some (.int 4), some (.int c)], [], m)) rfl ?_
        refine mz_ifT h3 ?_
        refine mz_go 2 (c' := (121, [some (.int 4), some (.int c)], [.int 1], m)) rfl ?_
        exact mz_ret rfl
      · have hv : sm_bI (tx_joins 4 c) = 0 := by
          unfold tx_joins
          simp [h1, h2, h3, sm_bI]
        rw [hv]
        refine ⟨?_, rfl⟩
        refine mz_go 5 (c' := (if c = 42 then 116 else 104, [some (.int 4), some (.int c)], [], m)) rfl ?_
        refine mz_ifF h1 ?_
        refine mz_go 3 (c' := (if c = 47 then 116 else 110, [some (.int 4), some (.int c)], [], m)) rfl ?_
        refine mz_ifF h2 ?_
        refine mz_go 3 (c' := (if c = 37 then 116 else 120, [some (.int 4), some (.int c)], [], m)) rfl ?_
        refine mz_ifF h3 ?_
        refine mz_go 1 (c' := (121, [some (.int 4), some (.int c)], [.int 0], m)) rfl ?_
        exact mz_ret rfl
set_option maxHeartbeats 4000000 in
set_option maxRecDepth 100000 in
theorem tc_add {m : mz_M} {s : Nat} (h60 : s < 60) (hs : m 54 2 = nI s) (a c : Int32) : mz_Me 5 mz_r56 [.ref 54, .int a, .int c] m none (mz_up (mz_up (mz_up m 55 s a) 56 s c) 54 2 ((nI s) + 1)) := by
  refine ⟨?_, rfl⟩
  refine mz_go 2 (c' := (4, [some (.ref 54), some (.int a), some (.int c)], [.int (m 54 2)], m)) rfl ?_
  rw [hs]
  refine mz_go 1 (c' := (if (nI s) < 0 then 46 else 7, [some (.ref 54), some (.int a), some (.int c)], [], m)) rfl ?_
  refine mz_ifF (show ¬ ((nI s) < 0) from (sm_nltN rfl rfl (show 0 ≤ s by omega) (show s < 2 ^ 31 by omega))) ?_
  refine mz_go 2 (c' := (11, [some (.ref 54), some (.int a), some (.int c)], [.int (m 54 2)], m)) rfl ?_
  rw [hs]
  refine mz_go 2 (c' := (if 60 ≤ (nI s) then 46 else 16, [some (.ref 54), some (.int a), some (.int c)], [], m)) rfl ?_
  refine mz_ifF (show ¬ (60 ≤ (nI s)) from (sm_nleN rfl rfl (show s < 60 by omega) (show 60 < 2 ^ 31 by omega))) ?_
  refine mz_go 4 (c' := (24, [some (.ref 54), some (.int a), some (.int c)], [.int (m 54 2), .ref 55], m)) rfl ?_
  rw [hs]
  refine mz_go 1 (c' := (25, [some (.ref 54), some (.int a), some (.int c)], [.int a, .int (nI s), .ref 55], m)) rfl ?_
  refine mz_arr (c' := (26, [some (.ref 54), some (.int a), some (.int c)], [], mz_up m 55 ((nI s).toNatClampNeg) a)) rfl (show mz_in (nI s) 60 = true from sm_inN rfl (show s < 60 by omega) (by decide)) ?_
  rw [show (nI s : Int32).toNatClampNeg = s from sm_clN rfl (show s < 2 ^ 31 by omega)]
  refine mz_go 4 (c' := (34, [some (.ref 54), some (.int a), some (.int c)], [.int (m 54 2), .ref 56], mz_up m 55 s a)) rfl ?_
  rw [hs]
  refine mz_go 1 (c' := (35, [some (.ref 54), some (.int a), some (.int c)], [.int c, .int (nI s), .ref 56], mz_up m 55 s a)) rfl ?_
  refine mz_arr (c' := (36, [some (.ref 54), some (.int a), some (.int c)], [], mz_up (mz_up m 55 s a) 56 ((nI s).toNatClampNeg) c)) rfl (show mz_in (nI s) 60 = true from sm_inN rfl (show s < 60 by omega) (by decide)) ?_
  rw [show (nI s : Int32).toNatClampNeg = s from sm_clN rfl (show s < 2 ^ 31 by omega)]
  refine mz_go 3 (c' := (41, [some (.ref 54), some (.int a), some (.int c)], [.int (m 54 2), .ref 54], mz_up (mz_up m 55 s a) 56 s c)) rfl ?_
  rw [hs]
  refine mz_go 3 (c' := (46, [some (.ref 54), some (.int a), some (.int c)], [], mz_up (mz_up (mz_up m 55 s a) 56 s c) 54 2 ((nI s) + 1))) rfl ?_
  exact mz_ret rfl
set_option maxHeartbeats 4000000 in
set_option maxRecDepth 100000 in
theorem tc_add2 {m : mz_M} {R S g v : Nat → Int32} {s : Nat} (h60 : s < 60) (hs : S 2 = nI s) (a c : Int32) : mz_Me 5 mz_r56 [.ref 54, .int a, .int c] (mz_set (mz_set (mz_set (mz_set m 53 R) 54 S) 55 g) 56 v) none (mz_set (mz_set (mz_set (mz_set m 53 R) 54 (sm_upd S 2 (nI s + 1))) 55 (sm_upd g s a)) 56 (sm_upd v s c)) := by
  have h := tc_add (m := mz_set (mz_set (mz_set (mz_set m 53 R) 54 S) 55 g) 56 v) (s := s) h60 hs a c
  have e53 : (mz_up (mz_up (mz_up (mz_set (mz_set (mz_set (mz_set m 53 R) 54 S) 55 g) 56 v) 55 s a) 56 s c) 54 2 ((nI s) + 1)) 53 = R := by rw [mz_up_ne (show (53 : Nat) ≠ 54 by decide), mz_up_ne (show (53 : Nat) ≠ 56 by decide), mz_up_ne (show (53 : Nat) ≠ 55 by decide), mz_set_ne (show (53 : Nat) ≠ 56 by decide), mz_set_ne (show (53 : Nat) ≠ 55 by decide), mz_set_ne (show (53 : Nat) ≠ 54 by decide), mz_set_eq]
  have e54 : (mz_up (mz_up (mz_up (mz_set (mz_set (mz_set (mz_set m 53 R) 54 S) 55 g) 56 v) 55 s a) 56 s c) 54 2 ((nI s) + 1)) 54 = sm_upd S 2 (nI s + 1) := by rw [sm_up_row, mz_up_ne (show (54 : Nat) ≠ 56 by decide), mz_up_ne (show (54 : Nat) ≠ 55 by decide), mz_set_ne (show (54 : Nat) ≠ 56 by decide), mz_set_ne (show (54 : Nat) ≠ 55 by decide), mz_set_eq]
  have e55 : (mz_up (mz_up (mz_up (mz_set (mz_set (mz_set (mz_set m 53 R) 54 S) 55 g) 56 v) 55 s a) 56 s c) 54 2 ((nI s) + 1)) 55 = sm_upd g s a := by rw [mz_up_ne (show (55 : Nat) ≠ 54 by decide), mz_up_ne (show (55 : Nat) ≠ 56 by decide), sm_up_row, mz_set_ne (show (55 : Nat) ≠ 56 by decide), mz_set_eq]
  have e56 : (mz_up (mz_up (mz_up (mz_set (mz_set (mz_set (mz_set m 53 R) 54 S) 55 g) 56 v) 55 s a) 56 s c) 54 2 ((nI s) + 1)) 56 = sm_upd v s c := by rw [mz_up_ne (show (56 : Nat) ≠ 54 by decide), sm_up_row, mz_up_ne (show (56 : Nat) ≠ 55 by decide), mz_set_eq]
  have e : mz_up (mz_up (mz_up (mz_set (mz_set (mz_set (mz_set m 53 R) 54 S) 55 g) 56 v) 55 s a) 56 s c) 54 2 ((nI s) + 1) = mz_set (mz_set (mz_set (mz_set m 53 R) 54 (sm_upd S 2 (nI s + 1))) 55 (sm_upd g s a)) 56 (sm_upd v s c) := by
    have e := sm_of4 (m := m) (m' := mz_up (mz_up (mz_up (mz_set (mz_set (mz_set (mz_set m 53 R) 54 S) 55 g) 56 v) 55 s a) 56 s c) 54 2 ((nI s) + 1)) (a := 53) (b := 54) (c := 55) (d := 56) (fun i h1 h2 h3 h4 => by simp only [mz_up_ne h2, mz_up_ne h3, mz_up_ne h4, mz_set_ne h1, mz_set_ne h2, mz_set_ne h3, mz_set_ne h4])
    rw [e53, e54, e55, e56] at e
    exact e
  rw [e] at h
  exact h
set_option maxHeartbeats 4000000 in
set_option maxRecDepth 100000 in
theorem tc_add3 {m : mz_M} {R S g v : Nat → Int32} {s : Nat} (h60 : s ≤ 60) (hs : S 2 = nI s) (a c : Int32) : ∃ S' g' v', mz_Me 5 mz_r56 [.ref 54, .int a, .int c] (mz_set (mz_set (mz_set (mz_set m 53 R) 54 S) 55 g) 56 v) none (mz_set (mz_set (mz_set (mz_set m 53 R) 54 S') 55 g') 56 v') ∧ ∃ z, z ≤ 60 ∧ S' 2 = nI z := by
  by_cases h : s < 60
  · refine ⟨_, _, _, tc_add2 h hs a c, s + 1, by omega, ?_⟩
    unfold sm_upd
    rw [if_pos rfl]
    exact (nI_succ s).symm
  · refine ⟨S, g, v, ⟨?_, rfl⟩, s, h60, hs⟩
    refine mz_go 2 (c' := (4, [some (.ref 54), some (.int a), some (.int c)], [.int (S 2)], mz_set (mz_set (mz_set (mz_set m 53 R) 54 S) 55 g) 56 v)) rfl ?_
    rw [hs]
    refine mz_go 1 (c' := (if (nI s) < 0 then 46 else 7, [some (.ref 54), some (.int a), some (.int c)], [], mz_set (mz_set (mz_set (mz_set m 53 R) 54 S) 55 g) 56 v)) rfl ?_
    refine mz_ifF (show ¬ ((nI s) < 0) from (sm_nltN rfl rfl (show 0 ≤ s by omega) (show s < 2 ^ 31 by omega))) ?_
    refine mz_go 2 (c' := (11, [some (.ref 54), some (.int a), some (.int c)], [.int (S 2)], mz_set (mz_set (mz_set (mz_set m 53 R) 54 S) 55 g) 56 v)) rfl ?_
    rw [hs]
    refine mz_go 2 (c' := (if 60 ≤ (nI s) then 46 else 16, [some (.ref 54), some (.int a), some (.int c)], [], mz_set (mz_set (mz_set (mz_set m 53 R) 54 S) 55 g) 56 v)) rfl ?_
    refine mz_ifT (show (60 ≤ (nI s)) from (sm_leN rfl rfl (show 60 ≤ s by omega) (show s < 2 ^ 31 by omega))) ?_
    exact mz_ret rfl
set_option maxHeartbeats 4000000 in
set_option maxRecDepth 100000 in
theorem tc_numl {m : mz_M} {T : Nat} {b : Nat → Int32} (hT : T ≤ 60) (h8 : m 8 1 = nI T) (h9 : ∀ i, m 9 i = b i) {D : Nat} : ∀ j k : Nat, k + j = 4 → ∀ (R : Nat → Int32) (v : Int32) (p : Nat), R 3 = nI p → p ≤ T → ∃ (R' : Nat → Int32) (k' : Int32), R' 3 = nI (tx_num T b j p v).2 ∧ R' 4 = R 4 ∧ R' 2 = R 2 ∧ ∀ res, mz_Ex (D + 8) mz_k33 (62, [some (.ref 53), some (.int ((tx_num T b j p v).1)), some (.int k')], [], mz_set m 53 R') res → mz_Ex (D + 8) mz_k33 (4, [some (.ref 53), some (.int v), some (.int (nI k))], [], mz_set m 53 R) res := by
  intro j
  induction j with
  | zero =>
    intro k hk R v p hR hp
    rw [show k = 4 by omega]
    exact ⟨R, nI 4, hR, rfl, rfl, fun res hr => by
      refine mz_go 3 (c' := (if 4 ≤ (nI 4) then 62 else 9, [some (.ref 53), some (.int v), some (.int (nI 4))], [], mz_set m 53 R)) rfl ?_
      refine mz_ifT (show (4 ≤ (nI 4)) from (sm_leN rfl rfl (show 4 ≤ 4 by omega) (show 4 < 2 ^ 31 by omega))) ?_
      exact hr⟩
  | succ j ih =>
    intro k hk R v p hR hp
    by_cases e : tx_dig (tx_at T b p) = true
    · have hlt := tx_dig_lt e
      have hd : ¬ sm_bI (tx_dig (tx_at T b p)) = 0 := by rw [e]; decide
      have hn : tx_num T b (j + 1) p v = tx_num T b j (p + 1) (((v * 10) + (tx_at T b p)) - 48) := if_pos e
      rw [hn]
      have e53 : (mz_up (mz_set m 53 R) 53 3 ((nI p) + 1)) 53 = sm_upd R 3 (nI p + 1) := by rw [sm_up_row, mz_set_eq]
      have hm : mz_up (mz_set m 53 R) 53 3 ((nI p) + 1) = mz_set m 53 (sm_upd R 3 (nI p + 1)) := by
        have h := sm_of1 (m := m) (m' := mz_up (mz_set m 53 R) 53 3 ((nI p) + 1)) (a := 53) (fun i h1 => by simp only [mz_up_ne h1, mz_set_ne h1])
        rw [e53] at h
        exact h
      obtain ⟨R', k', a1, a2, a3, E⟩ := ih (k + 1) (by omega) (sm_upd R 3 (nI p + 1)) (((v * 10) + (tx_at T b p)) - 48) (p + 1) (by
        unfold sm_upd
        rw [if_pos rfl]
        exact (nI_succ p).symm) (by omega)
      refine ⟨R', k', a1, a2, a3, fun res hr0 => ?_⟩
      have hr := E res hr0
      rw [nI_succ k, ← hm] at hr
      refine mz_go 3 (c' := (if 4 ≤ (nI k) then 62 else 9, [some (.ref 53), some (.int v), some (.int (nI k))], [], mz_set m 53 R)) rfl ?_
      refine mz_ifF (show ¬ (4 ≤ (nI k)) from (sm_nleN rfl rfl (show k < 4 by omega) (show 4 < 2 ^ 31 by omega))) ?_
      refine mz_go 4 (c' := (17, [some (.ref 53), some (.int v), some (.int (nI k))], [.int (R 3), .ref 8], mz_set m 53 R)) rfl ?_
      rw [hR]
      refine mz_doQ (R := mz_r54) (as := [.ref 8, .int (nI p)]) (rest := []) (r1 := some (.int (tx_at T b p))) (m1 := mz_set m 53 R) mz_t54 mz_v54_8 rfl rfl rfl rfl rfl ((tc_at (m := mz_set m 53 R) hT h8 h9 (x := nI p) (p := p) rfl (by omega)).deep (by omega)) ?_
      refine mz_doQ (R := mz_r35) (as := [.int (tx_at T b p)]) (rest := []) (r1 := some (.int (sm_bI (tx_dig (tx_at T b p))))) (m1 := mz_set m 53 R) mz_t35 mz_v35 rfl rfl rfl rfl rfl ((tc_dig (m := mz_set m 53 R) (tx_at T b p)).deep (by omega)) ?_
      refine mz_go 1 (c' := (if (sm_bI (tx_dig (tx_at T b p))) = 0 then 62 else 26, [some (.ref 53), some (.int v), some (.int (nI k))], [], mz_set m 53 R)) rfl ?_
      refine mz_ifF hd ?_
      refine mz_go 7 (c' := (38, [some (.ref 53), some (.int v), some (.int (nI k))], [.int (R 3), .ref 8, .int (v * 10)], mz_set m 53 R)) rfl ?_
      rw [hR]
      refine mz_doQ (R := mz_r54) (as := [.ref 8, .int (nI p)]) (rest := [.int (v * 10)]) (r1 := some (.int (tx_at T b p))) (m1 := mz_set m 53 R) mz_t54 mz_v54_8 rfl rfl rfl rfl rfl ((tc_at (m := mz_set m 53 R) hT h8 h9 (x := nI p) (p := p) rfl (by omega)).deep (by omega)) ?_
      refine mz_go 7 (c' := (51, [some (.ref 53), some (.int (((v * 10) + (tx_at T b p)) - 48)), some (.int (nI k))], [.int (R 3), .ref 53], mz_set m 53 R)) rfl ?_
      rw [hR]
      refine mz_go 5 (c' := (4, [some (.ref 53), some (.int (((v * 10) + (tx_at T b p)) - 48)), some (.int ((nI k) + 1))], [], mz_up (mz_set m 53 R) 53 3 ((nI p) + 1))) rfl ?_
      exact hr
    · have hd : sm_bI (tx_dig (tx_at T b p)) = 0 := by rw [eq_false_of_ne_true e]; rfl
      have hn : tx_num T b (j + 1) p v = (v, p) := if_neg e
      rw [hn]
      exact ⟨R, nI k, hR, rfl, rfl, fun res hr => by
        refine mz_go 3 (c' := (if 4 ≤ (nI k) then 62 else 9, [some (.ref 53), some (.int v), some (.int (nI k))], [], mz_set m 53 R)) rfl ?_
        refine mz_ifF (show ¬ (4 ≤ (nI k)) from (sm_nleN rfl rfl (show k < 4 by omega) (show 4 < 2 ^ 31 by omega))) ?_
        refine mz_go 4 (c' := (17, [some (.ref 53), some (.int v), some (.int (nI k))], [.int (R 3), .ref 8], mz_set m 53 R)) rfl ?_
        rw [hR]
        refine mz_doQ (R := mz_r54) (as := [.ref 8, .int (nI p)]) (rest := []) (r1 := some (.int (tx_at T b p))) (m1 := mz_set m 53 R) mz_t54 mz_v54_8 rfl rfl rfl rfl rfl ((tc_at (m := mz_set m 53 R) hT h8 h9 (x := nI p) (p := p) rfl (by omega)).deep (by omega)) ?_
        refine mz_doQ (R := mz_r35) (as := [.int (tx_at T b p)]) (rest := []) (r1 := some (.int (sm_bI (tx_dig (tx_at T b p))))) (m1 := mz_set m 53 R) mz_t35 mz_v35 rfl rfl rfl rfl rfl ((tc_dig (m := mz_set m 53 R) (tx_at T b p)).deep (by omega)) ?_
        refine mz_go 1 (c' := (if (sm_bI (tx_dig (tx_at T b p))) = 0 then 62 else 26, [some (.ref 53), some (.int v), some (.int (nI k))], [], mz_set m 53 R)) rfl ?_
        refine mz_ifT hd ?_
        exact hr⟩
set_option maxHeartbeats 4000000 in
set_option maxRecDepth 100000 in
theorem tc_numb {m : mz_M} {T : Nat} {b : Nat → Int32} (hT : T ≤ 60) (h8 : m 8 1 = nI T) (h9 : ∀ i, m 9 i = b i) {D : Nat} {R S g v : Nat → Int32} {p s : Nat} (hR : R 3 = nI p) (hp : p ≤ T) (h60 : s < 60) (hs : S 2 = nI s) : ∃ R' : Nat → Int32, R' 3 = nI (tx_num T b 4 p 0).2 ∧ R' 4 = R 4 ∧ R' 2 = R 2 ∧ mz_Me (D + 8) mz_r33 [.ref 53] (mz_set (mz_set (mz_set (mz_set m 53 R) 54 S) 55 g) 56 v) none (mz_set (mz_set (mz_set (mz_set m 53 R') 54 (sm_upd S 2 (nI s + 1))) 55 (sm_upd g s 0)) 56 (sm_upd v s (tx_num T b 4 p 0).1)) := by
  have h8' : (mz_set (mz_set (mz_set (mz_set m 53 R) 54 S) 55 g) 56 v) 8 1 = nI T := h8
  have h9' : ∀ i, (mz_set (mz_set (mz_set (mz_set m 53 R) 54 S) 55 g) 56 v) 9 i = b i := h9
  obtain ⟨R', k', a1, a2, a3, E⟩ := tc_numl (m := mz_set (mz_set (mz_set (mz_set m 53 R) 54 S) 55 g) 56 v) hT h8' h9' (D := D) 4 0 (by omega) R 0 p hR hp
  have z1 : mz_set (mz_set (mz_set (mz_set (mz_set m 53 R) 54 S) 55 g) 56 v) 53 R = mz_set (mz_set (mz_set (mz_set m 53 R) 54 S) 55 g) 56 v := by
    funext i
    by_cases e : i = 53
    · rw [e, mz_set_eq]
      rfl
    · rw [mz_set_ne e]
  have z2 : mz_set (mz_set (mz_set (mz_set (mz_set m 53 R) 54 S) 55 g) 56 v) 53 R' = mz_set (mz_set (mz_set (mz_set m 53 R') 54 S) 55 g) 56 v := by
    funext i
    by_cases e : i = 53
    · rw [e, mz_set_eq]
      rfl
    · rw [mz_set_ne e]
      by_cases e6 : i = 56
      · rw [e6, mz_set_eq, mz_set_eq]
      · rw [mz_set_ne e6, mz_set_ne e6]
        by_cases e5 : i = 55
        · rw [e5, mz_set_eq, mz_set_eq]
        · rw [mz_set_ne e5, mz_set_ne e5]
          by_cases e4 : i = 54
          · rw [e4, mz_set_eq, mz_set_eq]
          · rw [mz_set_ne e4, mz_set_ne e4, mz_set_ne e, mz_set_ne e]
  rw [z1, z2] at E
  have hr : mz_Ex (D + 8) mz_k33 (62, [some (.ref 53), some (.int ((tx_num T b 4 p 0).1)), some (.int k')], [], mz_set (mz_set (mz_set (mz_set m 53 R') 54 S) 55 g) 56 v) (none, mz_set (mz_set (mz_set (mz_set m 53 R') 54 (sm_upd S 2 (nI s + 1))) 55 (sm_upd g s 0)) 56 (sm_upd v s (tx_num T b 4 p 0).1)) := by
    refine mz_go 4 (c' := (68, [some (.ref 53), some (.int ((tx_num T b 4 p 0).1)), some (.int k')], [.int ((tx_num T b 4 p 0).1), .int 0, .ref 54], mz_set (mz_set (mz_set (mz_set m 53 R') 54 S) 55 g) 56 v)) rfl ?_
    refine mz_doQ (R := mz_r56) (as := [.ref 54, .int 0, .int ((tx_num T b 4 p 0).1)]) (rest := []) (r1 := none) (m1 := mz_set (mz_set (mz_set (mz_set m 53 R') 54 (sm_upd S 2 (nI s + 1))) 55 (sm_upd g s 0)) 56 (sm_upd v s (tx_num T b 4 p 0).1)) mz_t56 mz_v56_54 rfl rfl rfl rfl rfl ((tc_add2 (m := m) (R := R') (S := S) (g := g) (v := v) h60 hs 0 (tx_num T b 4 p 0).1).deep (by omega)) ?_
    exact mz_ret rfl
  refine ⟨R', a1, a2, a3, ⟨?_, rfl⟩⟩
  refine mz_go 4 (c' := (4, [some (.ref 53), some (.int 0), some (.int 0)], [], mz_set (mz_set (mz_set (mz_set m 53 R) 54 S) 55 g) 56 v)) rfl ?_
  exact E _ hr
theorem sm_N_nlt {n : Nat} {x : Int32} (h : sm_N n x) : ¬ x < 0 := by
  obtain ⟨a, b⟩ := h
  rw [Int32.lt_iff_toInt_lt, Int32.toInt_zero]
  omega
theorem sm_N_ngt {n : Nat} {x : Int32} (hn : n < 2 ^ 31) (h : sm_N n x) : ¬ nI n < x := by
  obtain ⟨a, b⟩ := h
  rw [Int32.lt_iff_toInt_lt, nI_toInt hn]
  omega
set_option maxHeartbeats 4000000 in
set_option maxRecDepth 100000 in
theorem tc_ix0 {m : mz_M} {c : Int32} (hc : sm_N 255 c) : mz_Me 15 mz_r230 [.ref 2001, .int ((c.toUInt32 % 65536).toInt32)] m (some (.int (tx_ix 0 c))) m := by
  rw [tx_i2c hc]
  have h0 : ¬ c < 0 := sm_N_nlt hc
  have h2 : ¬ 255 < c := sm_N_ngt (by decide) hc
  by_cases n0 : c = 114
  · subst n0
    show mz_Me 15 mz_r230 [.ref 2001, .int 114] m (some (.int 0)) m
    refine ⟨?_, rfl⟩
    refine mz_go 3 (c' := (3, [some (.ref 2001), some (.int 114)], [.int 0, .int 114, .ref 2001], m)) rfl ?_
    refine mz_doQ (R := mz_r231) (as := [.ref 2001, .int 114, .int 0]) (rest := []) (r1 := some (.int 0)) (m1 := m) mz_t231 mz_v231_2001 rfl rfl rfl rfl rfl ⟨?_, rfl⟩ ?_
    · refine mz_go 1 (c' := (1, [some (.ref 2001), some (.int 114), some (.int 0)], [.ref 2001], m)) rfl ?_
      refine mz_doQ (R := mz_r232) (as := [.ref 2001]) (rest := []) (r1 := some (.int 1)) (m1 := m) mz_t232 mz_v232_2001 rfl rfl rfl rfl rfl ⟨?_, rfl⟩ ?_
      · refine mz_go 7 (c' := (18, [some (.ref 2001)], [.int 1], m)) rfl ?_
        exact mz_ret rfl
      refine mz_go 6 (c' := (14, [some (.ref 2001), some (.int 114), some (.int 0)], [.ref 2001, .int 0, .int 114, .ref 2101], m)) rfl ?_
      refine mz_doQ (R := mz_r233) (as := [.ref 2001]) (rest := [.int 0, .int 114, .ref 2101]) (r1 := some (.int 3)) (m1 := m) mz_t233 mz_v233_2001 rfl rfl rfl rfl rfl ⟨?_, rfl⟩ ?_
      · refine mz_go 4 (c' := (6, [some (.ref 2001)], [.ref 2001, .int 3], m)) rfl ?_
        refine mz_doQ (R := mz_r234) (as := [.ref 2001]) (rest := [.int 3]) (r1 := some (.int 0)) (m1 := m) mz_t234 mz_v234_2001 rfl rfl rfl rfl rfl ⟨?_, rfl⟩ ?_
        · refine mz_go 5 (c' := (14, [some (.ref 2001)], [.int 0], m)) rfl ?_
          exact mz_ret rfl
        refine mz_go 1 (c' := (10, [some (.ref 2001)], [.int 3], m)) rfl ?_
        exact mz_ret rfl
      refine mz_doQ (R := mz_r235) (as := [.ref 2101, .int 114, .int 0, .int 3]) (rest := []) (r1 := some (.int 0)) (m1 := m) mz_t235 mz_v235_2101 rfl rfl rfl rfl rfl ⟨?_, rfl⟩ ?_
      · refine mz_go 1 (c' := (1, [some (.ref 2101), some (.int 114), some (.int 0), some (.int 3)], [.int 114], m)) rfl ?_
        refine mz_doQ (R := mz_r236) (as := [.int 114]) (rest := []) (r1 := some (.int 1)) (m1 := m) mz_t236 mz_v236 rfl rfl rfl rfl rfl ⟨?_, rfl⟩ ?_
        · refine mz_go 7 (c' := (16, [some (.int 114)], [.int 1], m)) rfl ?_
          exact mz_ret rfl
        refine mz_go 17 (c' := (33, [some (.ref 2101), some (.int 114), some (.int 0), some (.int 3)], [.int 3, .int 0, .int 114, .ref 2101], m)) rfl ?_
        refine mz_doQ (R := mz_r237) (as := [.ref 2101, .int 114, .int 0, .int 3]) (rest := []) (r1 := some (.int 0)) (m1 := m) mz_t237 mz_v237_2101 rfl rfl rfl rfl rfl ⟨?_, rfl⟩ ?_
        · refine mz_go 14 (c' := (24, [some (.ref 2101), some (.int 114), some (.int 0), some (.int 3), some (.int 114), some (.int 0)], [.int 0], m)) rfl ?_
          exact mz_ret rfl
        exact mz_ret rfl
      refine mz_go 1 (c' := (36, [some (.ref 2001), some (.int 114), some (.int 0)], [.int 0], m)) rfl ?_
      exact mz_ret rfl
    exact mz_ret rfl
  · skip
    by_cases n1 : c = 115
    · subst n1
      show mz_Me 15 mz_r230 [.ref 2001, .int 115] m (some (.int 1)) m
      refine ⟨?_, rfl⟩
      refine mz_go 3 (c' := (3, [some (.ref 2001), some (.int 115)], [.int 0, .int 115, .ref 2001], m)) rfl ?_
      refine mz_doQ (R := mz_r231) (as := [.ref 2001, .int 115, .int 0]) (rest := []) (r1 := some (.int 1)) (m1 := m) mz_t231 mz_v231_2001 rfl rfl rfl rfl rfl ⟨?_, rfl⟩ ?_
      · refine mz_go 1 (c' := (1, [some (.ref 2001), some (.int 115), some (.int 0)], [.ref 2001], m)) rfl ?_
        refine mz_doQ (R := mz_r232) (as := [.ref 2001]) (rest := []) (r1 := some (.int 1)) (m1 := m) mz_t232 mz_v232_2001 rfl rfl rfl rfl rfl ⟨?_, rfl⟩ ?_
        · refine mz_go 7 (c' := (18, [some (.ref 2001)], [.int 1], m)) rfl ?_
          exact mz_ret rfl
        refine mz_go 6 (c' := (14, [some (.ref 2001), some (.int 115), some (.int 0)], [.ref 2001, .int 0, .int 115, .ref 2101], m)) rfl ?_
        refine mz_doQ (R := mz_r233) (as := [.ref 2001]) (rest := [.int 0, .int 115, .ref 2101]) (r1 := some (.int 3)) (m1 := m) mz_t233 mz_v233_2001 rfl rfl rfl rfl rfl ⟨?_, rfl⟩ ?_
        · refine mz_go 4 (c' := (6, [some (.ref 2001)], [.ref 2001, .int 3], m)) rfl ?_
          refine mz_doQ (R := mz_r234) (as := [.ref 2001]) (rest := [.int 3]) (r1 := some (.int 0)) (m1 := m) mz_t234 mz_v234_2001 rfl rfl rfl rfl rfl ⟨?_, rfl⟩ ?_
          · refine mz_go 5 (c' := (14, [some (.ref 2001)], [.int 0], m)) rfl ?_
            exact mz_ret rfl
          refine mz_go 1 (c' := (10, [some (.ref 2001)], [.int 3], m)) rfl ?_
          exact mz_ret rfl
        refine mz_doQ (R := mz_r235) (as := [.ref 2101, .int 115, .int 0, .int 3]) (rest := []) (r1 := some (.int 1)) (m1 := m) mz_t235 mz_v235_2101 rfl rfl rfl rfl rfl ⟨?_, rfl⟩ ?_
        · refine mz_go 1 (c' := (1, [some (.ref 2101), some (.int 115), some (.int 0), some (.int 3)], [.int 115], m)) rfl ?_
          refine mz_doQ (R := mz_r236) (as := [.int 115]) (rest := []) (r1 := some (.int 1)) (m1 := m) mz_t236 mz_v236 rfl rfl rfl rfl rfl ⟨?_, rfl⟩ ?_
          · refine mz_go 7 (c' := (16, [some (.int 115)], [.int 1], m)) rfl ?_
            exact mz_ret rfl
          refine mz_go 17 (c' := (33, [some (.ref 2101), some (.int 115), some (.int 0), some (.int 3)], [.int 3, .int 0, .int 115, .ref 2101], m)) rfl ?_
          refine mz_doQ (R := mz_r237) (as := [.ref 2101, .int 115, .int 0, .int 3]) (rest := []) (r1 := some (.int 1)) (m1 := m) mz_t237 mz_v237_2101 rfl rfl rfl rfl rfl ⟨?_, rfl⟩ ?_
          · refine mz_go 24 (c' := (24, [some (.ref 2101), some (.int 115), some (.int 0), some (.int 3), some (.int 115), some (.int 1)], [.int 1], m)) rfl ?_
            exact mz_ret rfl
          exact mz_ret rfl
        refine mz_go 1 (c' := (36, [some (.ref 2001), some (.int 115), some (.int 0)], [.int 1], m)) rfl ?_
        exact mz_ret rfl
      exact mz_ret rfl
    · skip
      by_cases n2 : c = 110
      · subst n2
        show mz_Me 15 mz_r230 [.ref 2001, .int 110] m (some (.int 2)) m
        refine ⟨?_, rfl⟩
        refine mz_go 3 (c' := (3, [some (.ref 2001), some (.int 110)], [.int 0, .int 110, .ref 2001], m)) rfl ?_
        refine mz_doQ (R := mz_r231) (as := [.ref 2001, .int 110, .int 0]) (rest := []) (r1 := some (.int 2)) (m1 := m) mz_t231 mz_v231_2001 rfl rfl rfl rfl rfl ⟨?_, rfl⟩ ?_
        · refine mz_go 1 (c' := (1, [some (.ref 2001), some (.int 110), some (.int 0)], [.ref 2001], m)) rfl ?_
          refine mz_doQ (R := mz_r232) (as := [.ref 2001]) (rest := []) (r1 := some (.int 1)) (m1 := m) mz_t232 mz_v232_2001 rfl rfl rfl rfl rfl ⟨?_, rfl⟩ ?_
          · refine mz_go 7 (c' := (18, [some (.ref 2001)], [.int 1], m)) rfl ?_
            exact mz_ret rfl
          refine mz_go 6 (c' := (14, [some (.ref 2001), some (.int 110), some (.int 0)], [.ref 2001, .int 0, .int 110, .ref 2101], m)) rfl ?_
          refine mz_doQ (R := mz_r233) (as := [.ref 2001]) (rest := [.int 0, .int 110, .ref 2101]) (r1 := some (.int 3)) (m1 := m) mz_t233 mz_v233_2001 rfl rfl rfl rfl rfl ⟨?_, rfl⟩ ?_
          · refine mz_go 4 (c' := (6, [some (.ref 2001)], [.ref 2001, .int 3], m)) rfl ?_
            refine mz_doQ (R := mz_r234) (as := [.ref 2001]) (rest := [.int 3]) (r1 := some (.int 0)) (m1 := m) mz_t234 mz_v234_2001 rfl rfl rfl rfl rfl ⟨?_, rfl⟩ ?_
            · refine mz_go 5 (c' := (14, [some (.ref 2001)], [.int 0], m)) rfl ?_
              exact mz_ret rfl
            refine mz_go 1 (c' := (10, [some (.ref 2001)], [.int 3], m)) rfl ?_
            exact mz_ret rfl
          refine mz_doQ (R := mz_r235) (as := [.ref 2101, .int 110, .int 0, .int 3]) (rest := []) (r1 := some (.int 2)) (m1 := m) mz_t235 mz_v235_2101 rfl rfl rfl rfl rfl ⟨?_, rfl⟩ ?_
          · refine mz_go 1 (c' := (1, [some (.ref 2101), some (.int 110), some (.int 0), some (.int 3)], [.int 110], m)) rfl ?_
            refine mz_doQ (R := mz_r236) (as := [.int 110]) (rest := []) (r1 := some (.int 1)) (m1 := m) mz_t236 mz_v236 rfl rfl rfl rfl rfl ⟨?_, rfl⟩ ?_
            · refine mz_go 7 (c' := (16, [some (.int 110)], [.int 1], m)) rfl ?_
              exact mz_ret rfl
            refine mz_go 17 (c' := (33, [some (.ref 2101), some (.int 110), some (.int 0), some (.int 3)], [.int 3, .int 0, .int 110, .ref 2101], m)) rfl ?_
            refine mz_doQ (R := mz_r237) (as := [.ref 2101, .int 110, .int 0, .int 3]) (rest := []) (r1 := some (.int 2)) (m1 := m) mz_t237 mz_v237_2101 rfl rfl rfl rfl rfl ⟨?_, rfl⟩ ?_
            · refine mz_go 24 (c' := (28, [some (.ref 2101), some (.int 110), some (.int 0), some (.int 3), some (.int 110), some (.int 2)], [], m)) rfl ?_
              refine mz_go 10 (c' := (24, [some (.ref 2101), some (.int 110), some (.int 0), some (.int 3), some (.int 110), some (.int 2)], [.int 2], m)) rfl ?_
              exact mz_ret rfl
            exact mz_ret rfl
          refine mz_go 1 (c' := (36, [some (.ref 2001), some (.int 110), some (.int 0)], [.int 2], m)) rfl ?_
          exact mz_ret rfl
        exact mz_ret rfl
      · skip
        have hv : tx_ix 0 c = -1 := by
          have h : tx_name 0 c = none := by
            unfold tx_name
            simp only [if_neg n0, if_neg n1, if_neg n2]
          unfold tx_ix
          rw [h]
        rw [hv]
        refine ⟨?_, rfl⟩
        refine mz_go 3 (c' := (3, [some (.ref 2001), some (.int c)], [.int 0, .int c, .ref 2001], m)) rfl ?_
        refine mz_doQ (R := mz_r231) (as := [.ref 2001, .int c, .int 0]) (rest := []) (r1 := some (.int (-1))) (m1 := m) mz_t231 mz_v231_2001 rfl rfl rfl rfl rfl ⟨?_, rfl⟩ ?_
        · refine mz_go 1 (c' := (1, [some (.ref 2001), some (.int c), some (.int 0)], [.ref 2001], m)) rfl ?_
          refine mz_doQ (R := mz_r232) (as := [.ref 2001]) (rest := []) (r1 := some (.int 1)) (m1 := m) mz_t232 mz_v232_2001 rfl rfl rfl rfl rfl ⟨?_, rfl⟩ ?_
          · refine mz_go 7 (c' := (18, [some (.ref 2001)], [.int 1], m)) rfl ?_
            exact mz_ret rfl
          refine mz_go 6 (c' := (14, [some (.ref 2001), some (.int c), some (.int 0)], [.ref 2001, .int 0, .int c, .ref 2101], m)) rfl ?_
          refine mz_doQ (R := mz_r233) (as := [.ref 2001]) (rest := [.int 0, .int c, .ref 2101]) (r1 := some (.int 3)) (m1 := m) mz_t233 mz_v233_2001 rfl rfl rfl rfl rfl ⟨?_, rfl⟩ ?_
          · refine mz_go 4 (c' := (6, [some (.ref 2001)], [.ref 2001, .int 3], m)) rfl ?_
            refine mz_doQ (R := mz_r234) (as := [.ref 2001]) (rest := [.int 3]) (r1 := some (.int 0)) (m1 := m) mz_t234 mz_v234_2001 rfl rfl rfl rfl rfl ⟨?_, rfl⟩ ?_
            · refine mz_go 5 (c' := (14, [some (.ref 2001)], [.int 0], m)) rfl ?_
              exact mz_ret rfl
            refine mz_go 1 (c' := (10, [some (.ref 2001)], [.int 3], m)) rfl ?_
            exact mz_ret rfl
          refine mz_doQ (R := mz_r235) (as := [.ref 2101, .int c, .int 0, .int 3]) (rest := []) (r1 := some (.int (-1))) (m1 := m) mz_t235 mz_v235_2101 rfl rfl rfl rfl rfl ⟨?_, rfl⟩ ?_
          · refine mz_go 1 (c' := (1, [some (.ref 2101), some (.int c), some (.int 0), some (.int 3)], [.int c], m)) rfl ?_
            refine mz_doQ (R := mz_r236) (as := [.int c]) (rest := []) (r1 := some (.int 1)) (m1 := m) mz_t236 mz_v236 rfl rfl rfl rfl rfl ⟨?_, rfl⟩ ?_
            · refine mz_go 2 (c' := (if c < 0 then 15 else 4, [some (.int c)], [], m)) rfl ?_
              refine mz_ifF h0 ?_
              refine mz_go 3 (c' := (if 255 < c then 15 else 11, [some (.int c)], [], m)) rfl ?_
              refine mz_ifF h2 ?_
              refine mz_go 2 (c' := (16, [some (.int c)], [.int 1], m)) rfl ?_
              exact mz_ret rfl
            refine mz_go 17 (c' := (33, [some (.ref 2101), some (.int c), some (.int 0), some (.int 3)], [.int 3, .int 0, .int c, .ref 2101], m)) rfl ?_
            refine mz_doQ (R := mz_r237) (as := [.ref 2101, .int c, .int 0, .int 3]) (rest := []) (r1 := some (.int (-1))) (m1 := m) mz_t237 mz_v237_2101 rfl rfl rfl rfl rfl ⟨?_, rfl⟩ ?_
            · refine mz_go 13 (c' := (if 114 = c.toInt8.toInt32 then 22 else 25, [some (.ref 2101), some (.int c), some (.int 0), some (.int 3), some (.int c.toInt8.toInt32), some (.int 0)], [], m)) rfl ?_
              refine mz_ifF (fun q => (tx_b8 (k := 114) hc (by decide) n0) q.symm) ?_
              refine mz_go 10 (c' := (if 115 = c.toInt8.toInt32 then 22 else 25, [some (.ref 2101), some (.int c), some (.int 0), some (.int 3), some (.int c.toInt8.toInt32), some (.int 1)], [], m)) rfl ?_
              refine mz_ifF (fun q => (tx_b8 (k := 115) hc (by decide) n1) q.symm) ?_
              refine mz_go 10 (c' := (if 110 = c.toInt8.toInt32 then 22 else 25, [some (.ref 2101), some (.int c), some (.int 0), some (.int 3), some (.int c.toInt8.toInt32), some (.int 2)], [], m)) rfl ?_
              refine mz_ifF (fun q => (tx_b8 (k := 110) hc (by decide) n2) q.symm) ?_
              refine mz_go 6 (c' := (32, [some (.ref 2101), some (.int c), some (.int 0), some (.int 3), some (.int c.toInt8.toInt32), some (.int 3)], [.int (-1)], m)) rfl ?_
              exact mz_ret rfl
            exact mz_ret rfl
          refine mz_go 1 (c' := (36, [some (.ref 2001), some (.int c), some (.int 0)], [.int (-1)], m)) rfl ?_
          exact mz_ret rfl
        exact mz_ret rfl
set_option maxHeartbeats 4000000 in
set_option maxRecDepth 100000 in
theorem tc_ix1 {m : mz_M} {c : Int32} (hc : sm_N 255 c) : mz_Me 15 mz_r230 [.ref 2002, .int ((c.toUInt32 % 65536).toInt32)] m (some (.int (tx_ix 1 c))) m := by
  rw [tx_i2c hc]
  have h0 : ¬ c < 0 := sm_N_nlt hc
  have h2 : ¬ 255 < c := sm_N_ngt (by decide) hc
  by_cases n0 : c = 118
  · subst n0
    show mz_Me 15 mz_r230 [.ref 2002, .int 118] m (some (.int 0)) m
    refine ⟨?_, rfl⟩
    refine mz_go 3 (c' := (3, [some (.ref 2002), some (.int 118)], [.int 0, .int 118, .ref 2002], m)) rfl ?_
    refine mz_doQ (R := mz_r231) (as := [.ref 2002, .int 118, .int 0]) (rest := []) (r1 := some (.int 0)) (m1 := m) mz_t231 mz_v231_2002 rfl rfl rfl rfl rfl ⟨?_, rfl⟩ ?_
    · refine mz_go 1 (c' := (1, [some (.ref 2002), some (.int 118), some (.int 0)], [.ref 2002], m)) rfl ?_
      refine mz_doQ (R := mz_r232) (as := [.ref 2002]) (rest := []) (r1 := some (.int 1)) (m1 := m) mz_t232 mz_v232_2002 rfl rfl rfl rfl rfl ⟨?_, rfl⟩ ?_
      · refine mz_go 7 (c' := (18, [some (.ref 2002)], [.int 1], m)) rfl ?_
        exact mz_ret rfl
      refine mz_go 6 (c' := (14, [some (.ref 2002), some (.int 118), some (.int 0)], [.ref 2002, .int 0, .int 118, .ref 2102], m)) rfl ?_
      refine mz_doQ (R := mz_r233) (as := [.ref 2002]) (rest := [.int 0, .int 118, .ref 2102]) (r1 := some (.int 3)) (m1 := m) mz_t233 mz_v233_2002 rfl rfl rfl rfl rfl ⟨?_, rfl⟩ ?_
      · refine mz_go 4 (c' := (6, [some (.ref 2002)], [.ref 2002, .int 3], m)) rfl ?_
        refine mz_doQ (R := mz_r234) (as := [.ref 2002]) (rest := [.int 3]) (r1 := some (.int 0)) (m1 := m) mz_t234 mz_v234_2002 rfl rfl rfl rfl rfl ⟨?_, rfl⟩ ?_
        · refine mz_go 5 (c' := (14, [some (.ref 2002)], [.int 0], m)) rfl ?_
          exact mz_ret rfl
        refine mz_go 1 (c' := (10, [some (.ref 2002)], [.int 3], m)) rfl ?_
        exact mz_ret rfl
      refine mz_doQ (R := mz_r235) (as := [.ref 2102, .int 118, .int 0, .int 3]) (rest := []) (r1 := some (.int 0)) (m1 := m) mz_t235 mz_v235_2102 rfl rfl rfl rfl rfl ⟨?_, rfl⟩ ?_
      · refine mz_go 1 (c' := (1, [some (.ref 2102), some (.int 118), some (.int 0), some (.int 3)], [.int 118], m)) rfl ?_
        refine mz_doQ (R := mz_r236) (as := [.int 118]) (rest := []) (r1 := some (.int 1)) (m1 := m) mz_t236 mz_v236 rfl rfl rfl rfl rfl ⟨?_, rfl⟩ ?_
        · refine mz_go 7 (c' := (16, [some (.int 118)], [.int 1], m)) rfl ?_
          exact mz_ret rfl
        refine mz_go 17 (c' := (33, [some (.ref 2102), some (.int 118), some (.int 0), some (.int 3)], [.int 3, .int 0, .int 118, .ref 2102], m)) rfl ?_
        refine mz_doQ (R := mz_r237) (as := [.ref 2102, .int 118, .int 0, .int 3]) (rest := []) (r1 := some (.int 0)) (m1 := m) mz_t237 mz_v237_2102 rfl rfl rfl rfl rfl ⟨?_, rfl⟩ ?_
        · refine mz_go 14 (c' := (24, [some (.ref 2102), some (.int 118), some (.int 0), some (.int 3), some (.int 118), some (.int 0)], [.int 0], m)) rfl ?_
          exact mz_ret rfl
        exact mz_ret rfl
      refine mz_go 1 (c' := (36, [some (.ref 2002), some (.int 118), some (.int 0)], [.int 0], m)) rfl ?_
      exact mz_ret rfl
    exact mz_ret rfl
  · skip
    by_cases n1 : c = 114
    · subst n1
      show mz_Me 15 mz_r230 [.ref 2002, .int 114] m (some (.int 1)) m
      refine ⟨?_, rfl⟩
      refine mz_go 3 (c' := (3, [some (.ref 2002), some (.int 114)], [.int 0, .int 114, .ref 2002], m)) rfl ?_
      refine mz_doQ (R := mz_r231) (as := [.ref 2002, .int 114, .int 0]) (rest := []) (r1 := some (.int 1)) (m1 := m) mz_t231 mz_v231_2002 rfl rfl rfl rfl rfl ⟨?_, rfl⟩ ?_
      · refine mz_go 1 (c' := (1, [some (.ref 2002), some (.int 114), some (.int 0)], [.ref 2002], m)) rfl ?_
        refine mz_doQ (R := mz_r232) (as := [.ref 2002]) (rest := []) (r1 := some (.int 1)) (m1 := m) mz_t232 mz_v232_2002 rfl rfl rfl rfl rfl ⟨?_, rfl⟩ ?_
        · refine mz_go 7 (c' := (18, [some (.ref 2002)], [.int 1], m)) rfl ?_
          exact mz_ret rfl
        refine mz_go 6 (c' := (14, [some (.ref 2002), some (.int 114), some (.int 0)], [.ref 2002, .int 0, .int 114, .ref 2102], m)) rfl ?_
        refine mz_doQ (R := mz_r233) (as := [.ref 2002]) (rest := [.int 0, .int 114, .ref 2102]) (r1 := some (.int 3)) (m1 := m) mz_t233 mz_v233_2002 rfl rfl rfl rfl rfl ⟨?_, rfl⟩ ?_
        · refine mz_go 4 (c' := (6, [some (.ref 2002)], [.ref 2002, .int 3], m)) rfl ?_
          refine mz_doQ (R := mz_r234) (as := [.ref 2002]) (rest := [.int 3]) (r1 := some (.int 0)) (m1 := m) mz_t234 mz_v234_2002 rfl rfl rfl rfl rfl ⟨?_, rfl⟩ ?_
          · refine mz_go 5 (c' := (14, [some (.ref 2002)], [.int 0], m)) rfl ?_
            exact mz_ret rfl
          refine mz_go 1 (c' := (10, [some (.ref 2002)], [.int 3], m)) rfl ?_
          exact mz_ret rfl
        refine mz_doQ (R := mz_r235) (as := [.ref 2102, .int 114, .int 0, .int 3]) (rest := []) (r1 := some (.int 1)) (m1 := m) mz_t235 mz_v235_2102 rfl rfl rfl rfl rfl ⟨?_, rfl⟩ ?_
        · refine mz_go 1 (c' := (1, [some (.ref 2102), some (.int 114), some (.int 0), some (.int 3)], [.int 114], m)) rfl ?_
          refine mz_doQ (R := mz_r236) (as := [.int 114]) (rest := []) (r1 := some (.int 1)) (m1 := m) mz_t236 mz_v236 rfl rfl rfl rfl rfl ⟨?_, rfl⟩ ?_
          · refine mz_go 7 (c' := (16, [some (.int 114)], [.int 1], m)) rfl ?_
            exact mz_ret rfl
          refine mz_go 17 (c' := (33, [some (.ref 2102), some (.int 114), some (.int 0), some (.int 3)], [.int 3, .int 0, .int 114, .ref 2102], m)) rfl ?_
          refine mz_doQ (R := mz_r237) (as := [.ref 2102, .int 114, .int 0, .int 3]) (rest := []) (r1 := some (.int 1)) (m1 := m) mz_t237 mz_v237_2102 rfl rfl rfl rfl rfl ⟨?_, rfl⟩ ?_
          · refine mz_go 24 (c' := (24, [some (.ref 2102), some (.int 114), some (.int 0), some (.int 3), some (.int 114), some (.int 1)], [.int 1], m)) rfl ?_
            exact mz_ret rfl
          exact mz_ret rfl
        refine mz_go 1 (c' := (36, [some (.ref 2002), some (.int 114), some (.int 0)], [.int 1], m)) rfl ?_
        exact mz_ret rfl
      exact mz_ret rfl
    · skip
      by_cases n2 : c = 110
      · subst n2
        show mz_Me 15 mz_r230 [.ref 2002, .int 110] m (some (.int 2)) m
        refine ⟨?_, rfl⟩
        refine mz_go 3 (c' := (3, [some (.ref 2002), some (.int 110)], [.int 0, .int 110, .ref 2002], m)) rfl ?_
        refine mz_doQ (R := mz_r231) (as := [.ref 2002, .int 110, .int 0]) (rest := []) (r1 := some (.int 2)) (m1 := m) mz_t231 mz_v231_2002 rfl rfl rfl rfl rfl ⟨?_, rfl⟩ ?_
        · refine mz_go 1 (c' := (1, [some (.ref 2002), some (.int 110), some (.int 0)], [.ref 2002], m)) rfl ?_
          refine mz_doQ (R := mz_r232) (as := [.ref 2002]) (rest := []) (r1 := some (.int 1)) (m1 := m) mz_t232 mz_v232_2002 rfl rfl rfl rfl rfl ⟨?_, rfl⟩ ?_
          · refine mz_go 7 (c' := (18, [some (.ref 2002)], [.int 1], m)) rfl ?_
            exact mz_ret rfl
          refine mz_go 6 (c' := (14, [some (.ref 2002), some (.int 110), some (.int 0)], [.ref 2002, .int 0, .int 110, .ref 2102], m)) rfl ?_
          refine mz_doQ (R := mz_r233) (as := [.ref 2002]) (rest := [.int 0, .int 110, .ref 2102]) (r1 := some (.int 3)) (m1 := m) mz_t233 mz_v233_2002 rfl rfl rfl rfl rfl ⟨?_, rfl⟩ ?_
          · refine mz_go 4 (c' := (6, [some (.ref 2002)], [.ref 2002, .int 3], m)) rfl ?_
            refine mz_doQ (R := mz_r234) (as := [.ref 2002]) (rest := [.int 3]) (r1 := some (.int 0)) (m1 := m) mz_t234 mz_v234_2002 rfl rfl rfl rfl rfl ⟨?_, rfl⟩ ?_
            · refine mz_go 5 (c' := (14, [some (.ref 2002)], [.int 0], m)) rfl ?_
              exact mz_ret rfl
            refine mz_go 1 (c' := (10, [some (.ref 2002)], [.int 3], m)) rfl ?_
            exact mz_ret rfl
          refine mz_doQ (R := mz_r235) (as := [.ref 2102, .int 110, .int 0, .int 3]) (rest := []) (r1 := some (.int 2)) (m1 := m) mz_t235 mz_v235_2102 rfl rfl rfl rfl rfl ⟨?_, rfl⟩ ?_
          · refine mz_go 1 (c' := (1, [some (.ref 2102), some (.int 110), some (.int 0), some (.int 3)], [.int 110], m)) rfl ?_
            refine mz_doQ (R := mz_r236) (as := [.int 110]) (rest := []) (r1 := some (.int 1)) (m1 := m) mz_t236 mz_v236 rfl rfl rfl rfl rfl ⟨?_, rfl⟩ ?_
            · refine mz_go 7 (c' := (16, [some (.int 110)], [.int 1], m)) rfl ?_
              exact mz_ret rfl
            refine mz_go 17 (c' := (33, [some (.ref 2102), some (.int 110), some (.int 0), some (.int 3)], [.int 3, .int 0, .int 110, .ref 2102], m)) rfl ?_
            refine mz_doQ (R := mz_r237) (as := [.ref 2102, .int 110, .int 0, .int 3]) (rest := []) (r1 := some (.int 2)) (m1 := m) mz_t237 mz_v237_2102 rfl rfl rfl rfl rfl ⟨?_, rfl⟩ ?_
            · refine mz_go 24 (c' := (28, [some (.ref 2102), some (.int 110), some (.int 0), some (.int 3), some (.int 110), some (.int 2)], [], m)) rfl ?_
              refine mz_go 10 (c' := (24, [some (.ref 2102), some (.int 110), some (.int 0), some (.int 3), some (.int 110), some (.int 2)], [.int 2], m)) rfl ?_
              exact mz_ret rfl
            exact mz_ret rfl
          refine mz_go 1 (c' := (36, [some (.ref 2002), some (.int 110), some (.int 0)], [.int 2], m)) rfl ?_
          exact mz_ret rfl
        exact mz_ret rfl
      · skip
        have hv : tx_ix 1 c = -1 := by
          have h : tx_name 1 c = none := by
            unfold tx_name
            simp only [if_neg n0, if_neg n1, if_neg n2]
          unfold tx_ix
          rw [h]
        rw [hv]
        refine ⟨?_, rfl⟩
        refine mz_go 3 (c' := (3, [some (.ref 2002), some (.int c)], [.int 0, .int c, .ref 2002], m)) rfl ?_
        refine mz_doQ (R := mz_r231) (as := [.ref 2002, .int c, .int 0]) (rest := []) (r1 := some (.int (-1))) (m1 := m) mz_t231 mz_v231_2002 rfl rfl rfl rfl rfl ⟨?_, rfl⟩ ?_
        · refine mz_go 1 (c' := (1, [some (.ref 2002), some (.int c), some (.int 0)], [.ref 2002], m)) rfl ?_
          refine mz_doQ (R := mz_r232) (as := [.ref 2002]) (rest := []) (r1 := some (.int 1)) (m1 := m) mz_t232 mz_v232_2002 rfl rfl rfl rfl rfl ⟨?_, rfl⟩ ?_
          · refine mz_go 7 (c' := (18, [some (.ref 2002)], [.int 1], m)) rfl ?_
            exact mz_ret rfl
          refine mz_go 6 (c' := (14, [some (.ref 2002), some (.int c), some (.int 0)], [.ref 2002, .int 0, .int c, .ref 2102], m)) rfl ?_
          refine mz_doQ (R := mz_r233) (as := [.ref 2002]) (rest := [.int 0, .int c, .ref 2102]) (r1 := some (.int 3)) (m1 := m) mz_t233 mz_v233_2002 rfl rfl rfl rfl rfl ⟨?_, rfl⟩ ?_
          · refine mz_go 4 (c' := (6, [some (.ref 2002)], [.ref 2002, .int 3], m)) rfl ?_
            refine mz_doQ (R := mz_r234) (as := [.ref 2002]) (rest := [.int 3]) (r1 := some (.int 0)) (m1 := m) mz_t234 mz_v234_2002 rfl rfl rfl rfl rfl ⟨?_, rfl⟩ ?_
            · refine mz_go 5 (c' := (14, [some (.ref 2002)], [.int 0], m)) rfl ?_
              exact mz_ret rfl
            refine mz_go 1 (c' := (10, [some (.ref 2002)], [.int 3], m)) rfl ?_
            exact mz_ret rfl
          refine mz_doQ (R := mz_r235) (as := [.ref 2102, .int c, .int 0, .int 3]) (rest := []) (r1 := some (.int (-1))) (m1 := m) mz_t235 mz_v235_2102 rfl rfl rfl rfl rfl ⟨?_, rfl⟩ ?_
          · refine mz_go 1 (c' := (1, [some (.ref 2102), some (.int c), some (.int 0), some (.int 3)], [.int c], m)) rfl ?_
            refine mz_doQ (R := mz_r236) (as := [.int c]) (rest := []) (r1 := some (.int 1)) (m1 := m) mz_t236 mz_v236 rfl rfl rfl rfl rfl ⟨?_, rfl⟩ ?_
            · refine mz_go 2 (c' := (if c < 0 then 15 else 4, [some (.int c)], [], m)) rfl ?_
              refine mz_ifF h0 ?_
              refine mz_go 3 (c' := (if 255 < c then 15 else 11, [some (.int c)], [], m)) rfl ?_
              refine mz_ifF h2 ?_
              refine mz_go 2 (c' := (16, [some (.int c)], [.int 1], m)) rfl ?_
              exact mz_ret rfl
            refine mz_go 17 (c' := (33, [some (.ref 2102), some (.int c), some (.int 0), some (.int 3)], [.int 3, .int 0, .int c, .ref 2102], m)) rfl ?_
            refine mz_doQ (R := mz_r237) (as := [.ref 2102, .int c, .int 0, .int 3]) (rest := []) (r1 := some (.int (-1))) (m1 := m) mz_t237 mz_v237_2102 rfl rfl rfl rfl rfl ⟨?_, rfl⟩ ?_
            · refine mz_go 13 (c' := (if 118 = c.toInt8.toInt32 then 22 else 25, [some (.ref 2102), some (.int c), some (.int 0), some (.int 3), some (.int c.toInt8.toInt32), some (.int 0)], [], m)) rfl ?_
              refine mz_ifF (fun q => (tx_b8 (k := 118) hc (by decide) n0) q.symm) ?_
              refine mz_go 10 (c' := (if 114 = c.toInt8.toInt32 then 22 else 25, [some (.ref 2102), some (.int c), some (.int 0), some (.int 3), some (.int c.toInt8.toInt32), some (.int 1)], [], m)) rfl ?_
              refine mz_ifF (fun q => (tx_b8 (k := 114) hc (by decide) n1) q.symm) ?_
              refine mz_go 10 (c' := (if 110 = c.toInt8.toInt32 then 22 else 25, [some (.ref 2102), some (.int c), some (.int 0), some (.int 3), some (.int c.toInt8.toInt32), some (.int 2)], [], m)) rfl ?_
              refine mz_ifF (fun q => (tx_b8 (k := 110) hc (by decide) n2) q.symm) ?_
              refine mz_go 6 (c' := (32, [some (.ref 2102), some (.int c), some (.int 0), some (.int 3), some (.int c.toInt8.toInt32), some (.int 3)], [.int (-1)], m)) rfl ?_
              exact mz_ret rfl
            exact mz_ret rfl
          refine mz_go 1 (c' := (36, [some (.ref 2002), some (.int c), some (.int 0)], [.int (-1)], m)) rfl ?_
          exact mz_ret rfl
        exact mz_ret rfl
set_option maxHeartbeats 4000000 in
set_option maxRecDepth 100000 in
theorem tc_ix2 {m : mz_M} {c : Int32} (hc : sm_N 255 c) : mz_Me 15 mz_r230 [.ref 2003, .int ((c.toUInt32 % 65536).toInt32)] m (some (.int (tx_ix 2 c))) m := by
  rw [tx_i2c hc]
  have h0 : ¬ c < 0 := sm_N_nlt hc
  have h2 : ¬ 255 < c := sm_N_ngt (by decide) hc
  by_cases n0 : c = 99
  · subst n0
    show mz_Me 15 mz_r230 [.ref 2003, .int 99] m (some (.int 0)) m
    refine ⟨?_, rfl⟩
    refine mz_go 3 (c' := (3, [some (.ref 2003), some (.int 99)], [.int 0, .int 99, .ref 2003], m)) rfl ?_
    refine mz_doQ (R := mz_r231) (as := [.ref 2003, .int 99, .int 0]) (rest := []) (r1 := some (.int 0)) (m1 := m) mz_t231 mz_v231_2003 rfl rfl rfl rfl rfl ⟨?_, rfl⟩ ?_
    · refine mz_go 1 (c' := (1, [some (.ref 2003), some (.int 99), some (.int 0)], [.ref 2003], m)) rfl ?_
      refine mz_doQ (R := mz_r232) (as := [.ref 2003]) (rest := []) (r1 := some (.int 1)) (m1 := m) mz_t232 mz_v232_2003 rfl rfl rfl rfl rfl ⟨?_, rfl⟩ ?_
      · refine mz_go 7 (c' := (18, [some (.ref 2003)], [.int 1], m)) rfl ?_
        exact mz_ret rfl
      refine mz_go 6 (c' := (14, [some (.ref 2003), some (.int 99), some (.int 0)], [.ref 2003, .int 0, .int 99, .ref 2103], m)) rfl ?_
      refine mz_doQ (R := mz_r233) (as := [.ref 2003]) (rest := [.int 0, .int 99, .ref 2103]) (r1 := some (.int 5)) (m1 := m) mz_t233 mz_v233_2003 rfl rfl rfl rfl rfl ⟨?_, rfl⟩ ?_
      · refine mz_go 4 (c' := (6, [some (.ref 2003)], [.ref 2003, .int 5], m)) rfl ?_
        refine mz_doQ (R := mz_r234) (as := [.ref 2003]) (rest := [.int 5]) (r1 := some (.int 0)) (m1 := m) mz_t234 mz_v234_2003 rfl rfl rfl rfl rfl ⟨?_, rfl⟩ ?_
        · refine mz_go 5 (c' := (14, [some (.ref 2003)], [.int 0], m)) rfl ?_
          exact mz_ret rfl
        refine mz_go 1 (c' := (10, [some (.ref 2003)], [.int 5], m)) rfl ?_
        exact mz_ret rfl
      refine mz_doQ (R := mz_r235) (as := [.ref 2103, .int 99, .int 0, .int 5]) (rest := []) (r1 := some (.int 0)) (m1 := m) mz_t235 mz_v235_2103 rfl rfl rfl rfl rfl ⟨?_, rfl⟩ ?_
      · refine mz_go 1 (c' := (1, [some (.ref 2103), some (.int 99), some (.int 0), some (.int 5)], [.int 99], m)) rfl ?_
        refine mz_doQ (R := mz_r236) (as := [.int 99]) (rest := []) (r1 := some (.int 1)) (m1 := m) mz_t236 mz_v236 rfl rfl rfl rfl rfl ⟨?_, rfl⟩ ?_
        · refine mz_go 7 (c' := (16, [some (.int 99)], [.int 1], m)) rfl ?_
          exact mz_ret rfl
        refine mz_go 17 (c' := (33, [some (.ref 2103), some (.int 99), some (.int 0), some (.int 5)], [.int 5, .int 0, .int 99, .ref 2103], m)) rfl ?_
        refine mz_doQ (R := mz_r237) (as := [.ref 2103, .int 99, .int 0, .int 5]) (rest := []) (r1 := some (.int 0)) (m1 := m) mz_t237 mz_v237_2103 rfl rfl rfl rfl rfl ⟨?_, rfl⟩ ?_
        · refine mz_go 14 (c' := (24, [some (.ref 2103), some (.int 99), some (.int 0), some (.int 5), some (.int 99), some (.int 0)], [.int 0], m)) rfl ?_
          exact mz_ret rfl
        exact mz_ret rfl
      refine mz_go 1 (c' := (36, [some (.ref 2003), some (.int 99), some (.int 0)], [.int 0], m)) rfl ?_
      exact mz_ret rfl
    exact mz_ret rfl
  · skip
    by_cases n1 : c = 108
    · subst n1
      show mz_Me 15 mz_r230 [.ref 2003, .int 108] m (some (.int 1)) m
      refine ⟨?_, rfl⟩
      refine mz_go 3 (c' := (3, [some (.ref 2003), some (.int 108)], [.int 0, .int 108, .ref 2003], m)) rfl ?_
      refine mz_doQ (R := mz_r231) (as := [.ref 2003, .int 108, .int 0]) (rest := []) (r1 := some (.int 1)) (m1 := m) mz_t231 mz_v231_2003 rfl rfl rfl rfl rfl ⟨?_, rfl⟩ ?_
      · refine mz_go 1 (c' := (1, [some (.ref 2003), some (.int 108), some (.int 0)], [.ref 2003], m)) rfl ?_
        refine mz_doQ (R := mz_r232) (as := [.ref 2003]) (rest := []) (r1 := some (.int 1)) (m1 := m) mz_t232 mz_v232_2003 rfl rfl rfl rfl rfl ⟨?_, rfl⟩ ?_
        · refine mz_go 7 (c' := (18, [some (.ref 2003)], [.int 1], m)) rfl ?_
          exact mz_ret rfl
        refine mz_go 6 (c' := (14, [some (.ref 2003), some (.int 108), some (.int 0)], [.ref 2003, .int 0, .int 108, .ref 2103], m)) rfl ?_
        refine mz_doQ (R := mz_r233) (as := [.ref 2003]) (rest := [.int 0, .int 108, .ref 2103]) (r1 := some (.int 5)) (m1 := m) mz_t233 mz_v233_2003 rfl rfl rfl rfl rfl ⟨?_, rfl⟩ ?_
        · refine mz_go 4 (c' := (6, [some (.ref 2003)], [.ref 2003, .int 5], m)) rfl ?_
          refine mz_doQ (R := mz_r234) (as := [.ref 2003]) (rest := [.int 5]) (r1 := some (.int 0)) (m1 := m) mz_t234 mz_v234_2003 rfl rfl rfl rfl rfl ⟨?_, rfl⟩ ?_
          · refine mz_go 5 (c' := (14, [some (.ref 2003)], [.int 0], m)) rfl ?_
            exact mz_ret rfl
          refine mz_go 1 (c' := (10, [some (.ref 2003)], [.int 5], m)) rfl ?_
          exact mz_ret rfl
        refine mz_doQ (R := mz_r235) (as := [.ref 2103, .int 108, .int 0, .int 5]) (rest := []) (r1 := some (.int 1)) (m1 := m) mz_t235 mz_v235_2103 rfl rfl rfl rfl rfl ⟨?_, rfl⟩ ?_
        · refine mz_go 1 (c' := (1, [some (.ref 2103), some (.int 108), some (.int 0), some (.int 5)], [.int 108], m)) rfl ?_
          refine mz_doQ (R := mz_r236) (as := [.int 108]) (rest := []) (r1 := some (.int 1)) (m1 := m) mz_t236 mz_v236 rfl rfl rfl rfl rfl ⟨?_, rfl⟩ ?_
          · refine mz_go 7 (c' := (16, [some (.int 108)], [.int 1], m)) rfl ?_
            exact mz_ret rfl
          refine mz_go 17 (c' := (33, [some (.ref 2103), some (.int 108), some (.int 0), some (.int 5)], [.int 5, .int 0, .int 108, .ref 2103], m)) rfl ?_
          refine mz_doQ (R := mz_r237) (as := [.ref 2103, .int 108, .int 0, .int 5]) (rest := []) (r1 := some (.int 1)) (m1 := m) mz_t237 mz_v237_2103 rfl rfl rfl rfl rfl ⟨?_, rfl⟩ ?_
          · refine mz_go 24 (c' := (24, [some (.ref 2103), some (.int 108), some (.int 0), some (.int 5), some (.int 108), some (.int 1)], [.int 1], m)) rfl ?_
            exact mz_ret rfl
          exact mz_ret rfl
        refine mz_go 1 (c' := (36, [some (.ref 2003), some (.int 108), some (.int 0)], [.int 1], m)) rfl ?_
        exact mz_ret rfl
      exact mz_ret rfl
    · skip
      by_cases n2 : c = 120
      · subst n2
        show mz_Me 15 mz_r230 [.ref 2003, .int 120] m (some (.int 2)) m
        refine ⟨?_, rfl⟩
        refine mz_go 3 (c' := (3, [some (.ref 2003), some (.int 120)], [.int 0, .int 120, .ref 2003], m)) rfl ?_
        refine mz_doQ (R := mz_r231) (as := [.ref 2003, .int 120, .int 0]) (rest := []) (r1 := some (.int 2)) (m1 := m) mz_t231 mz_v231_2003 rfl rfl rfl rfl rfl ⟨?_, rfl⟩ ?_
        · refine mz_go 1 (c' := (1, [some (.ref 2003), some (.int 120), some (.int 0)], [.ref 2003], m)) rfl ?_
          refine mz_doQ (R := mz_r232) (as := [.ref 2003]) (rest := []) (r1 := some (.int 1)) (m1 := m) mz_t232 mz_v232_2003 rfl rfl rfl rfl rfl ⟨?_, rfl⟩ ?_
          · refine mz_go 7 (c' := (18, [some (.ref 2003)], [.int 1], m)) rfl ?_
            exact mz_ret rfl
          refine mz_go 6 (c' := (14, [some (.ref 2003), some (.int 120), some (.int 0)], [.ref 2003, .int 0, .int 120, .ref 2103], m)) rfl ?_
          refine mz_doQ (R := mz_r233) (as := [.ref 2003]) (rest := [.int 0, .int 120, .ref 2103]) (r1 := some (.int 5)) (m1 := m) mz_t233 mz_v233_2003 rfl rfl rfl rfl rfl ⟨?_, rfl⟩ ?_
          · refine mz_go 4 (c' := (6, [some (.ref 2003)], [.ref 2003, .int 5], m)) rfl ?_
            refine mz_doQ (R := mz_r234) (as := [.ref 2003]) (rest := [.int 5]) (r1 := some (.int 0)) (m1 := m) mz_t234 mz_v234_2003 rfl rfl rfl rfl rfl ⟨?_, rfl⟩ ?_
            · refine mz_go 5 (c' := (14, [some (.ref 2003)], [.int 0], m)) rfl ?_
              exact mz_ret rfl
            refine mz_go 1 (c' := (10, [some (.ref 2003)], [.int 5], m)) rfl ?_
            exact mz_ret rfl
          refine mz_doQ (R := mz_r235) (as := [.ref 2103, .int 120, .int 0, .int 5]) (rest := []) (r1 := some (.int 2)) (m1 := m) mz_t235 mz_v235_2103 rfl rfl rfl rfl rfl ⟨?_, rfl⟩ ?_
          · refine mz_go 1 (c' := (1, [some (.ref 2103), some (.int 120), some (.int 0), some (.int 5)], [.int 120], m)) rfl ?_
            refine mz_doQ (R := mz_r236) (as := [.int 120]) (rest := []) (r1 := some (.int 1)) (m1 := m) mz_t236 mz_v236 rfl rfl rfl rfl rfl ⟨?_, rfl⟩ ?_
            · refine mz_go 7 (c' := (16, [some (.int 120)], [.int 1], m)) rfl ?_
              exact mz_ret rfl
            refine mz_go 17 (c' := (33, [some (.ref 2103), some (.int 120), some (.int 0), some (.int 5)], [.int 5, .int 0, .int 120, .ref 2103], m)) rfl ?_
            refine mz_doQ (R := mz_r237) (as := [.ref 2103, .int 120, .int 0, .int 5]) (rest := []) (r1 := some (.int 2)) (m1 := m) mz_t237 mz_v237_2103 rfl rfl rfl rfl rfl ⟨?_, rfl⟩ ?_
            · refine mz_go 24 (c' := (28, [some (.ref 2103), some (.int 120), some (.int 0), some (.int 5), some (.int 120), some (.int 2)], [], m)) rfl ?_
              refine mz_go 10 (c' := (24, [some (.ref 2103), some (.int 120), some (.int 0), some (.int 5), some (.int 120), some (.int 2)], [.int 2], m)) rfl ?_
              exact mz_ret rfl
            exact mz_ret rfl
          refine mz_go 1 (c' := (36, [some (.ref 2003), some (.int 120), some (.int 0)], [.int 2], m)) rfl ?_
          exact mz_ret rfl
        exact mz_ret rfl
      · skip
        by_cases n3 : c = 121
        · subst n3
          show mz_Me 15 mz_r230 [.ref 2003, .int 121] m (some (.int 3)) m
          refine ⟨?_, rfl⟩
          refine mz_go 3 (c' := (3, [some (.ref 2003), some (.int 121)], [.int 0, .int 121, .ref 2003], m)) rfl ?_
          refine mz_doQ (R := mz_r231) (as := [.ref 2003, .int 121, .int 0]) (rest := []) (r1 := some (.int 3)) (m1 := m) mz_t231 mz_v231_2003 rfl rfl rfl rfl rfl ⟨?_, rfl⟩ ?_
          · refine mz_go 1 (c' := (1, [some (.ref 2003), some (.int 121), some (.int 0)], [.ref 2003], m)) rfl ?_
            refine mz_doQ (R := mz_r232) (as := [.ref 2003]) (rest := []) (r1 := some (.int 1)) (m1 := m) mz_t232 mz_v232_2003 rfl rfl rfl rfl rfl ⟨?_, rfl⟩ ?_
            · refine mz_go 7 (c' := (18, [some (.ref 2003)], [.int 1], m)) rfl ?_
              exact mz_ret rfl
            refine mz_go 6 (c' := (14, [some (.ref 2003), some (.int 121), some (.int 0)], [.ref 2003, .int 0, .int 121, .ref 2103], m)) rfl ?_
            refine mz_doQ (R := mz_r233) (as := [.ref 2003]) (rest := [.int 0, .int 121, .ref 2103]) (r1 := some (.int 5)) (m1 := m) mz_t233 mz_v233_2003 rfl rfl rfl rfl rfl ⟨?_, rfl⟩ ?_
            · refine mz_go 4 (c' := (6, [some (.ref 2003)], [.ref 2003, .int 5], m)) rfl ?_
              refine mz_doQ (R := mz_r234) (as := [.ref 2003]) (rest := [.int 5]) (r1 := some (.int 0)) (m1 := m) mz_t234 mz_v234_2003 rfl rfl rfl rfl rfl ⟨?_, rfl⟩ ?_
              · refine mz_go 5 (c' := (14, [some (.ref 2003)], [.int 0], m)) rfl ?_
                exact mz_ret rfl
              refine mz_go 1 (c' := (10, [some (.ref 2003)], [.int 5], m)) rfl ?_
              exact mz_ret rfl
            refine mz_doQ (R := mz_r235) (as := [.ref 2103, .int 121, .int 0, .int 5]) (rest := []) (r1 := some (.int 3)) (m1 := m) mz_t235 mz_v235_2103 rfl rfl rfl rfl rfl ⟨?_, rfl⟩ ?_
            · refine mz_go 1 (c' := (1, [some (.ref 2103), some (.int 121), some (.int 0), some (.int 5)], [.int 121], m)) rfl ?_
              refine mz_doQ (R := mz_r236) (as := [.int 121]) (rest := []) (r1 := some (.int 1)) (m1 := m) mz_t236 mz_v236 rfl rfl rfl rfl rfl ⟨?_, rfl⟩ ?_
              · refine mz_go 7 (c' := (16, [some (.int 121)], [.int 1], m)) rfl ?_
                exact mz_ret rfl
              refine mz_go 17 (c' := (33, [some (.ref 2103), some (.int 121), some (.int 0), some (.int 5)], [.int 5, .int 0, .int 121, .ref 2103], m)) rfl ?_
              refine mz_doQ (R := mz_r237) (as := [.ref 2103, .int 121, .int 0, .int 5]) (rest := []) (r1 := some (.int 3)) (m1 := m) mz_t237 mz_v237_2103 rfl rfl rfl rfl rfl ⟨?_, rfl⟩ ?_
              · refine mz_go 24 (c' := (28, [some (.ref 2103), some (.int 121), some (.int 0), some (.int 5), some (.int 121), some (.int 2)], [], m)) rfl ?_
                refine mz_go 20 (c' := (24, [some (.ref 2103), some (.int 121), some (.int 0), some (.int 5), some (.int 121), some (.int 3)], [.int 3], m)) rfl ?_
                exact mz_ret rfl
              exact mz_ret rfl
            refine mz_go 1 (c' := (36, [some (.ref 2003), some (.int 121), some (.int 0)], [.int 3], m)) rfl ?_
            exact mz_ret rfl
          exact mz_ret rfl
        · skip
          by_cases n4 : c = 101
          · subst n4
            show mz_Me 15 mz_r230 [.ref 2003, .int 101] m (some (.int 4)) m
            refine ⟨?_, rfl⟩
            refine mz_go 3 (c' := (3, [some (.ref 2003), some (.int 101)], [.int 0, .int 101, .ref 2003], m)) rfl ?_
            refine mz_doQ (R := mz_r231) (as := [.ref 2003, .int 101, .int 0]) (rest := []) (r1 := some (.int 4)) (m1 := m) mz_t231 mz_v231_2003 rfl rfl rfl rfl rfl ⟨?_, rfl⟩ ?_
            · refine mz_go 1 (c' := (1, [some (.ref 2003), some (.int 101), some (.int 0)], [.ref 2003], m)) rfl ?_
              refine mz_doQ (R := mz_r232) (as := [.ref 2003]) (rest := []) (r1 := some (.int 1)) (m1 := m) mz_t232 mz_v232_2003 rfl rfl rfl rfl rfl ⟨?_, rfl⟩ ?_
              · refine mz_go 7 (c' := (18, [some (.ref 2003)], [.int 1], m)) rfl ?_
                exact mz_ret rfl
              refine mz_go 6 (c' := (14, [some (.ref 2003), some (.int 101), some (.int 0)], [.ref 2003, .int 0, .int 101, .ref 2103], m)) rfl ?_
              refine mz_doQ (R := mz_r233) (as := [.ref 2003]) (rest := [.int 0, .int 101, .ref 2103]) (r1 := some (.int 5)) (m1 := m) mz_t233 mz_v233_2003 rfl rfl rfl rfl rfl ⟨?_, rfl⟩ ?_
              · refine mz_go 4 (c' := (6, [some (.ref 2003)], [.ref 2003, .int 5], m)) rfl ?_
                refine mz_doQ (R := mz_r234) (as := [.ref 2003]) (rest := [.int 5]) (r1 := some (.int 0)) (m1 := m) mz_t234 mz_v234_2003 rfl rfl rfl rfl rfl ⟨?_, rfl⟩ ?_
                · refine mz_go 5 (c' := (14, [some (.ref 2003)], [.int 0], m)) rfl ?_
                  exact mz_ret rfl
                refine mz_go 1 (c' := (10, [some (.ref 2003)], [.int 5], m)) rfl ?_
                exact mz_ret rfl
              refine mz_doQ (R := mz_r235) (as := [.ref 2103, .int 101, .int 0, .int 5]) (rest := []) (r1 := some (.int 4)) (m1 := m) mz_t235 mz_v235_2103 rfl rfl rfl rfl rfl ⟨?_, rfl⟩ ?_
              · refine mz_go 1 (c' := (1, [some (.ref 2103), some (.int 101), some (.int 0), some (.int 5)], [.int 101], m)) rfl ?_
                refine mz_doQ (R := mz_r236) (as := [.int 101]) (rest := []) (r1 := some (.int 1)) (m1 := m) mz_t236 mz_v236 rfl rfl rfl rfl rfl ⟨?_, rfl⟩ ?_
                · refine mz_go 7 (c' := (16, [some (.int 101)], [.int 1], m)) rfl ?_
                  exact mz_ret rfl
                refine mz_go 17 (c' := (33, [some (.ref 2103), some (.int 101), some (.int 0), some (.int 5)], [.int 5, .int 0, .int 101, .ref 2103], m)) rfl ?_
                refine mz_doQ (R := mz_r237) (as := [.ref 2103, .int 101, .int 0, .int 5]) (rest := []) (r1 := some (.int 4)) (m1 := m) mz_t237 mz_v237_2103 rfl rfl rfl rfl rfl ⟨?_, rfl⟩ ?_
                · refine mz_go 24 (c' := (28, [some (.ref 2103), some (.int 101), some (.int 0), some (.int 5), some (.int 101), some (.int 2)], [], m)) rfl ?_
                  refine mz_go 24 (c' := (13, [some (.ref 2103), some (.int 101), some (.int 0), some (.int 5), some (.int 101), some (.int 4)], [], m)) rfl ?_
                  refine mz_go 6 (c' := (24, [some (.ref 2103), some (.int 101), some (.int 0), some (.int 5), some (.int 101), some (.int 4)], [.int 4], m)) rfl ?_
                  exact mz_ret rfl
                exact mz_ret rfl
              refine mz_go 1 (c' := (36, [some (.ref 2003), some (.int 101), some (.int 0)], [.int 4], m)) rfl ?_
              exact mz_ret rfl
            exact mz_ret rfl
          · skip
            have hv : tx_ix 2 c = -1 := by
              have h : tx_name 2 c = none := by
                unfold tx_name
                simp only [if_neg n0, if_neg n1, if_neg n2, if_neg n3, if_neg n4]
              unfold tx_ix
              rw [h]
            rw [hv]
            refine ⟨?_, rfl⟩
            refine mz_go 3 (c' := (3, [some (.ref 2003), some (.int c)], [.int 0, .int c, .ref 2003], m)) rfl ?_
            refine mz_doQ (R := mz_r231) (as := [.ref 2003, .int c, .int 0]) (rest := []) (r1 := some (.int (-1))) (m1 := m) mz_t231 mz_v231_2003 rfl rfl rfl rfl rfl ⟨?_, rfl⟩ ?_
            · refine mz_go 1 (c' := (1, [some (.ref 2003), some (.int c), some (.int 0)], [.ref 2003], m)) rfl ?_
              refine mz_doQ (R := mz_r232) (as := [.ref 2003]) (rest := []) (r1 := some (.int 1)) (m1 := m) mz_t232 mz_v232_2003 rfl rfl rfl rfl rfl ⟨?_, rfl⟩ ?_
              · refine mz_go 7 (c' := (18, [some (.ref 2003)], [.int 1], m)) rfl ?_
                exact mz_ret rfl
              refine mz_go 6 (c' := (14, [some (.ref 2003), some (.int c), some (.int 0)], [.ref 2003, .int 0, .int c, .ref 2103], m)) rfl ?_
              refine mz_doQ (R := mz_r233) (as := [.ref 2003]) (rest := [.int 0, .int c, .ref 2103]) (r1 := some (.int 5)) (m1 := m) mz_t233 mz_v233_2003 rfl rfl rfl rfl rfl ⟨?_, rfl⟩ ?_
              · refine mz_go 4 (c' := (6, [some (.ref 2003)], [.ref 2003, .int 5], m)) rfl ?_
                refine mz_doQ (R := mz_r234) (as := [.ref 2003]) (rest := [.int 5]) (r1 := some (.int 0)) (m1 := m) mz_t234 mz_v234_2003 rfl rfl rfl rfl rfl ⟨?_, rfl⟩ ?_
                · refine mz_go 5 (c' := (14, [some (.ref 2003)], [.int 0], m)) rfl ?_
                  exact mz_ret rfl
                refine mz_go 1 (c' := (10, [some (.ref 2003)], [.int 5], m)) rfl ?_
                exact mz_ret rfl
              refine mz_doQ (R := mz_r235) (as := [.ref 2103, .int c, .int 0, .int 5]) (rest := []) (r1 := some (.int (-1))) (m1 := m) mz_t235 mz_v235_2103 rfl rfl rfl rfl rfl ⟨?_, rfl⟩ ?_
              · refine mz_go 1 (c' := (1, [some (.ref 2103), some (.int c), some (.int 0), some (.int 5)], [.int c], m)) rfl ?_
                refine mz_doQ (R := mz_r236) (as := [.int c]) (rest := []) (r1 := some (.int 1)) (m1 := m) mz_t236 mz_v236 rfl rfl rfl rfl rfl ⟨?_, rfl⟩ ?_
                · refine mz_go 2 (c' := (if c < 0 then 15 else 4, [some (.int c)], [], m)) rfl ?_
                  refine mz_ifF h0 ?_
                  refine mz_go 3 (c' := (if 255 < c then 15 else 11, [some (.int c)], [], m)) rfl ?_
                  refine mz_ifF h2 ?_
                  refine mz_go 2 (c' := (16, [some (.int c)], [.int 1], m)) rfl ?_
                  exact mz_ret rfl
                refine mz_go 17 (c' := (33, [some (.ref 2103), some (.int c), some (.int 0), some (.int 5)], [.int 5, .int 0, .int c, .ref 2103], m)) rfl ?_
                refine mz_doQ (R := mz_r237) (as := [.ref 2103, .int c, .int 0, .int 5]) (rest := []) (r1 := some (.int (-1))) (m1 := m) mz_t237 mz_v237_2103 rfl rfl rfl rfl rfl ⟨?_, rfl⟩ ?_
                · refine mz_go 13 (c' := (if 99 = c.toInt8.toInt32 then 22 else 25, [some (.ref 2103), some (.int c), some (.int 0), some (.int 5), some (.int c.toInt8.toInt32), some (.int 0)], [], m)) rfl ?_
                  refine mz_ifF (fun q => (tx_b8 (k := 99) hc (by decide) n0) q.symm) ?_
                  refine mz_go 10 (c' := (if 108 = c.toInt8.toInt32 then 22 else 25, [some (.ref 2103), some (.int c), some (.int 0), some (.int 5), some (.int c.toInt8.toInt32), some (.int 1)], [], m)) rfl ?_
                  refine mz_ifF (fun q => (tx_b8 (k := 108) hc (by decide) n1) q.symm) ?_
                  refine mz_go 10 (c' := (if 120 = c.toInt8.toInt32 then 22 else 25, [some (.ref 2103), some (.int c), some (.int 0), some (.int 5), some (.int c.toInt8.toInt32), some (.int 2)], [], m)) rfl ?_
                  refine mz_ifF (fun q => (tx_b8 (k := 120) hc (by decide) n2) q.symm) ?_
                  refine mz_go 10 (c' := (if 121 = c.toInt8.toInt32 then 22 else 25, [some (.ref 2103), some (.int c), some (.int 0), some (.int 5), some (.int c.toInt8.toInt32), some (.int 3)], [], m)) rfl ?_
                  refine mz_ifF (fun q => (tx_b8 (k := 121) hc (by decide) n3) q.symm) ?_
                  refine mz_go 10 (c' := (if 101 = c.toInt8.toInt32 then 22 else 25, [some (.ref 2103), some (.int c), some (.int 0), some (.int 5), some (.int c.toInt8.toInt32), some (.int 4)], [], m)) rfl ?_
                  refine mz_ifF (fun q => (tx_b8 (k := 101) hc (by decide) n4) q.symm) ?_
                  refine mz_go 6 (c' := (32, [some (.ref 2103), some (.int c), some (.int 0), some (.int 5), some (.int c.toInt8.toInt32), some (.int 5)], [.int (-1)], m)) rfl ?_
                  exact mz_ret rfl
                exact mz_ret rfl
              refine mz_go 1 (c' := (36, [some (.ref 2003), some (.int c), some (.int 0)], [.int (-1)], m)) rfl ?_
              exact mz_ret rfl
            exact mz_ret rfl
