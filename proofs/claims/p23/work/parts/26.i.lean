/-! cells of a picture: another colour, an edge -/
noncomputable def vq_ot (f : Nat → Int32) (W H : Nat) (a b c : Int32) : Int32 := if 0 ≤ a.toInt ∧ a.toInt < (W : Int) ∧ 0 ≤ b.toInt ∧ b.toInt < (H : Int) then (if f (b.toInt.toNat * 6 + a.toInt.toNat) = c then 0 else 1) else 0
theorem vq_o0 {f : Nat → Int32} {W H : Nat} {a b c : Int32} (h : W = 0) : 0 = vq_ot f W H a b c := by
  unfold vq_ot
  rw [if_neg (by omega)]
theorem vq_o1 {f : Nat → Int32} {W H : Nat} {a b c : Int32} (h : a < 0) : 0 = vq_ot f W H a b c := by
  have h2 : a.toInt < 0 := Int32.lt_iff_toInt_lt.mp h
  unfold vq_ot
  rw [if_neg (by omega)]
theorem vq_o2 {f : Nat → Int32} {W H A : Nat} {b c : Int32} (hA : A < 2 ^ 31) (h : W ≤ A) : 0 = vq_ot f W H (nI A) b c := by
  unfold vq_ot
  rw [nI_toInt hA, if_neg (by omega)]
theorem vq_o3 {f : Nat → Int32} {W H : Nat} {a b c : Int32} (h : b < 0) : 0 = vq_ot f W H a b c := by
  have h2 : b.toInt < 0 := Int32.lt_iff_toInt_lt.mp h
  unfold vq_ot
  rw [if_neg (by omega)]
theorem vq_o4 {f : Nat → Int32} {W H B : Nat} {a c : Int32} (hB : B < 2 ^ 31) (h : H ≤ B) : 0 = vq_ot f W H a (nI B) c := by
  unfold vq_ot
  rw [nI_toInt hB, if_neg (by omega)]
theorem vq_o {f : Nat → Int32} {W H A B : Nat} {c : Int32} (hA : A < W) (hB : B < H) (hW : W ≤ 6) (hH : H ≤ 6) : vq_ot f W H (nI A) (nI B) c = if f (B * 6 + A) = c then 0 else 1 := by
  unfold vq_ot
  rw [nI_toInt (show A < 2 ^ 31 by omega), nI_toInt (show B < 2 ^ 31 by omega), if_pos (by omega)]
  rfl
theorem vq_o5 {f : Nat → Int32} {W H A B : Nat} {c : Int32} (hA : A < W) (hB : B < H) (hW : W ≤ 6) (hH : H ≤ 6) (h : f (B * 6 + A) = c) : 0 = vq_ot f W H (nI A) (nI B) c := by
  rw [vq_o hA hB hW hH, if_pos h]
theorem vq_o6 {f : Nat → Int32} {W H A B : Nat} {c : Int32} (hA : A < W) (hB : B < H) (hW : W ≤ 6) (hH : H ≤ 6) (h : ¬ f (B * 6 + A) = c) : 1 = vq_ot f W H (nI A) (nI B) c := by
  rw [vq_o hA hB hW hH, if_neg h]
theorem vq_ot_eq {f g : Nat → Int32} {W H : Nat} (hW : W ≤ 6) (hH : H ≤ 6) (h : ∀ i, i < 36 → f i = g i) (a b c : Int32) : vq_ot f W H a b c = vq_ot g W H a b c := by
  unfold vq_ot
  by_cases q : 0 ≤ a.toInt ∧ a.toInt < (W : Int) ∧ 0 ≤ b.toInt ∧ b.toInt < (H : Int)
  · rw [if_pos q, if_pos q, h (b.toInt.toNat * 6 + a.toInt.toNat) (by omega)]
  · rw [if_neg q, if_neg q]
noncomputable def vq_ed (f : Nat → Int32) (W H I J : Nat) (c : Int32) : Int32 := if vq_ot f W H (nI I - 1) (nI J) c = 0 then (if vq_ot f W H (nI I + 1) (nI J) c = 0 then (if vq_ot f W H (nI I) (nI J - 1) c = 0 then (if vq_ot f W H (nI I) (nI J + 1) c = 0 then 0 else 1) else 1) else 1) else 1
theorem vq_ed_eq {f g : Nat → Int32} {W H : Nat} (hW : W ≤ 6) (hH : H ≤ 6) (h : ∀ i, i < 36 → f i = g i) (I J : Nat) (c : Int32) : vq_ed f W H I J c = vq_ed g W H I J c := by
  unfold vq_ed
  rw [vq_ot_eq hW hH h, vq_ot_eq hW hH h, vq_ot_eq hW hH h, vq_ot_eq hW hH h]
theorem vq_m1 {I : Nat} (h : I = 0) : nI I - 1 = -1 := by
  subst h
  decide
/-! folds and sums -/
noncomputable def vq_fold {α : Type} (g : Int32 → α → α) (o : Int32 → Prop) [DecidablePred o] : Nat → Int32 → α → α
  | 0, _, s => s
  | n + 1, x, s => if o x then s else vq_fold g o n (x + 1) (g x s)
theorem vq_fold_out {α : Type} {g : Int32 → α → α} {o : Int32 → Prop} [DecidablePred o] {n : Nat} {x : Int32} {s : α} (h : o x) : vq_fold g o n x s = s := by
  cases n with
  | zero => rfl
  | succ n => exact if_pos h
theorem vq_fold_in {α : Type} {g : Int32 → α → α} {o : Int32 → Prop} [DecidablePred o] {n : Nat} {x : Int32} {s s' : α} (h : ¬ o x) (e : g x s = s') : vq_fold g o (n + 1) x s = vq_fold g o n (x + 1) s' := by
  rw [← e]
  exact if_neg h
noncomputable def vq_fn {α : Type} (g : Nat → α → α) : Nat → Nat → α → α
  | 0, _, s => s
  | n + 1, k, s => vq_fn g n (k + 1) (g k s)
theorem vq_fn_in {α : Type} {g : Nat → α → α} {n k : Nat} {s s' : α} (e : g k s = s') : vq_fn g (n + 1) k s = vq_fn g n (k + 1) s' := by
  rw [← e]
  rfl
noncomputable def vq_sum : Nat → (Nat → Int32) → Int32
  | 0, _ => 0
  | n + 1, f => f 0 + vq_sum n (fun k => f (k + 1))
theorem vq_alc (a b c : Int32) : a + (b + c) = b + (a + c) := by rw [← Int32.add_assoc, Int32.add_comm a b, Int32.add_assoc]
theorem vq_sum_add : ∀ (n : Nat) (f g : Nat → Int32), vq_sum n (fun k => f k + g k) = vq_sum n f + vq_sum n g := by
  intro n
  induction n with
  | zero =>
    intro f g
    rfl
  | succ n ih =>
    intro f g
    show f 0 + g 0 + vq_sum n (fun k => f (k + 1) + g (k + 1)) = f 0 + vq_sum n (fun k => f (k + 1)) + (g 0 + vq_sum n (fun k => g (k + 1)))
    rw [ih (fun k => f (k + 1)) (fun k => g (k + 1)), Int32.add_assoc, Int32.add_assoc, vq_alc (g 0)]
theorem vq_sum_0 : ∀ n : Nat, vq_sum n (fun _ => 0) = 0 := by
  intro n
  induction n with
  | zero => rfl
  | succ n ih =>
    show 0 + vq_sum n (fun _ => 0) = 0
    rw [ih]
    rfl
theorem vq_sum_comm : ∀ (n m : Nat) (F : Nat → Nat → Int32), vq_sum n (fun i => vq_sum m (fun j => F i j)) = vq_sum m (fun j => vq_sum n (fun i => F i j)) := by
  intro n
  induction n with
  | zero =>
    intro m F
    exact (vq_sum_0 m).symm
  | succ n ih =>
    intro m F
    show vq_sum m (fun j => F 0 j) + vq_sum n (fun i => vq_sum m (fun j => F (i + 1) j)) = vq_sum m (fun j => F 0 j + vq_sum n (fun i => F (i + 1) j))
    rw [ih m (fun i j => F (i + 1) j), vq_sum_add]
theorem vq_sum_ex {n : Nat} {f g : Nat → Int32} (h : ∀ k, f k = g k) : vq_sum n f = vq_sum n g := by
  rw [show f = g from funext h]
theorem vq_x0 (x : Int32) : x + nI 0 = x := by
  rw [show nI 0 = 0 from rfl, Int32.add_zero]
theorem vq_x1 (x : Int32) (k : Nat) : x + 1 + nI k = x + nI (k + 1) := by
  rw [nI_succ k, Int32.add_assoc, Int32.add_comm 1]
theorem vq_fold_sum (h : Int32 → Int32) {e : Int32} (he : e.toInt < 2147483647) : ∀ (n : Nat) (x s : Int32), x.toInt + (n : Int) ≤ e.toInt + 1 → vq_fold (fun y t => t + h y) (fun y => e < y) n x s = s + vq_sum n (fun k => h (x + nI k)) := by
  intro n
  induction n with
  | zero =>
    intro x s _
    show s = s + 0
    rw [Int32.add_zero]
  | succ n ih =>
    intro x s hx
    have h1 : ¬ e < x := fun q => by
      have := Int32.lt_iff_toInt_lt.mp q
      omega
    have h2 : (x + 1).toInt = x.toInt + 1 := by
      have hl := Int32.le_toInt x
      have e1 : (1 : Int32).toInt = 1 := by decide
      rw [sm_add (by rw [e1]; omega) (by rw [e1]; omega), e1]
    rw [vq_fold_in (g := fun y t => t + h y) (o := fun y => e < y) (s' := s + h x) h1 rfl, ih (x + 1) (s + h x) (by omega)]
    show s + h x + vq_sum n (fun k => h (x + 1 + nI k)) = s + (h (x + nI 0) + vq_sum n (fun k => h (x + nI (k + 1))))
    rw [vq_x0, Int32.add_assoc, vq_sum_ex (fun k => by rw [vq_x1])]
/-! cells of a colour around one -/
noncomputable def vq_is (f : Nat → Int32) (W H : Nat) (a b c : Int32) : Int32 := if 0 ≤ a.toInt ∧ a.toInt < (W : Int) ∧ 0 ≤ b.toInt ∧ b.toInt < (H : Int) then (if f (b.toInt.toNat * 6 + a.toInt.toNat) = c then 1 else 0) else 0
theorem vq_s {f : Nat → Int32} {W H : Nat} {a b c s : Int32} (h : ¬ (0 ≤ a.toInt ∧ a.toInt < (W : Int) ∧ 0 ≤ b.toInt ∧ b.toInt < (H : Int))) : s + vq_is f W H a b c = s := by
  unfold vq_is
  rw [if_neg h, Int32.add_zero]
theorem vq_s0 {f : Nat → Int32} {W H : Nat} {a b c s : Int32} (h : W = 0) : s + vq_is f W H a b c = s := vq_s (by omega)
theorem vq_s1 {f : Nat → Int32} {W H : Nat} {a b c s : Int32} (h : a < 0) : s + vq_is f W H a b c = s := by
  have h2 : a.toInt < 0 := Int32.lt_iff_toInt_lt.mp h
  exact vq_s (by omega)
theorem vq_s2 {f : Nat → Int32} {W H A : Nat} {b c s : Int32} (hA : A < 2 ^ 31) (h : W ≤ A) : s + vq_is f W H (nI A) b c = s := by
  have h2 := nI_toInt hA
  exact vq_s (by omega)
theorem vq_s3 {f : Nat → Int32} {W H : Nat} {a b c s : Int32} (h : b < 0) : s + vq_is f W H a b c = s := by
  have h2 : b.toInt < 0 := Int32.lt_iff_toInt_lt.mp h
  exact vq_s (by omega)
theorem vq_s4 {f : Nat → Int32} {W H B : Nat} {a c s : Int32} (hB : B < 2 ^ 31) (h : H ≤ B) : s + vq_is f W H a (nI B) c = s := by
  have h2 := nI_toInt hB
  exact vq_s (by omega)
theorem vq_i {f : Nat → Int32} {W H A B : Nat} {c : Int32} (hA : A < W) (hB : B < H) (hW : W ≤ 6) (hH : H ≤ 6) : vq_is f W H (nI A) (nI B) c = if f (B * 6 + A) = c then 1 else 0 := by
  unfold vq_is
  rw [nI_toInt (show A < 2 ^ 31 by omega), nI_toInt (show B < 2 ^ 31 by omega), if_pos (by omega)]
  rfl
theorem vq_s5 {f : Nat → Int32} {W H A B : Nat} {c s : Int32} (hA : A < W) (hB : B < H) (hW : W ≤ 6) (hH : H ≤ 6) (h : f (B * 6 + A) = c) : s + vq_is f W H (nI A) (nI B) c = s + 1 := by
  rw [vq_i hA hB hW hH, if_pos h]
theorem vq_s6 {f : Nat → Int32} {W H A B : Nat} {c s : Int32} (hA : A < W) (hB : B < H) (hW : W ≤ 6) (hH : H ≤ 6) (h : ¬ f (B * 6 + A) = c) : s + vq_is f W H (nI A) (nI B) c = s := by
  rw [vq_i hA hB hW hH, if_neg h, Int32.add_zero]
theorem vq_is_eq {f g : Nat → Int32} {W H : Nat} (hW : W ≤ 6) (hH : H ≤ 6) (h : ∀ i, i < 36 → f i = g i) (a b c : Int32) : vq_is f W H a b c = vq_is g W H a b c := by
  unfold vq_is
  by_cases q : 0 ≤ a.toInt ∧ a.toInt < (W : Int) ∧ 0 ≤ b.toInt ∧ b.toInt < (H : Int)
  · rw [if_pos q, if_pos q, h (b.toInt.toNat * 6 + a.toInt.toNat) (by omega)]
  · rw [if_neg q, if_neg q]
noncomputable def vq_fu (x d : Int32) : Nat := ((x + d).toInt - (x - d).toInt + 1).toNat
/-- row by row, and column by column -/
noncomputable def vq_ac (f : Nat → Int32) (W H : Nat) (i j d c : Int32) : Int32 := vq_fold (fun b s => vq_fold (fun a s => s + vq_is f W H a b c) (fun a => i + d < a) (vq_fu i d) (i - d) s) (fun b => j + d < b) (vq_fu j d) (j - d) 0
noncomputable def vq_ar (f : Nat → Int32) (W H : Nat) (i j d c : Int32) : Int32 := vq_fold (fun a s => vq_fold (fun b s => s + vq_is f W H a b c) (fun b => j + d < b) (vq_fu j d) (j - d) s) (fun a => i + d < a) (vq_fu i d) (i - d) 0
theorem vq_fu_le {x d : Int32} (hx : sm_B 1000 x) (hd : sm_B 1000 d) (h0 : 0 ≤ d.toInt) : (x - d).toInt + (vq_fu x d : Int) ≤ (x + d).toInt + 1 ∧ (x + d).toInt < 2147483647 := by
  obtain ⟨x1, x2⟩ := hx
  obtain ⟨d1, d2⟩ := hd
  have e1 : (x + d).toInt = x.toInt + d.toInt := sm_add (by omega) (by omega)
  have e2 : (x - d).toInt = x.toInt - d.toInt := sm_sub (by omega) (by omega)
  unfold vq_fu
  omega
theorem vq_ac_ar {f : Nat → Int32} {W H : Nat} {i j d c : Int32} (hi : sm_B 1000 i) (hj : sm_B 1000 j) (hd : sm_B 1000 d) (h0 : 0 ≤ d.toInt) : vq_ac f W H i j d c = vq_ar f W H i j d c := by
  obtain ⟨i1, i2⟩ := vq_fu_le hi hd h0
  obtain ⟨j1, j2⟩ := vq_fu_le hj hd h0
  unfold vq_ac vq_ar
  rw [show (fun b s => vq_fold (fun a s => s + vq_is f W H a b c) (fun a => i + d < a) (vq_fu i d) (i - d) s) = fun b s => s + vq_sum (vq_fu i d) (fun k => vq_is f W H (i - d + nI k) b c) from funext fun b => funext fun s => vq_fold_sum (fun a => vq_is f W H a b c) i2 _ _ _ i1]
  rw [show (fun a s => vq_fold (fun b s => s + vq_is f W H a b c) (fun b => j + d < b) (vq_fu j d) (j - d) s) = fun a s => s + vq_sum (vq_fu j d) (fun k => vq_is f W H a (j - d + nI k) c) from funext fun a => funext fun s => vq_fold_sum (fun b => vq_is f W H a b c) j2 _ _ _ j1]
  rw [vq_fold_sum (fun b => vq_sum (vq_fu i d) (fun k => vq_is f W H (i - d + nI k) b c)) j2 _ _ _ j1, vq_fold_sum (fun a => vq_sum (vq_fu j d) (fun k => vq_is f W H a (j - d + nI k) c)) i2 _ _ _ i1]
  rw [vq_sum_comm]
theorem vq_ar_eq {f g : Nat → Int32} {W H : Nat} (hW : W ≤ 6) (hH : H ≤ 6) (h : ∀ i, i < 36 → f i = g i) (i j d c : Int32) : vq_ar f W H i j d c = vq_ar g W H i j d c := by
  unfold vq_ar
  have e : ∀ a b, vq_is f W H a b c = vq_is g W H a b c := fun a b => vq_is_eq hW hH h a b c
  simp only [e]
/-! the best -/
noncomputable def vq_su (n p : Int32) (s : Int32 × Int32) : Int32 × Int32 := if s.1 < n then (n, p) else s
theorem vq_su0 {n p a b : Int32} (h : ¬ a < n) : vq_su n p (a, b) = (a, b) := if_neg h
theorem vq_su1 {n p a b : Int32} (h : a < n) : vq_su n p (a, b) = (n, p) := if_pos h
set_option maxHeartbeats 4000000 in
set_option maxRecDepth 100000 in
theorem vr_col {m : mz_M} {A B : Nat} (hA : A < 6) (hB : B < 6) {a b : Int32} (ea : a = nI A) (eb : b = nI B) : mz_Me 3 mz_r186 [.ref 65, .int a, .int b] m (some (.int (m 66 ((70 + (6 * B)) + A)))) m := by
  subst ea
  subst eb
  refine ⟨?_, rfl⟩
  refine mz_go 9 (c' := (13, [some (.ref 65), some (.int (nI A)), some (.int (nI B))], [.int ((70 + (6 * (nI B))) + (nI A)), .ref 66], m)) rfl ?_
  refine mz_arr (c' := (14, [some (.ref 65), some (.int (nI A)), some (.int (nI B))], [.int (m 66 (((70 + (6 * (nI B))) + (nI A)).toNatClampNeg))], m)) rfl (show mz_in ((70 + (6 * (nI B))) + (nI A)) 650 = true from sm_inN (sm_addN (sm_addN rfl (sm_mulN rfl rfl)) rfl) (show ((70 + (6 * B)) + A) < 650 by omega) (by decide)) ?_
  rw [show ((70 + (6 * (nI B))) + (nI A) : Int32).toNatClampNeg = ((70 + (6 * B)) + A) from sm_clN (sm_addN (sm_addN rfl (sm_mulN rfl rfl)) rfl) (show ((70 + (6 * B)) + A) < 2 ^ 31 by omega)]
  exact mz_ret rfl
set_option maxHeartbeats 4000000 in
set_option maxRecDepth 100000 in
theorem vc_oth {m : mz_M} {WW HH : Nat} (hWW : WW ≤ 6) (hHH : HH ≤ 6) (h202 : m 20 2 = nI WW) (h203 : m 20 3 = nI HH) (a b c : Int32) : ∃ v, mz_Me 8 mz_r13 [.ref 20, .int a, .int b, .int c] m (some (.int v)) m ∧ (v = vq_ot (m 21) WW HH a b c) := by
  by_cases q1 : a < 0
  · refine ⟨0, ⟨?_, rfl⟩, (vq_o1 q1)⟩
    refine mz_go 3 (c' := (3, [some (.ref 20), some (.int a), some (.int b), some (.int c)], [.int b, .int a, .ref 20], m)) rfl ?_
    refine mz_do (R := mz_r4) (as := [.ref 20, .int a, .int b]) (rest := []) (r1 := some (.int 0)) (m1 := m) rfl ⟨?_, rfl⟩ ?_
    · refine mz_go 2 (c' := (if a < 0 then 40 else 4, [some (.ref 20), some (.int a), some (.int b)], [], m)) rfl ?_
      refine mz_ifT q1 ?_
      refine mz_go 1 (c' := (41, [some (.ref 20), some (.int a), some (.int b)], [.int 0], m)) rfl ?_
      exact mz_ret rfl
    refine mz_go 2 (c' := (24, [some (.ref 20), some (.int a), some (.int b), some (.int c)], [.int 0], m)) rfl ?_
    exact mz_ret rfl
  · obtain ⟨ja, hja, rfl⟩ := nI_of q1
    by_cases q2 : WW ≤ ja
    · refine ⟨0, ⟨?_, rfl⟩, (vq_o2 hja (by omega))⟩
      refine mz_go 3 (c' := (3, [some (.ref 20), some (.int (nI ja)), some (.int b), some (.int c)], [.int b, .int (nI ja), .ref 20], m)) rfl ?_
      refine mz_do (R := mz_r4) (as := [.ref 20, .int (nI ja), .int b]) (rest := []) (r1 := some (.int 0)) (m1 := m) rfl ⟨?_, rfl⟩ ?_
      · refine mz_go 2 (c' := (if (nI ja) < 0 then 40 else 4, [some (.ref 20), some (.int (nI ja)), some (.int b)], [], m)) rfl ?_
        refine mz_ifF q1 ?_
        refine mz_go 3 (c' := (9, [some (.ref 20), some (.int (nI ja)), some (.int b)], [.int (m 20 2), .int (nI ja)], m)) rfl ?_
        rw [h202]
        refine mz_go 1 (c' := (if (nI WW) ≤ (nI ja) then 40 else 12, [some (.ref 20), some (.int (nI ja)), some (.int b)], [], m)) rfl ?_
        refine mz_ifT (show ((nI WW) ≤ (nI ja)) from (sm_leN rfl rfl (show WW ≤ ja by omega) (show ja < 2 ^ 31 by omega))) ?_
        refine mz_go 1 (c' := (41, [some (.ref 20), some (.int (nI ja)), some (.int b)], [.int 0], m)) rfl ?_
        exact mz_ret rfl
      refine mz_go 2 (c' := (24, [some (.ref 20), some (.int (nI ja)), some (.int b), some (.int c)], [.int 0], m)) rfl ?_
      exact mz_ret rfl
    · by_cases q3 : b < 0
      · refine ⟨0, ⟨?_, rfl⟩, (vq_o3 q3)⟩
        refine mz_go 3 (c' := (3, [some (.ref 20), some (.int (nI ja)), some (.int b), some (.int c)], [.int b, .int (nI ja), .ref 20], m)) rfl ?_
        refine mz_do (R := mz_r4) (as := [.ref 20, .int (nI ja), .int b]) (rest := []) (r1 := some (.int 0)) (m1 := m) rfl ⟨?_, rfl⟩ ?_
        · refine mz_go 2 (c' := (if (nI ja) < 0 then 40 else 4, [some (.ref 20), some (.int (nI ja)), some (.int b)], [], m)) rfl ?_
          refine mz_ifF q1 ?_
          refine mz_go 3 (c' := (9, [some (.ref 20), some (.int (nI ja)), some (.int b)], [.int (m 20 2), .int (nI ja)], m)) rfl ?_
          rw [h202]
          refine mz_go 1 (c' := (if (nI WW) ≤ (nI ja) then 40 else 12, [some (.ref 20), some (.int (nI ja)), some (.int b)], [], m)) rfl ?_
          refine mz_ifF (show ¬ ((nI WW) ≤ (nI ja)) from (sm_nleN rfl rfl (show ja < WW by omega) (show WW < 2 ^ 31 by omega))) ?_
          refine mz_go 3 (c' := (if 6 ≤ (nI ja) then 40 else 18, [some (.ref 20), some (.int (nI ja)), some (.int b)], [], m)) rfl ?_
          refine mz_ifF (show ¬ (6 ≤ (nI ja)) from (sm_nleN rfl rfl (show ja < 6 by omega) (show 6 < 2 ^ 31 by omega))) ?_
          refine mz_go 2 (c' := (if b < 0 then 40 else 22, [some (.ref 20), some (.int (nI ja)), some (.int b)], [], m)) rfl ?_
          refine mz_ifT q3 ?_
          refine mz_go 1 (c' := (41, [some (.ref 20), some (.int (nI ja)), some (.int b)], [.int 0], m)) rfl ?_
          exact mz_ret rfl
        refine mz_go 2 (c' := (24, [some (.ref 20), some (.int (nI ja)), some (.int b), some (.int c)], [.int 0], m)) rfl ?_
        exact mz_ret rfl
      · obtain ⟨jb, hjb, rfl⟩ := nI_of q3
        by_cases q4 : HH ≤ jb
        · refine ⟨0, ⟨?_, rfl⟩, (vq_o4 hjb (by omega))⟩
          refine mz_go 3 (c' := (3, [some (.ref 20), some (.int (nI ja)), some (.int (nI jb)), some (.int c)], [.int (nI jb), .int (nI ja), .ref 20], m)) rfl ?_
          refine mz_do (R := mz_r4) (as := [.ref 20, .int (nI ja), .int (nI jb)]) (rest := []) (r1 := some (.int 0)) (m1 := m) rfl ⟨?_, rfl⟩ ?_
          · refine mz_go 2 (c' := (if (nI ja) < 0 then 40 else 4, [some (.ref 20), some (.int (nI ja)), some (.int (nI jb))], [], m)) rfl ?_
            refine mz_ifF q1 ?_
            refine mz_go 3 (c' := (9, [some (.ref 20), some (.int (nI ja)), some (.int (nI jb))], [.int (m 20 2), .int (nI ja)], m)) rfl ?_
            rw [h202]
            refine mz_go 1 (c' := (if (nI WW) ≤ (nI ja) then 40 else 12, [some (.ref 20), some (.int (nI ja)), some (.int (nI jb))], [], m)) rfl ?_
            refine mz_ifF (show ¬ ((nI WW) ≤ (nI ja)) from (sm_nleN rfl rfl (show ja < WW by omega) (show WW < 2 ^ 31 by omega))) ?_
            refine mz_go 3 (c' := (if 6 ≤ (nI ja) then 40 else 18, [some (.ref 20), some (.int (nI ja)), some (.int (nI jb))], [], m)) rfl ?_
            refine mz_ifF (show ¬ (6 ≤ (nI ja)) from (sm_nleN rfl rfl (show ja < 6 by omega) (show 6 < 2 ^ 31 by omega))) ?_
            refine mz_go 2 (c' := (if (nI jb) < 0 then 40 else 22, [some (.ref 20), some (.int (nI ja)), some (.int (nI jb))], [], m)) rfl ?_
            refine mz_ifF q3 ?_
            refine mz_go 3 (c' := (27, [some (.ref 20), some (.int (nI ja)), some (.int (nI jb))], [.int (m 20 3), .int (nI jb)], m)) rfl ?_
            rw [h203]
            refine mz_go 1 (c' := (if (nI HH) ≤ (nI jb) then 40 else 30, [some (.ref 20), some (.int (nI ja)), some (.int (nI jb))], [], m)) rfl ?_
            refine mz_ifT (show ((nI HH) ≤ (nI jb)) from (sm_leN rfl rfl (show HH ≤ jb by omega) (show jb < 2 ^ 31 by omega))) ?_
            refine mz_go 1 (c' := (41, [some (.ref 20), some (.int (nI ja)), some (.int (nI jb))], [.int 0], m)) rfl ?_
            exact mz_ret rfl
          refine mz_go 2 (c' := (24, [some (.ref 20), some (.int (nI ja)), some (.int (nI jb)), some (.int c)], [.int 0], m)) rfl ?_
          exact mz_ret rfl
        · by_cases q5 : (m 21 ((jb * 6) + ja)) = c
          · refine ⟨0, ⟨?_, rfl⟩, (vq_o5 (f := (m 21)) (by omega) (by omega) hWW hHH q5)⟩
            refine mz_go 3 (c' := (3, [some (.ref 20), some (.int (nI ja)), some (.int (nI jb)), some (.int c)], [.int (nI jb), .int (nI ja), .ref 20], m)) rfl ?_
            refine mz_do (R := mz_r4) (as := [.ref 20, .int (nI ja), .int (nI jb)]) (rest := []) (r1 := some (.int 1)) (m1 := m) rfl ⟨?_, rfl⟩ ?_
            · refine mz_go 2 (c' := (if (nI ja) < 0 then 40 else 4, [some (.ref 20), some (.int (nI ja)), some (.int (nI jb))], [], m)) rfl ?_
              refine mz_ifF q1 ?_
              refine mz_go 3 (c' := (9, [some (.ref 20), some (.int (nI ja)), some (.int (nI jb))], [.int (m 20 2), .int (nI ja)], m)) rfl ?_
              rw [h202]
              refine mz_go 1 (c' := (if (nI WW) ≤ (nI ja) then 40 else 12, [some (.ref 20), some (.int (nI ja)), some (.int (nI jb))], [], m)) rfl ?_
              refine mz_ifF (show ¬ ((nI WW) ≤ (nI ja)) from (sm_nleN rfl rfl (show ja < WW by omega) (show WW < 2 ^ 31 by omega))) ?_
              refine mz_go 3 (c' := (if 6 ≤ (nI ja) then 40 else 18, [some (.ref 20), some (.int (nI ja)), some (.int (nI jb))], [], m)) rfl ?_
              refine mz_ifF (show ¬ (6 ≤ (nI ja)) from (sm_nleN rfl rfl (show ja < 6 by omega) (show 6 < 2 ^ 31 by omega))) ?_
              refine mz_go 2 (c' := (if (nI jb) < 0 then 40 else 22, [some (.ref 20), some (.int (nI ja)), some (.int (nI jb))], [], m)) rfl ?_
              refine mz_ifF q3 ?_
              refine mz_go 3 (c' := (27, [some (.ref 20), some (.int (nI ja)), some (.int (nI jb))], [.int (m 20 3), .int (nI jb)], m)) rfl ?_
              rw [h203]
              refine mz_go 1 (c' := (if (nI HH) ≤ (nI jb) then 40 else 30, [some (.ref 20), some (.int (nI ja)), some (.int (nI jb))], [], m)) rfl ?_
              refine mz_ifF (show ¬ ((nI HH) ≤ (nI jb)) from (sm_nleN rfl rfl (show jb < HH by omega) (show HH < 2 ^ 31 by omega))) ?_
              refine mz_go 3 (c' := (if 6 ≤ (nI jb) then 40 else 36, [some (.ref 20), some (.int (nI ja)), some (.int (nI jb))], [], m)) rfl ?_
              refine mz_ifF (show ¬ (6 ≤ (nI jb)) from (sm_nleN rfl rfl (show jb < 6 by omega) (show 6 < 2 ^ 31 by omega))) ?_
              refine mz_go 2 (c' := (41, [some (.ref 20), some (.int (nI ja)), some (.int (nI jb))], [.int 1], m)) rfl ?_
              exact mz_ret rfl
            refine mz_go 4 (c' := (12, [some (.ref 20), some (.int (nI ja)), some (.int (nI jb)), some (.int c)], [.int (nI jb), .int (nI ja), .ref 20], m)) rfl ?_
            refine mz_do (R := mz_r7) (as := [.ref 20, .int (nI ja), .int (nI jb)]) (rest := []) (r1 := some (.int (m 21 ((jb * 6) + ja)))) (m1 := m) rfl ⟨?_, rfl⟩ ?_
            · refine mz_go 3 (c' := (3, [some (.ref 20), some (.int (nI ja)), some (.int (nI jb))], [.int (nI jb), .int (nI ja), .ref 20], m)) rfl ?_
              refine mz_do (R := mz_r4) (as := [.ref 20, .int (nI ja), .int (nI jb)]) (rest := []) (r1 := some (.int 1)) (m1 := m) rfl ⟨?_, rfl⟩ ?_
              · refine mz_go 2 (c' := (if (nI ja) < 0 then 40 else 4, [some (.ref 20), some (.int (nI ja)), some (.int (nI jb))], [], m)) rfl ?_
                refine mz_ifF q1 ?_
                refine mz_go 3 (c' := (9, [some (.ref 20), some (.int (nI ja)), some (.int (nI jb))], [.int (m 20 2), .int (nI ja)], m)) rfl ?_
                rw [h202]
                refine mz_go 1 (c' := (if (nI WW) ≤ (nI ja) then 40 else 12, [some (.ref 20), some (.int (nI ja)), some (.int (nI jb))], [], m)) rfl ?_
                refine mz_ifF (show ¬ ((nI WW) ≤ (nI ja)) from (sm_nleN rfl rfl (show ja < WW by omega) (show WW < 2 ^ 31 by omega))) ?_
                refine mz_go 3 (c' := (if 6 ≤ (nI ja) then 40 else 18, [some (.ref 20), some (.int (nI ja)), some (.int (nI jb))], [], m)) rfl ?_
                refine mz_ifF (show ¬ (6 ≤ (nI ja)) from (sm_nleN rfl rfl (show ja < 6 by omega) (show 6 < 2 ^ 31 by omega))) ?_
                refine mz_go 2 (c' := (if (nI jb) < 0 then 40 else 22, [some (.ref 20), some (.int (nI ja)), some (.int (nI jb))], [], m)) rfl ?_
                refine mz_ifF q3 ?_
                refine mz_go 3 (c' := (27, [some (.ref 20), some (.int (nI ja)), some (.int (nI jb))], [.int (m 20 3), .int (nI jb)], m)) rfl ?_
                rw [h203]
                refine mz_go 1 (c' := (if (nI HH) ≤ (nI jb) then 40 else 30, [some (.ref 20), some (.int (nI ja)), some (.int (nI jb))], [], m)) rfl ?_
                refine mz_ifF (show ¬ ((nI HH) ≤ (nI jb)) from (sm_nleN rfl rfl (show jb < HH by omega) (show HH < 2 ^ 31 by omega))) ?_
                refine mz_go 3 (c' := (if 6 ≤ (nI jb) then 40 else 36, [some (.ref 20), some (.int (nI ja)), some (.int (nI jb))], [], m)) rfl ?_
                refine mz_ifF (show ¬ (6 ≤ (nI jb)) from (sm_nleN rfl rfl (show jb < 6 by omega) (show 6 < 2 ^ 31 by omega))) ?_
                refine mz_go 2 (c' := (41, [some (.ref 20), some (.int (nI ja)), some (.int (nI jb))], [.int 1], m)) rfl ?_
                exact mz_ret rfl
              refine mz_go 8 (c' := (19, [some (.ref 20), some (.int (nI ja)), some (.int (nI jb))], [.int (((nI jb) * 6) + (nI ja)), .ref 21], m)) rfl ?_
              refine mz_arr (c' := (20, [some (.ref 20), some (.int (nI ja)), some (.int (nI jb))], [.int (m 21 ((((nI jb) * 6) + (nI ja)).toNatClampNeg))], m)) rfl (show mz_in (((nI jb) * 6) + (nI ja)) 36 = true from sm_inN (sm_addN (sm_mulN rfl rfl) rfl) (show ((jb * 6) + ja) < 36 by omega) (by decide)) ?_
              rw [show (((nI jb) * 6) + (nI ja) : Int32).toNatClampNeg = ((jb * 6) + ja) from sm_clN (sm_addN (sm_mulN rfl rfl) rfl) (show ((jb * 6) + ja) < 2 ^ 31 by omega)]
              refine mz_go 1 (c' := (25, [some (.ref 20), some (.int (nI ja)), some (.int (nI jb))], [.int (m 21 ((jb * 6) + ja))], m)) rfl ?_
              exact mz_ret rfl
            refine mz_go 2 (c' := (if (m 21 ((jb * 6) + ja)) = c then 23 else 19, [some (.ref 20), some (.int (nI ja)), some (.int (nI jb)), some (.int c)], [], m)) rfl ?_
            refine mz_ifT q5 ?_
            refine mz_go 1 (c' := (24, [some (.ref 20), some (.int (nI ja)), some (.int (nI jb)), some (.int c)], [.int 0], m)) rfl ?_
            exact mz_ret rfl
          · refine ⟨1, ⟨?_, rfl⟩, (vq_o6 (f := (m 21)) (by omega) (by omega) hWW hHH q5)⟩
            refine mz_go 3 (c' := (3, [some (.ref 20), some (.int (nI ja)), some (.int (nI jb)), some (.int c)], [.int (nI jb), .int (nI ja), .ref 20], m)) rfl ?_
            refine mz_do (R := mz_r4) (as := [.ref 20, .int (nI ja), .int (nI jb)]) (rest := []) (r1 := some (.int 1)) (m1 := m) rfl ⟨?_, rfl⟩ ?_
            · refine mz_go 2 (c' := (if (nI ja) < 0 then 40 else 4, [some (.ref 20), some (.int (nI ja)), some (.int (nI jb))], [], m)) rfl ?_
              refine mz_ifF q1 ?_
              refine mz_go 3 (c' := (9, [some (.ref 20), some (.int (nI ja)), some (.int (nI jb))], [.int (m 20 2), .int (nI ja)], m)) rfl ?_
              rw [h202]
              refine mz_go 1 (c' := (if (nI WW) ≤ (nI ja) then 40 else 12, [some (.ref 20), some (.int (nI ja)), some (.int (nI jb))], [], m)) rfl ?_
              refine mz_ifF (show ¬ ((nI WW) ≤ (nI ja)) from (sm_nleN rfl rfl (show ja < WW by omega) (show WW < 2 ^ 31 by omega))) ?_
              refine mz_go 3 (c' := (if 6 ≤ (nI ja) then 40 else 18, [some (.ref 20), some (.int (nI ja)), some (.int (nI jb))], [], m)) rfl ?_
              refine mz_ifF (show ¬ (6 ≤ (nI ja)) from (sm_nleN rfl rfl (show ja < 6 by omega) (show 6 < 2 ^ 31 by omega))) ?_
              refine mz_go 2 (c' := (if (nI jb) < 0 then 40 else 22, [some (.ref 20), some (.int (nI ja)), some (.int (nI jb))], [], m)) rfl ?_
              refine mz_ifF q3 ?_
              refine mz_go 3 (c' := (27, [some (.ref 20), some (.int (nI ja)), some (.int (nI jb))], [.int (m 20 3), .int (nI jb)], m)) rfl ?_
              rw [h203]
              refine mz_go 1 (c' := (if (nI HH) ≤ (nI jb) then 40 else 30, [some (.ref 20), some (.int (nI ja)), some (.int (nI jb))], [], m)) rfl ?_
              refine mz_ifF (show ¬ ((nI HH) ≤ (nI jb)) from (sm_nleN rfl rfl (show jb < HH by omega) (show HH < 2 ^ 31 by omega))) ?_
              refine mz_go 3 (c' := (if 6 ≤ (nI jb) then 40 else 36, [some (.ref 20), some (.int (nI ja)), some (.int (nI jb))], [], m)) rfl ?_
              refine mz_ifF (show ¬ (6 ≤ (nI jb)) from (sm_nleN rfl rfl (show jb < 6 by omega) (show 6 < 2 ^ 31 by omega))) ?_
              refine mz_go 2 (c' := (41, [some (.ref 20), some (.int (nI ja)), some (.int (nI jb))], [.int 1], m)) rfl ?_
              exact mz_ret rfl
            refine mz_go 4 (c' := (12, [some (.ref 20), some (.int (nI ja)), some (.int (nI jb)), some (.int c)], [.int (nI jb), .int (nI ja), .ref 20], m)) rfl ?_
            refine mz_do (R := mz_r7) (as := [.ref 20, .int (nI ja), .int (nI jb)]) (rest := []) (r1 := some (.int (m 21 ((jb * 6) + ja)))) (m1 := m) rfl ⟨?_, rfl⟩ ?_
            · refine mz_go 3 (c' := (3, [some (.ref 20), some (.int (nI ja)), some (.int (nI jb))], [.int (nI jb), .int (nI ja), .ref 20], m)) rfl ?_
              refine mz_do (R := mz_r4) (as := [.ref 20, .int (nI ja), .int (nI jb)]) (rest := []) (r1 := some (.int 1)) (m1 := m) rfl ⟨?_, rfl⟩ ?_
              · refine mz_go 2 (c' := (if (nI ja) < 0 then 40 else 4, [some (.ref 20), some (.int (nI ja)), some (.int (nI jb))], [], m)) rfl ?_
                refine mz_ifF q1 ?_
                refine mz_go 3 (c' := (9, [some (.ref 20), some (.int (nI ja)), some (.int (nI jb))], [.int (m 20 2), .int (nI ja)], m)) rfl ?_
                rw [h202]
                refine mz_go 1 (c' := (if (nI WW) ≤ (nI ja) then 40 else 12, [some (.ref 20), some (.int (nI ja)), some (.int (nI jb))], [], m)) rfl ?_
                refine mz_ifF (show ¬ ((nI WW) ≤ (nI ja)) from (sm_nleN rfl rfl (show ja < WW by omega) (show WW < 2 ^ 31 by omega))) ?_
                refine mz_go 3 (c' := (if 6 ≤ (nI ja) then 40 else 18, [some (.ref 20), some (.int (nI ja)), some (.int (nI jb))], [], m)) rfl ?_
                refine mz_ifF (show ¬ (6 ≤ (nI ja)) from (sm_nleN rfl rfl (show ja < 6 by omega) (show 6 < 2 ^ 31 by omega))) ?_
                refine mz_go 2 (c' := (if (nI jb) < 0 then 40 else 22, [some (.ref 20), some (.int (nI ja)), some (.int (nI jb))], [], m)) rfl ?_
                refine mz_ifF q3 ?_
                refine mz_go 3 (c' := (27, [some (.ref 20), some (.int (nI ja)), some (.int (nI jb))], [.int (m 20 3), .int (nI jb)], m)) rfl ?_
                rw [h203]
                refine mz_go 1 (c' := (if (nI HH) ≤ (nI jb) then 40 else 30, [some (.ref 20), some (.int (nI ja)), some (.int (nI jb))], [], m)) rfl ?_
                refine mz_ifF (show ¬ ((nI HH) ≤ (nI jb)) from (sm_nleN rfl rfl (show jb < HH by omega) (show HH < 2 ^ 31 by omega))) ?_
                refine mz_go 3 (c' := (if 6 ≤ (nI jb) then 40 else 36, [some (.ref 20), some (.int (nI ja)), some (.int (nI jb))], [], m)) rfl ?_
                refine mz_ifF (show ¬ (6 ≤ (nI jb)) from (sm_nleN rfl rfl (show jb < 6 by omega) (show 6 < 2 ^ 31 by omega))) ?_
                refine mz_go 2 (c' := (41, [some (.ref 20), some (.int (nI ja)), some (.int (nI jb))], [.int 1], m)) rfl ?_
                exact mz_ret rfl
              refine mz_go 8 (c' := (19, [some (.ref 20), some (.int (nI ja)), some (.int (nI jb))], [.int (((nI jb) * 6) + (nI ja)), .ref 21], m)) rfl ?_
              refine mz_arr (c' := (20, [some (.ref 20), some (.int (nI ja)), some (.int (nI jb))], [.int (m 21 ((((nI jb) * 6) + (nI ja)).toNatClampNeg))], m)) rfl (show mz_in (((nI jb) * 6) + (nI ja)) 36 = true from sm_inN (sm_addN (sm_mulN rfl rfl) rfl) (show ((jb * 6) + ja) < 36 by omega) (by decide)) ?_
              rw [show (((nI jb) * 6) + (nI ja) : Int32).toNatClampNeg = ((jb * 6) + ja) from sm_clN (sm_addN (sm_mulN rfl rfl) rfl) (show ((jb * 6) + ja) < 2 ^ 31 by omega)]
              refine mz_go 1 (c' := (25, [some (.ref 20), some (.int (nI ja)), some (.int (nI jb))], [.int (m 21 ((jb * 6) + ja))], m)) rfl ?_
              exact mz_ret rfl
            refine mz_go 2 (c' := (if (m 21 ((jb * 6) + ja)) = c then 23 else 19, [some (.ref 20), some (.int (nI ja)), some (.int (nI jb)), some (.int c)], [], m)) rfl ?_
            refine mz_ifF q5 ?_
            refine mz_go 2 (c' := (24, [some (.ref 20), some (.int (nI ja)), some (.int (nI jb)), some (.int c)], [.int 1], m)) rfl ?_
            exact mz_ret rfl
set_option maxHeartbeats 4000000 in
set_option maxRecDepth 100000 in
theorem vc_edg {m : mz_M} {WW HH : Nat} (hWW : WW ≤ 6) (hHH : HH ≤ 6) (h202 : m 20 2 = nI WW) (h203 : m 20 3 = nI HH) {I J : Nat} (hI : I < WW) (hJ : J < HH) : ∃ v, mz_Me 10 mz_r12 [.ref 20, .int (nI I), .int (nI J)] m (some (.int v)) m ∧ (v = vq_ed (m 21) WW HH I J (m 21 ((J * 6) + I))) := by
  by_cases q1 : I = 0
  · obtain ⟨ve1, Ee1, Pe1⟩ := vc_oth (m := m) hWW hHH h202 h203 (-1) (nI J) (m 21 ((J * 6) + I))
    by_cases q2 : ve1 = 0
    · obtain ⟨ve2, Ee2, Pe2⟩ := vc_oth (m := m) hWW hHH h202 h203 ((nI I) + 1) (nI J) (m 21 ((J * 6) + I))
      by_cases q3 : ve2 = 0
      · by_cases q4 : J = 0
        · obtain ⟨ve3, Ee3, Pe3⟩ := vc_oth (m := m) hWW hHH h202 h203 (nI I) (-1) (m 21 ((J * 6) + I))
          by_cases q5 : ve3 = 0
          · obtain ⟨ve4, Ee4, Pe4⟩ := vc_oth (m := m) hWW hHH h202 h203 (nI I) ((nI J) + 1) (m 21 ((J * 6) + I))
            by_cases q6 : ve4 = 0
            · refine ⟨0, ⟨?_, rfl⟩, (by unfold vq_ed; rw [vq_m1 q1]; rw [← Pe1, if_pos q2]; rw [← Pe2, if_pos q3]; rw [vq_m1 q4]; rw [← Pe3, if_pos q5]; rw [← Pe4, if_pos q6])⟩
              refine mz_go 3 (c' := (3, [some (.ref 20), some (.int (nI I)), some (.int (nI J)), none], [.int (nI J), .int (nI I), .ref 20], m)) rfl ?_
              refine mz_do (R := mz_r7) (as := [.ref 20, .int (nI I), .int (nI J)]) (rest := []) (r1 := some (.int (m 21 ((J * 6) + I)))) (m1 := m) rfl ⟨?_, rfl⟩ ?_
              · refine mz_go 3 (c' := (3, [some (.ref 20), some (.int (nI I)), some (.int (nI J))], [.int (nI J), .int (nI I), .ref 20], m)) rfl ?_
                refine mz_do (R := mz_r4) (as := [.ref 20, .int (nI I), .int (nI J)]) (rest := []) (r1 := some (.int 1)) (m1 := m) rfl ⟨?_, rfl⟩ ?_
                · refine mz_go 2 (c' := (if (nI I) < 0 then 40 else 4, [some (.ref 20), some (.int (nI I)), some (.int (nI J))], [], m)) rfl ?_
                  refine mz_ifF (show ¬ ((nI I) < 0) from (sm_nltN rfl rfl (show 0 ≤ I by omega) (show I < 2 ^ 31 by omega))) ?_
                  refine mz_go 3 (c' := (9, [some (.ref 20), some (.int (nI I)), some (.int (nI J))], [.int (m 20 2), .int (nI I)], m)) rfl ?_
                  rw [h202]
                  refine mz_go 1 (c' := (if (nI WW) ≤ (nI I) then 40 else 12, [some (.ref 20), some (.int (nI I)), some (.int (nI J))], [], m)) rfl ?_
                  refine mz_ifF (show ¬ ((nI WW) ≤ (nI I)) from (sm_nleN rfl rfl (show I < WW by omega) (show WW < 2 ^ 31 by omega))) ?_
                  refine mz_go 3 (c' := (if 6 ≤ (nI I) then 40 else 18, [some (.ref 20), some (.int (nI I)), some (.int (nI J))], [], m)) rfl ?_
                  refine mz_ifF (show ¬ (6 ≤ (nI I)) from (sm_nleN rfl rfl (show I < 6 by omega) (show 6 < 2 ^ 31 by omega))) ?_
                  refine mz_go 2 (c' := (if (nI J) < 0 then 40 else 22, [some (.ref 20), some (.int (nI I)), some (.int (nI J))], [], m)) rfl ?_
                  refine mz_ifF (show ¬ ((nI J) < 0) from (sm_nltN rfl rfl (show 0 ≤ J by omega) (show J < 2 ^ 31 by omega))) ?_
                  refine mz_go 3 (c' := (27, [some (.ref 20), some (.int (nI I)), some (.int (nI J))], [.int (m 20 3), .int (nI J)], m)) rfl ?_
                  rw [h203]
                  refine mz_go 1 (c' := (if (nI HH) ≤ (nI J) then 40 else 30, [some (.ref 20), some (.int (nI I)), some (.int (nI J))], [], m)) rfl ?_
                  refine mz_ifF (show ¬ ((nI HH) ≤ (nI J)) from (sm_nleN rfl rfl (show J < HH by omega) (show HH < 2 ^ 31 by omega))) ?_
                  refine mz_go 3 (c' := (if 6 ≤ (nI J) then 40 else 36, [some (.ref 20), some (.int (nI I)), some (.int (nI J))], [], m)) rfl ?_
                  refine mz_ifF (show ¬ (6 ≤ (nI J)) from (sm_nleN rfl rfl (show J < 6 by omega) (show 6 < 2 ^ 31 by omega))) ?_
                  refine mz_go 2 (c' := (41, [some (.ref 20), some (.int (nI I)), some (.int (nI J))], [.int 1], m)) rfl ?_
                  exact mz_ret rfl
                refine mz_go 8 (c' := (19, [some (.ref 20), some (.int (nI I)), some (.int (nI J))], [.int (((nI J) * 6) + (nI I)), .ref 21], m)) rfl ?_
                refine mz_arr (c' := (20, [some (.ref 20), some (.int (nI I)), some (.int (nI J))], [.int (m 21 ((((nI J) * 6) + (nI I)).toNatClampNeg))], m)) rfl (show mz_in (((nI J) * 6) + (nI I)) 36 = true from sm_inN (sm_addN (sm_mulN rfl rfl) rfl) (show ((J * 6) + I) < 36 by omega) (by decide)) ?_
                rw [show (((nI J) * 6) + (nI I) : Int32).toNatClampNeg = ((J * 6) + I) from sm_clN (sm_addN (sm_mulN rfl rfl) rfl) (show ((J * 6) + I) < 2 ^ 31 by omega)]
                refine mz_go 1 (c' := (25, [some (.ref 20), some (.int (nI I)), some (.int (nI J))], [.int (m 21 ((J * 6) + I))], m)) rfl ?_
                exact mz_ret rfl
              refine mz_go 5 (c' := (11, [some (.ref 20), some (.int (nI I)), some (.int (nI J)), some (.int (m 21 ((J * 6) + I)))], [.int ((nI I) - 1), .ref 20], m)) rfl ?_
              rw [show nI I - 1 = -1 from by rw [show I = 0 by omega]; decide]
              refine mz_go 2 (c' := (13, [some (.ref 20), some (.int (nI I)), some (.int (nI J)), some (.int (m 21 ((J * 6) + I)))], [.int (m 21 ((J * 6) + I)), .int (nI J), .int (-1), .ref 20], m)) rfl ?_
              refine mz_do (R := mz_r13) (as := [.ref 20, .int (-1), .int (nI J), .int (m 21 ((J * 6) + I))]) (rest := []) (r1 := some (.int ve1)) (m1 := m) rfl (Ee1.deep (by decide)) ?_
              refine mz_go 1 (c' := (if ve1 = 0 then 19 else 55, [some (.ref 20), some (.int (nI I)), some (.int (nI J)), some (.int (m 21 ((J * 6) + I)))], [], m)) rfl ?_
              refine mz_ifT q2 ?_
              refine mz_go 6 (c' := (25, [some (.ref 20), some (.int (nI I)), some (.int (nI J)), some (.int (m 21 ((J * 6) + I)))], [.int (m 21 ((J * 6) + I)), .int (nI J), .int ((nI I) + 1), .ref 20], m)) rfl ?_
              refine mz_do (R := mz_r13) (as := [.ref 20, .int ((nI I) + 1), .int (nI J), .int (m 21 ((J * 6) + I))]) (rest := []) (r1 := some (.int ve2)) (m1 := m) rfl (Ee2.deep (by decide)) ?_
              refine mz_go 1 (c' := (if ve2 = 0 then 31 else 55, [some (.ref 20), some (.int (nI I)), some (.int (nI J)), some (.int (m 21 ((J * 6) + I)))], [], m)) rfl ?_
              refine mz_ifT q3 ?_
              refine mz_go 5 (c' := (36, [some (.ref 20), some (.int (nI I)), some (.int (nI J)), some (.int (m 21 ((J * 6) + I)))], [.int ((nI J) - 1), .int (nI I), .ref 20], m)) rfl ?_
              rw [show nI J - 1 = -1 from by rw [show J = 0 by omega]; decide]
              refine mz_go 1 (c' := (37, [some (.ref 20), some (.int (nI I)), some (.int (nI J)), some (.int (m 21 ((J * 6) + I)))], [.int (m 21 ((J * 6) + I)), .int (-1), .int (nI I), .ref 20], m)) rfl ?_
              refine mz_do (R := mz_r13) (as := [.ref 20, .int (nI I), .int (-1), .int (m 21 ((J * 6) + I))]) (rest := []) (r1 := some (.int ve3)) (m1 := m) rfl (Ee3.deep (by decide)) ?_
              refine mz_go 1 (c' := (if ve3 = 0 then 43 else 55, [some (.ref 20), some (.int (nI I)), some (.int (nI J)), some (.int (m 21 ((J * 6) + I)))], [], m)) rfl ?_
              refine mz_ifT q5 ?_
              refine mz_go 6 (c' := (49, [some (.ref 20), some (.int (nI I)), some (.int (nI J)), some (.int (m 21 ((J * 6) + I)))], [.int (m 21 ((J * 6) + I)), .int ((nI J) + 1), .int (nI I), .ref 20], m)) rfl ?_
              refine mz_do (R := mz_r13) (as := [.ref 20, .int (nI I), .int ((nI J) + 1), .int (m 21 ((J * 6) + I))]) (rest := []) (r1 := some (.int ve4)) (m1 := m) rfl (Ee4.deep (by decide)) ?_
              refine mz_go 1 (c' := (if ve4 = 0 then 59 else 55, [some (.ref 20), some (.int (nI I)), some (.int (nI J)), some (.int (m 21 ((J * 6) + I)))], [], m)) rfl ?_
              refine mz_ifT q6 ?_
              refine mz_go 1 (c' := (60, [some (.ref 20), some (.int (nI I)), some (.int (nI J)), some (.int (m 21 ((J * 6) + I)))], [.int 0], m)) rfl ?_
              exact mz_ret rfl
            · refine ⟨1, ⟨?_, rfl⟩, (by unfold vq_ed; rw [vq_m1 q1]; rw [← Pe1, if_pos q2]; rw [← Pe2, if_pos q3]; rw [vq_m1 q4]; rw [← Pe3, if_pos q5]; rw [← Pe4, if_neg q6])⟩
              refine mz_go 3 (c' := (3, [some (.ref 20), some (.int (nI I)), some (.int (nI J)), none], [.int (nI J), .int (nI I), .ref 20], m)) rfl ?_
              refine mz_do (R := mz_r7) (as := [.ref 20, .int (nI I), .int (nI J)]) (rest := []) (r1 := some (.int (m 21 ((J * 6) + I)))) (m1 := m) rfl ⟨?_, rfl⟩ ?_
              · refine mz_go 3 (c' := (3, [some (.ref 20), some (.int (nI I)), some (.int (nI J))], [.int (nI J), .int (nI I), .ref 20], m)) rfl ?_
                refine mz_do (R := mz_r4) (as := [.ref 20, .int (nI I), .int (nI J)]) (rest := []) (r1 := some (.int 1)) (m1 := m) rfl ⟨?_, rfl⟩ ?_
                · refine mz_go 2 (c' := (if (nI I) < 0 then 40 else 4, [some (.ref 20), some (.int (nI I)), some (.int (nI J))], [], m)) rfl ?_
                  refine mz_ifF (show ¬ ((nI I) < 0) from (sm_nltN rfl rfl (show 0 ≤ I by omega) (show I < 2 ^ 31 by omega))) ?_
                  refine mz_go 3 (c' := (9, [some (.ref 20), some (.int (nI I)), some (.int (nI J))], [.int (m 20 2), .int (nI I)], m)) rfl ?_
                  rw [h202]
                  refine mz_go 1 (c' := (if (nI WW) ≤ (nI I) then 40 else 12, [some (.ref 20), some (.int (nI I)), some (.int (nI J))], [], m)) rfl ?_
                  refine mz_ifF (show ¬ ((nI WW) ≤ (nI I)) from (sm_nleN rfl rfl (show I < WW by omega) (show WW < 2 ^ 31 by omega))) ?_
                  refine mz_go 3 (c' := (if 6 ≤ (nI I) then 40 else 18, [some (.ref 20), some (.int (nI I)), some (.int (nI J))], [], m)) rfl ?_
                  refine mz_ifF (show ¬ (6 ≤ (nI I)) from (sm_nleN rfl rfl (show I < 6 by omega) (show 6 < 2 ^ 31 by omega))) ?_
                  refine mz_go 2 (c' := (if (nI J) < 0 then 40 else 22, [some (.ref 20), some (.int (nI I)), some (.int (nI J))], [], m)) rfl ?_
                  refine mz_ifF (show ¬ ((nI J) < 0) from (sm_nltN rfl rfl (show 0 ≤ J by omega) (show J < 2 ^ 31 by omega))) ?_
                  refine mz_go 3 (c' := (27, [some (.ref 20), some (.int (nI I)), some (.int (nI J))], [.int (m 20 3), .int (nI J)], m)) rfl ?_
                  rw [h203]
                  refine mz_go 1 (c' := (if (nI HH) ≤ (nI J) then 40 else 30, [some (.ref 20), some (.int (nI I)), some (.int (nI J))], [], m)) rfl ?_
                  refine mz_ifF (show ¬ ((nI HH) ≤ (nI J)) from (sm_nleN rfl rfl (show J < HH by omega) (show HH < 2 ^ 31 by omega))) ?_
                  refine mz_go 3 (c' := (if 6 ≤ (nI J) then 40 else 36, [some (.ref 20), some (.int (nI I)), some (.int (nI J))], [], m)) rfl ?_
                  refine mz_ifF (show ¬ (6 ≤ (nI J)) from (sm_nleN rfl rfl (show J < 6 by omega) (show 6 < 2 ^ 31 by omega))) ?_
                  refine mz_go 2 (c' := (41, [some (.ref 20), some (.int (nI I)), some (.int (nI J))], [.int 1], m)) rfl ?_
                  exact mz_ret rfl
                refine mz_go 8 (c' := (19, [some (.ref 20), some (.int (nI I)), some (.int (nI J))], [.int (((nI J) * 6) + (nI I)), .ref 21], m)) rfl ?_
                refine mz_arr (c' := (20, [some (.ref 20), some (.int (nI I)), some (.int (nI J))], [.int (m 21 ((((nI J) * 6) + (nI I)).toNatClampNeg))], m)) rfl (show mz_in (((nI J) * 6) + (nI I)) 36 = true from sm_inN (sm_addN (sm_mulN rfl rfl) rfl) (show ((J * 6) + I) < 36 by omega) (by decide)) ?_
                rw [show (((nI J) * 6) + (nI I) : Int32).toNatClampNeg = ((J * 6) + I) from sm_clN (sm_addN (sm_mulN rfl rfl) rfl) (show ((J * 6) + I) < 2 ^ 31 by omega)]
                refine mz_go 1 (c' := (25, [some (.ref 20), some (.int (nI I)), some (.int (nI J))], [.int (m 21 ((J * 6) + I))], m)) rfl ?_
                exact mz_ret rfl
              refine mz_go 5 (c' := (11, [some (.ref 20), some (.int (nI I)), some (.int (nI J)), some (.int (m 21 ((J * 6) + I)))], [.int ((nI I) - 1), .ref 20], m)) rfl ?_
              rw [show nI I - 1 = -1 from by rw [show I = 0 by omega]; decide]
              refine mz_go 2 (c' := (13, [some (.ref 20), some (.int (nI I)), some (.int (nI J)), some (.int (m 21 ((J * 6) + I)))], [.int (m 21 ((J * 6) + I)), .int (nI J), .int (-1), .ref 20], m)) rfl ?_
              refine mz_do (R := mz_r13) (as := [.ref 20, .int (-1), .int (nI J), .int (m 21 ((J * 6) + I))]) (rest := []) (r1 := some (.int ve1)) (m1 := m) rfl (Ee1.deep (by decide)) ?_
              refine mz_go 1 (c' := (if ve1 = 0 then 19 else 55, [some (.ref 20), some (.int (nI I)), some (.int (nI J)), some (.int (m 21 ((J * 6) + I)))], [], m)) rfl ?_
              refine mz_ifT q2 ?_
              refine mz_go 6 (c' := (25, [some (.ref 20), some (.int (nI I)), some (.int (nI J)), some (.int (m 21 ((J * 6) + I)))], [.int (m 21 ((J * 6) + I)), .int (nI J), .int ((nI I) + 1), .ref 20], m)) rfl ?_
              refine mz_do (R := mz_r13) (as := [.ref 20, .int ((nI I) + 1), .int (nI J), .int (m 21 ((J * 6) + I))]) (rest := []) (r1 := some (.int ve2)) (m1 := m) rfl (Ee2.deep (by decide)) ?_
              refine mz_go 1 (c' := (if ve2 = 0 then 31 else 55, [some (.ref 20), some (.int (nI I)), some (.int (nI J)), some (.int (m 21 ((J * 6) + I)))], [], m)) rfl ?_
              refine mz_ifT q3 ?_
              refine mz_go 5 (c' := (36, [some (.ref 20), some (.int (nI I)), some (.int (nI J)), some (.int (m 21 ((J * 6) + I)))], [.int ((nI J) - 1), .int (nI I), .ref 20], m)) rfl ?_
              rw [show nI J - 1 = -1 from by rw [show J = 0 by omega]; decide]
              refine mz_go 1 (c' := (37, [some (.ref 20), some (.int (nI I)), some (.int (nI J)), some (.int (m 21 ((J * 6) + I)))], [.int (m 21 ((J * 6) + I)), .int (-1), .int (nI I), .ref 20], m)) rfl ?_
              refine mz_do (R := mz_r13) (as := [.ref 20, .int (nI I), .int (-1), .int (m 21 ((J * 6) + I))]) (rest := []) (r1 := some (.int ve3)) (m1 := m) rfl (Ee3.deep (by decide)) ?_
              refine mz_go 1 (c' := (if ve3 = 0 then 43 else 55, [some (.ref 20), some (.int (nI I)), some (.int (nI J)), some (.int (m 21 ((J * 6) + I)))], [], m)) rfl ?_
              refine mz_ifT q5 ?_
              refine mz_go 6 (c' := (49, [some (.ref 20), some (.int (nI I)), some (.int (nI J)), some (.int (m 21 ((J * 6) + I)))], [.int (m 21 ((J * 6) + I)), .int ((nI J) + 1), .int (nI I), .ref 20], m)) rfl ?_
              refine mz_do (R := mz_r13) (as := [.ref 20, .int (nI I), .int ((nI J) + 1), .int (m 21 ((J * 6) + I))]) (rest := []) (r1 := some (.int ve4)) (m1 := m) rfl (Ee4.deep (by decide)) ?_
              refine mz_go 1 (c' := (if ve4 = 0 then 59 else 55, [some (.ref 20), some (.int (nI I)), some (.int (nI J)), some (.int (m 21 ((J * 6) + I)))], [], m)) rfl ?_
              refine mz_ifF q6 ?_
              refine mz_go 2 (c' := (60, [some (.ref 20), some (.int (nI I)), some (.int (nI J)), some (.int (m 21 ((J * 6) + I)))], [.int 1], m)) rfl ?_
              exact mz_ret rfl
          · refine ⟨1, ⟨?_, rfl⟩, (by unfold vq_ed; rw [vq_m1 q1]; rw [← Pe1, if_pos q2]; rw [← Pe2, if_pos q3]; rw [vq_m1 q4]; rw [← Pe3, if_neg q5])⟩
            refine mz_go 3 (c' := (3, [some (.ref 20), some (.int (nI I)), some (.int (nI J)), none], [.int (nI J), .int (nI I), .ref 20], m)) rfl ?_
            refine mz_do (R := mz_r7) (as := [.ref 20, .int (nI I), .int (nI J)]) (rest := []) (r1 := some (.int (m 21 ((J * 6) + I)))) (m1 := m) rfl ⟨?_, rfl⟩ ?_
            · refine mz_go 3 (c' := (3, [some (.ref 20), some (.int (nI I)), some (.int (nI J))], [.int (nI J), .int (nI I), .ref 20], m)) rfl ?_
              refine mz_do (R := mz_r4) (as := [.ref 20, .int (nI I), .int (nI J)]) (rest := []) (r1 := some (.int 1)) (m1 := m) rfl ⟨?_, rfl⟩ ?_
              · refine mz_go 2 (c' := (if (nI I) < 0 then 40 else 4, [some (.ref 20), some (.int (nI I)), some (.int (nI J))], [], m)) rfl ?_
                refine mz_ifF (show ¬ ((nI I) < 0) from (sm_nltN rfl rfl (show 0 ≤ I by omega) (show I < 2 ^ 31 by omega))) ?_
                refine mz_go 3 (c' := (9, [some (.ref 20), some (.int (nI I)), some (.int (nI J))], [.int (m 20 2), .int (nI I)], m)) rfl ?_
                rw [h202]
                refine mz_go 1 (c' := (if (nI WW) ≤ (nI I) then 40 else 12, [some (.ref 20), some (.int (nI I)), some (.int (nI J))], [], m)) rfl ?_
                refine mz_ifF (show ¬ ((nI WW) ≤ (nI I)) from (sm_nleN rfl rfl (show I < WW by omega) (show WW < 2 ^ 31 by omega))) ?_
                refine mz_go 3 (c' := (if 6 ≤ (nI I) then 40 else 18, [some (.ref 20), some (.int (nI I)), some (.int (nI J))], [], m)) rfl ?_
                refine mz_ifF (show ¬ (6 ≤ (nI I)) from (sm_nleN rfl rfl (show I < 6 by omega) (show 6 < 2 ^ 31 by omega))) ?_
                refine mz_go 2 (c' := (if (nI J) < 0 then 40 else 22, [some (.ref 20), some (.int (nI I)), some (.int (nI J))], [], m)) rfl ?_
                refine mz_ifF (show ¬ ((nI J) < 0) from (sm_nltN rfl rfl (show 0 ≤ J by omega) (show J < 2 ^ 31 by omega))) ?_
                refine mz_go 3 (c' := (27, [some (.ref 20), some (.int (nI I)), some (.int (nI J))], [.int (m 20 3), .int (nI J)], m)) rfl ?_
                rw [h203]
                refine mz_go 1 (c' := (if (nI HH) ≤ (nI J) then 40 else 30, [some (.ref 20), some (.int (nI I)), some (.int (nI J))], [], m)) rfl ?_
                refine mz_ifF (show ¬ ((nI HH) ≤ (nI J)) from (sm_nleN rfl rfl (show J < HH by omega) (show HH < 2 ^ 31 by omega))) ?_
                refine mz_go 3 (c' := (if 6 ≤ (nI J) then 40 else 36, [some (.ref 20), some (.int (nI I)), some (.int (nI J))], [], m)) rfl ?_
                refine mz_ifF (show ¬ (6 ≤ (nI J)) from (sm_nleN rfl rfl (show J < 6 by omega) (show 6 < 2 ^ 31 by omega))) ?_
                refine mz_go 2 (c' := (41, [some (.ref 20), some (.int (nI I)), some (.int (nI J))], [.int 1], m)) rfl ?_
                exact mz_ret rfl
              refine mz_go 8 (c' := (19, [some (.ref 20), some (.int (nI I)), some (.int (nI J))], [.int (((nI J) * 6) + (nI I)), .ref 21], m)) rfl ?_
              refine mz_arr (c' := (20, [some (.ref 20), some (.int (nI I)), some (.int (nI J))], [.int (m 21 ((((nI J) * 6) + (nI I)).toNatClampNeg))], m)) rfl (show mz_in (((nI J) * 6) + (nI I)) 36 = true from sm_inN (sm_addN (sm_mulN rfl rfl) rfl) (show ((J * 6) + I) < 36 by omega) (by decide)) ?_
              rw [show (((nI J) * 6) + (nI I) : Int32).toNatClampNeg = ((J * 6) + I) from sm_clN (sm_addN (sm_mulN rfl rfl) rfl) (show ((J * 6) + I) < 2 ^ 31 by omega)]
              refine mz_go 1 (c' := (25, [some (.ref 20), some (.int (nI I)), some (.int (nI J))], [.int (m 21 ((J * 6) + I))], m)) rfl ?_
              exact mz_ret rfl
            refine mz_go 5 (c' := (11, [some (.ref 20), some (.int (nI I)), some (.int (nI J)), some (.int (m 21 ((J * 6) + I)))], [.int ((nI I) - 1), .ref 20], m)) rfl ?_
            rw [show nI I - 1 = -1 from by rw [show I = 0 by omega]; decide]
            refine mz_go 2 (c' := (13, [some (.ref 20), some (.int (nI I)), some (.int (nI J)), some (.int (m 21 ((J * 6) + I)))], [.int (m 21 ((J * 6) + I)), .int (nI J), .int (-1), .ref 20], m)) rfl ?_
            refine mz_do (R := mz_r13) (as := [.ref 20, .int (-1), .int (nI J), .int (m 21 ((J * 6) + I))]) (rest := []) (r1 := some (.int ve1)) (m1 := m) rfl (Ee1.deep (by decide)) ?_
            refine mz_go 1 (c' := (if ve1 = 0 then 19 else 55, [some (.ref 20), some (.int (nI I)), some (.int (nI J)), some (.int (m 21 ((J * 6) + I)))], [], m)) rfl ?_
            refine mz_ifT q2 ?_
            refine mz_go 6 (c' := (25, [some (.ref 20), some (.int (nI I)), some (.int (nI J)), some (.int (m 21 ((J * 6) + I)))], [.int (m 21 ((J * 6) + I)), .int (nI J), .int ((nI I) + 1), .ref 20], m)) rfl ?_
            refine mz_do (R := mz_r13) (as := [.ref 20, .int ((nI I) + 1), .int (nI J), .int (m 21 ((J * 6) + I))]) (rest := []) (r1 := some (.int ve2)) (m1 := m) rfl (Ee2.deep (by decide)) ?_
            refine mz_go 1 (c' := (if ve2 = 0 then 31 else 55, [some (.ref 20), some (.int (nI I)), some (.int (nI J)), some (.int (m 21 ((J * 6) + I)))], [], m)) rfl ?_
            refine mz_ifT q3 ?_
            refine mz_go 5 (c' := (36, [some (.ref 20), some (.int (nI I)), some (.int (nI J)), some (.int (m 21 ((J * 6) + I)))], [.int ((nI J) - 1), .int (nI I), .ref 20], m)) rfl ?_
            rw [show nI J - 1 = -1 from by rw [show J = 0 by omega]; decide]
            refine mz_go 1 (c' := (37, [some (.ref 20), some (.int (nI I)), some (.int (nI J)), some (.int (m 21 ((J * 6) + I)))], [.int (m 21 ((J * 6) + I)), .int (-1), .int (nI I), .ref 20], m)) rfl ?_
            refine mz_do (R := mz_r13) (as := [.ref 20, .int (nI I), .int (-1), .int (m 21 ((J * 6) + I))]) (rest := []) (r1 := some (.int ve3)) (m1 := m) rfl (Ee3.deep (by decide)) ?_
            refine mz_go 1 (c' := (if ve3 = 0 then 43 else 55, [some (.ref 20), some (.int (nI I)), some (.int (nI J)), some (.int (m 21 ((J * 6) + I)))], [], m)) rfl ?_
            refine mz_ifF q5 ?_
            refine mz_go 2 (c' := (60, [some (.ref 20), some (.int (nI I)), some (.int (nI J)), some (.int (m 21 ((J * 6) + I)))], [.int 1], m)) rfl ?_
            exact mz_ret rfl
        · obtain ⟨ve3, Ee3, Pe3⟩ := vc_oth (m := m) hWW hHH h202 h203 (nI I) ((nI J) - 1) (m 21 ((J * 6) + I))
          by_cases q7 : ve3 = 0
          · obtain ⟨ve4, Ee4, Pe4⟩ := vc_oth (m := m) hWW hHH h202 h203 (nI I) ((nI J) + 1) (m 21 ((J * 6) + I))
            by_cases q8 : ve4 = 0
            · refine ⟨0, ⟨?_, rfl⟩, (by unfold vq_ed; rw [vq_m1 q1]; rw [← Pe1, if_pos q2]; rw [← Pe2, if_pos q3]; rw [← Pe3, if_pos q7]; rw [← Pe4, if_pos q8])⟩
              refine mz_go 3 (c' := (3, [some (.ref 20), some (.int (nI I)), some (.int (nI J)), none], [.int (nI J), .int (nI I), .ref 20], m)) rfl ?_
              refine mz_do (R := mz_r7) (as := [.ref 20, .int (nI I), .int (nI J)]) (rest := []) (r1 := some (.int (m 21 ((J * 6) + I)))) (m1 := m) rfl ⟨?_, rfl⟩ ?_
              · refine mz_go 3 (c' := (3, [some (.ref 20), some (.int (nI I)), some (.int (nI J))], [.int (nI J), .int (nI I), .ref 20], m)) rfl ?_
                refine mz_do (R := mz_r4) (as := [.ref 20, .int (nI I), .int (nI J)]) (rest := []) (r1 := some (.int 1)) (m1 := m) rfl ⟨?_, rfl⟩ ?_
                · refine mz_go 2 (c' := (if (nI I) < 0 then 40 else 4, [some (.ref 20), some (.int (nI I)), some (.int (nI J))], [], m)) rfl ?_
                  refine mz_ifF (show ¬ ((nI I) < 0) from (sm_nltN rfl rfl (show 0 ≤ I by omega) (show I < 2 ^ 31 by omega))) ?_
                  refine mz_go 3 (c' := (9, [some (.ref 20), some (.int (nI I)), some (.int (nI J))], [.int (m 20 2), .int (nI I)], m)) rfl ?_
                  rw [h202]
                  refine mz_go 1 (c' := (if (nI WW) ≤ (nI I) then 40 else 12, [some (.ref 20), some (.int (nI I)), some (.int (nI J))], [], m)) rfl ?_
                  refine mz_ifF (show ¬ ((nI WW) ≤ (nI I)) from (sm_nleN rfl rfl (show I < WW by omega) (show WW < 2 ^ 31 by omega))) ?_
                  refine mz_go 3 (c' := (if 6 ≤ (nI I) then 40 else 18, [some (.ref 20), some (.int (nI I)), some (.int (nI J))], [], m)) rfl ?_
                  refine mz_ifF (show ¬ (6 ≤ (nI I)) from (sm_nleN rfl rfl (show I < 6 by omega) (show 6 < 2 ^ 31 by omega))) ?_
                  refine mz_go 2 (c' := (if (nI J) < 0 then 40 else 22, [some (.ref 20), some (.int (nI I)), some (.int (nI J))], [], m)) rfl ?_
                  refine mz_ifF (show ¬ ((nI J) < 0) from (sm_nltN rfl rfl (show 0 ≤ J by omega) (show J < 2 ^ 31 by omega))) ?_
                  refine mz_go 3 (c' := (27, [some (.ref 20), some (.int (nI I)), some (.int (nI J))], [.int (m 20 3), .int (nI J)], m)) rfl ?_
                  rw [h203]
                  refine mz_go 1 (c' := (if (nI HH) ≤ (nI J) then 40 else 30, [some (.ref 20), some (.int (nI I)), some (.int (nI J))], [], m)) rfl ?_
                  refine mz_ifF (show ¬ ((nI HH) ≤ (nI J)) from (sm_nleN rfl rfl (show J < HH by omega) (show HH < 2 ^ 31 by omega))) ?_
                  refine mz_go 3 (c' := (if 6 ≤ (nI J) then 40 else 36, [some (.ref 20), some (.int (nI I)), some (.int (nI J))], [], m)) rfl ?_
                  refine mz_ifF (show ¬ (6 ≤ (nI J)) from (sm_nleN rfl rfl (show J < 6 by omega) (show 6 < 2 ^ 31 by omega))) ?_
                  refine mz_go 2 (c' := (41, [some (.ref 20), some (.int (nI I)), some (.int (nI J))], [.int 1], m)) rfl ?_
                  exact mz_ret rfl
                refine mz_go 8 (c' := (19, [some (.ref 20), some (.int (nI I)), some (.int (nI J))], [.int (((nI J) * 6) + (nI I)), .ref 21], m)) rfl ?_
                refine mz_arr (c' := (20, [some (.ref 20), some (.int (nI I)), some (.int (nI J))], [.int (m 21 ((((nI J) * 6) + (nI I)).toNatClampNeg))], m)) rfl (show mz_in (((nI J) * 6) + (nI I)) 36 = true from sm_inN (sm_addN (sm_mulN rfl rfl) rfl) (show ((J * 6) + I) < 36 by omega) (by decide)) ?_
                rw [show (((nI J) * 6) + (nI I) : Int32).toNatClampNeg = ((J * 6) + I) from sm_clN (sm_addN (sm_mulN rfl rfl) rfl) (show ((J * 6) + I) < 2 ^ 31 by omega)]
                refine mz_go 1 (c' := (25, [some (.ref 20), some (.int (nI I)), some (.int (nI J))], [.int (m 21 ((J * 6) + I))], m)) rfl ?_
                exact mz_ret rfl
              refine mz_go 5 (c' := (11, [some (.ref 20), some (.int (nI I)), some (.int (nI J)), some (.int (m 21 ((J * 6) + I)))], [.int ((nI I) - 1), .ref 20], m)) rfl ?_
              rw [show nI I - 1 = -1 from by rw [show I = 0 by omega]; decide]
              refine mz_go 2 (c' := (13, [some (.ref 20), some (.int (nI I)), some (.int (nI J)), some (.int (m 21 ((J * 6) + I)))], [.int (m 21 ((J * 6) + I)), .int (nI J), .int (-1), .ref 20], m)) rfl ?_
              refine mz_do (R := mz_r13) (as := [.ref 20, .int (-1), .int (nI J), .int (m 21 ((J * 6) + I))]) (rest := []) (r1 := some (.int ve1)) (m1 := m) rfl (Ee1.deep (by decide)) ?_
              refine mz_go 1 (c' := (if ve1 = 0 then 19 else 55, [some (.ref 20), some (.int (nI I)), some (.int (nI J)), some (.int (m 21 ((J * 6) + I)))], [], m)) rfl ?_
              refine mz_ifT q2 ?_
              refine mz_go 6 (c' := (25, [some (.ref 20), some (.int (nI I)), some (.int (nI J)), some (.int (m 21 ((J * 6) + I)))], [.int (m 21 ((J * 6) + I)), .int (nI J), .int ((nI I) + 1), .ref 20], m)) rfl ?_
              refine mz_do (R := mz_r13) (as := [.ref 20, .int ((nI I) + 1), .int (nI J), .int (m 21 ((J * 6) + I))]) (rest := []) (r1 := some (.int ve2)) (m1 := m) rfl (Ee2.deep (by decide)) ?_
              refine mz_go 1 (c' := (if ve2 = 0 then 31 else 55, [some (.ref 20), some (.int (nI I)), some (.int (nI J)), some (.int (m 21 ((J * 6) + I)))], [], m)) rfl ?_
              refine mz_ifT q3 ?_
              refine mz_go 6 (c' := (37, [some (.ref 20), some (.int (nI I)), some (.int (nI J)), some (.int (m 21 ((J * 6) + I)))], [.int (m 21 ((J * 6) + I)), .int ((nI J) - 1), .int (nI I), .ref 20], m)) rfl ?_
              refine mz_do (R := mz_r13) (as := [.ref 20, .int (nI I), .int ((nI J) - 1), .int (m 21 ((J * 6) + I))]) (rest := []) (r1 := some (.int ve3)) (m1 := m) rfl (Ee3.deep (by decide)) ?_
              refine mz_go 1 (c' := (if ve3 = 0 then 43 else 55, [some (.ref 20), some (.int (nI I)), some (.int (nI J)), some (.int (m 21 ((J * 6) + I)))], [], m)) rfl ?_
              refine mz_ifT q7 ?_
              refine mz_go 6 (c' := (49, [some (.ref 20), some (.int (nI I)), some (.int (nI J)), some (.int (m 21 ((J * 6) + I)))], [.int (m 21 ((J * 6) + I)), .int ((nI J) + 1), .int (nI I), .ref 20], m)) rfl ?_
              refine mz_do (R := mz_r13) (as := [.ref 20, .int (nI I), .int ((nI J) + 1), .int (m 21 ((J * 6) + I))]) (rest := []) (r1 := some (.int ve4)) (m1 := m) rfl (Ee4.deep (by decide)) ?_
              refine mz_go 1 (c' := (if ve4 = 0 then 59 else 55, [some (.ref 20), some (.int (nI I)), some (.int (nI J)), some (.int (m 21 ((J * 6) + I)))], [], m)) rfl ?_
              refine mz_ifT q8 ?_
              refine mz_go 1 (c' := (60, [some (.ref 20), some (.int (nI I)), some (.int (nI J)), some (.int (m 21 ((J * 6) + I)))], [.int 0], m)) rfl ?_
              exact mz_ret rfl
            · refine ⟨1, ⟨?_, rfl⟩, (by unfold vq_ed; rw [vq_m1 q1]; rw [← Pe1, if_pos q2]; rw [← Pe2, if_pos q3]; rw [← Pe3, if_pos q7]; rw [← Pe4, if_neg q8])⟩
              refine mz_go 3 (c' := (3, [some (.ref 20), some (.int (nI I)), some (.int (nI J)), none], [.int (nI J), .int (nI I), .ref 20], m)) rfl ?_
              refine mz_do (R := mz_r7) (as := [.ref 20, .int (nI I), .int (nI J)]) (rest := []) (r1 := some (.int (m 21 ((J * 6) + I)))) (m1 := m) rfl ⟨?_, rfl⟩ ?_
              · refine mz_go 3 (c' := (3, [some (.ref 20), some (.int (nI I)), some (.int (nI J))], [.int (nI J), .int (nI I), .ref 20], m)) rfl ?_
                refine mz_do (R := mz_r4) (as := [.ref 20, .int (nI I), .int (nI J)]) (rest := []) (r1 := some (.int 1)) (m1 := m) rfl ⟨?_, rfl⟩ ?_
                · refine mz_go 2 (c' := (if (nI I) < 0 then 40 else 4, [some (.ref 20), some (.int (nI I)), some (.int (nI J))], [], m)) rfl ?_
                  refine mz_ifF (show ¬ ((nI I) < 0) from (sm_nltN rfl rfl (show 0 ≤ I by omega) (show I < 2 ^ 31 by omega))) ?_
                  refine mz_go 3 (c' := (9, [some (.ref 20), some (.int (nI I)), some (.int (nI J))], [.int (m 20 2), .int (nI I)], m)) rfl ?_
                  rw [h202]
                  refine mz_go 1 (c' := (if (nI WW) ≤ (nI I) then 40 else 12, [some (.ref 20), some (.int (nI I)), some (.int (nI J))], [], m)) rfl ?_
                  refine mz_ifF (show ¬ ((nI WW) ≤ (nI I)) from (sm_nleN rfl rfl (show I < WW by omega) (show WW < 2 ^ 31 by omega))) ?_
                  refine mz_go 3 (c' := (if 6 ≤ (nI I) then 40 else 18, [some (.ref 20), some (.int (nI I)), some (.int (nI J))], [], m)) rfl ?_
                  refine mz_ifF (show ¬ (6 ≤ (nI I)) from (sm_nleN rfl rfl (show I < 6 by omega) (show 6 < 2 ^ 31 by omega))) ?_
                  refine mz_go 2 (c' := (if (nI J) < 0 then 40 else 22, [some (.ref 20), some (.int (nI I)), some (.int (nI J))], [], m)) rfl ?_
                  refine mz_ifF (show ¬ ((nI J) < 0) from (sm_nltN rfl rfl (show 0 ≤ J by omega) (show J < 2 ^ 31 by omega))) ?_
                  refine mz_go 3 (c' := (27, [some (.ref 20), some (.int (nI I)), some (.int (nI J))], [.int (m 20 3), .int (nI J)], m)) rfl ?_
                  rw [h203]
                  refine mz_go 1 (c' := (if (nI HH) ≤ (nI J) then 40 else 30, [some (.ref 20), some (.int (nI I)), some (.int (nI J))], [], m)) rfl ?_
                  refine mz_ifF (show ¬ ((nI HH) ≤ (nI J)) from (sm_nleN rfl rfl (show J < HH by omega) (show HH < 2 ^ 31 by omega))) ?_
                  refine mz_go 3 (c' := (if 6 ≤ (nI J) then 40 else 36, [some (.ref 20), some (.int (nI I)), some (.int (nI J))], [], m)) rfl ?_
                  refine mz_ifF (show ¬ (6 ≤ (nI J)) from (sm_nleN rfl rfl (show J < 6 by omega) (show 6 < 2 ^ 31 by omega))) ?_
                  refine mz_go 2 (c' := (41, [some (.ref 20), some (.int (nI I)), some (.int (nI J))], [.int 1], m)) rfl ?_
                  exact mz_ret rfl
                refine mz_go 8 (c' := (19, [some (.ref 20), some (.int (nI I)), some (.int (nI J))], [.int (((nI J) * 6) + (nI I)), .ref 21], m)) rfl ?_
                refine mz_arr (c' := (20, [some (.ref 20), some (.int (nI I)), some (.int (nI J))], [.int (m 21 ((((nI J) * 6) + (nI I)).toNatClampNeg))], m)) rfl (show mz_in (((nI J) * 6) + (nI I)) 36 = true from sm_inN (sm_addN (sm_mulN rfl rfl) rfl) (show ((J * 6) + I) < 36 by omega) (by decide)) ?_
                rw [show (((nI J) * 6) + (nI I) : Int32).toNatClampNeg = ((J * 6) + I) from sm_clN (sm_addN (sm_mulN rfl rfl) rfl) (show ((J * 6) + I) < 2 ^ 31 by omega)]
                refine mz_go 1 (c' := (25, [some (.ref 20), some (.int (nI I)), some (.int (nI J))], [.int (m 21 ((J * 6) + I))], m)) rfl ?_
                exact mz_ret rfl
              refine mz_go 5 (c' := (11, [some (.ref 20), some (.int (nI I)), some (.int (nI J)), some (.int (m 21 ((J * 6) + I)))], [.int ((nI I) - 1), .ref 20], m)) rfl ?_
              rw [show nI I - 1 = -1 from by rw [show I = 0 by omega]; decide]
              refine mz_go 2 (c' := (13, [some (.ref 20), some (.int (nI I)), some (.int (nI J)), some (.int (m 21 ((J * 6) + I)))], [.int (m 21 ((J * 6) + I)), .int (nI J), .int (-1), .ref 20], m)) rfl ?_
              refine mz_do (R := mz_r13) (as := [.ref 20, .int (-1), .int (nI J), .int (m 21 ((J * 6) + I))]) (rest := []) (r1 := some (.int ve1)) (m1 := m) rfl (Ee1.deep (by decide)) ?_
              refine mz_go 1 (c' := (if ve1 = 0 then 19 else 55, [some (.ref 20), some (.int (nI I)), some (.int (nI J)), some (.int (m 21 ((J * 6) + I)))], [], m)) rfl ?_
              refine mz_ifT q2 ?_
              refine mz_go 6 (c' := (25, [some (.ref 20), some (.int (nI I)), some (.int (nI J)), some (.int (m 21 ((J * 6) + I)))], [.int (m 21 ((J * 6) + I)), .int (nI J), .int ((nI I) + 1), .ref 20], m)) rfl ?_
              refine mz_do (R := mz_r13) (as := [.ref 20, .int ((nI I) + 1), .int (nI J), .int (m 21 ((J * 6) + I))]) (rest := []) (r1 := some (.int ve2)) (m1 := m) rfl (Ee2.deep (by decide)) ?_
              refine mz_go 1 (c' := (if ve2 = 0 then 31 else 55, [some (.ref 20), some (.int (nI I)), some (.int (nI J)), some (.int (m 21 ((J * 6) + I)))], [], m)) rfl ?_
              refine mz_ifT q3 ?_
              refine mz_go 6 (c' := (37, [some (.ref 20), some (.int (nI I)), some (.int (nI J)), some (.int (m 21 ((J * 6) + I)))], [.int (m 21 ((J * 6) + I)), .int ((nI J) - 1), .int (nI I), .ref 20], m)) rfl ?_
              refine mz_do (R := mz_r13) (as := [.ref 20, .int (nI I), .int ((nI J) - 1), .int (m 21 ((J * 6) + I))]) (rest := []) (r1 := some (.int ve3)) (m1 := m) rfl (Ee3.deep (by decide)) ?_
              refine mz_go 1 (c' := (if ve3 = 0 then 43 else 55, [some (.ref 20), some (.int (nI I)), some (.int (nI J)), some (.int (m 21 ((J * 6) + I)))], [], m)) rfl ?_
              refine mz_ifT q7 ?_
              refine mz_go 6 (c' := (49, [some (.ref 20), some (.int (nI I)), some (.int (nI J)), some (.int (m 21 ((J * 6) + I)))], [.int (m 21 ((J * 6) + I)), .int ((nI J) + 1), .int (nI I), .ref 20], m)) rfl ?_
              refine mz_do (R := mz_r13) (as := [.ref 20, .int (nI I), .int ((nI J) + 1), .int (m 21 ((J * 6) + I))]) (rest := []) (r1 := some (.int ve4)) (m1 := m) rfl (Ee4.deep (by decide)) ?_
              refine mz_go 1 (c' := (if ve4 = 0 then 59 else 55, [some (.ref 20), some (.int (nI I)), some (.int (nI J)), some (.int (m 21 ((J * 6) + I)))], [], m)) rfl ?_
              refine mz_ifF q8 ?_
              refine mz_go 2 (c' := (60, [some (.ref 20), some (.int (nI I)), some (.int (nI J)), some (.int (m 21 ((J * 6) + I)))], [.int 1], m)) rfl ?_
              exact mz_ret rfl
          · refine ⟨1, ⟨?_, rfl⟩, (by unfold vq_ed; rw [vq_m1 q1]; rw [← Pe1, if_pos q2]; rw [← Pe2, if_pos q3]; rw [← Pe3, if_neg q7])⟩
            refine mz_go 3 (c' := (3, [some (.ref 20), some (.int (nI I)), some (.int (nI J)), none], [.int (nI J), .int (nI I), .ref 20], m)) rfl ?_
            refine mz_do (R := mz_r7) (as := [.ref 20, .int (nI I), .int (nI J)]) (rest := []) (r1 := some (.int (m 21 ((J * 6) + I)))) (m1 := m) rfl ⟨?_, rfl⟩ ?_
            · refine mz_go 3 (c' := (3, [some (.ref 20), some (.int (nI I)), some (.int (nI J))], [.int (nI J), .int (nI I), .ref 20], m)) rfl ?_
              refine mz_do (R := mz_r4) (as := [.ref 20, .int (nI I), .int (nI J)]) (rest := []) (r1 := some (.int 1)) (m1 := m) rfl ⟨?_, rfl⟩ ?_
              · refine mz_go 2 (c' := (if (nI I) < 0 then 40 else 4, [some (.ref 20), some (.int (nI I)), some (.int (nI J))], [], m)) rfl ?_
                refine mz_ifF (show ¬ ((nI I) < 0) from (sm_nltN rfl rfl (show 0 ≤ I by omega) (show I < 2 ^ 31 by omega))) ?_
                refine mz_go 3 (c' := (9, [some (.ref 20), some (.int (nI I)), some (.int (nI J))], [.int (m 20 2), .int (nI I)], m)) rfl ?_
                rw [h202]
                refine mz_go 1 (c' := (if (nI WW) ≤ (nI I) then 40 else 12, [some (.ref 20), some (.int (nI I)), some (.int (nI J))], [], m)) rfl ?_
                refine mz_ifF (show ¬ ((nI WW) ≤ (nI I)) from (sm_nleN rfl rfl (show I < WW by omega) (show WW < 2 ^ 31 by omega))) ?_
                refine mz_go 3 (c' := (if 6 ≤ (nI I) then 40 else 18, [some (.ref 20), some (.int (nI I)), some (.int (nI J))], [], m)) rfl ?_
                refine mz_ifF (show ¬ (6 ≤ (nI I)) from (sm_nleN rfl rfl (show I < 6 by omega) (show 6 < 2 ^ 31 by omega))) ?_
                refine mz_go 2 (c' := (if (nI J) < 0 then 40 else 22, [some (.ref 20), some (.int (nI I)), some (.int (nI J))], [], m)) rfl ?_
                refine mz_ifF (show ¬ ((nI J) < 0) from (sm_nltN rfl rfl (show 0 ≤ J by omega) (show J < 2 ^ 31 by omega))) ?_
                refine mz_go 3 (c' := (27, [some (.ref 20), some (.int (nI I)), some (.int (nI J))], [.int (m 20 3), .int (nI J)], m)) rfl ?_
                rw [h203]
                refine mz_go 1 (c' := (if (nI HH) ≤ (nI J) then 40 else 30, [some (.ref 20), some (.int (nI I)), some (.int (nI J))], [], m)) rfl ?_
                refine mz_ifF (show ¬ ((nI HH) ≤ (nI J)) from (sm_nleN rfl rfl (show J < HH by omega) (show HH < 2 ^ 31 by omega))) ?_
                refine mz_go 3 (c' := (if 6 ≤ (nI J) then 40 else 36, [some (.ref 20), some (.int (nI I)), some (.int (nI J))], [], m)) rfl ?_
                refine mz_ifF (show ¬ (6 ≤ (nI J)) from (sm_nleN rfl rfl (show J < 6 by omega) (show 6 < 2 ^ 31 by omega))) ?_
                refine mz_go 2 (c' := (41, [some (.ref 20), some (.int (nI I)), some (.int (nI J))], [.int 1], m)) rfl ?_
                exact mz_ret rfl
              refine mz_go 8 (c' := (19, [some (.ref 20), some (.int (nI I)), some (.int (nI J))], [.int (((nI J) * 6) + (nI I)), .ref 21], m)) rfl ?_
              refine mz_arr (c' := (20, [some (.ref 20), some (.int (nI I)), some (.int (nI J))], [.int (m 21 ((((nI J) * 6) + (nI I)).toNatClampNeg))], m)) rfl (show mz_in (((nI J) * 6) + (nI I)) 36 = true from sm_inN (sm_addN (sm_mulN rfl rfl) rfl) (show ((J * 6) + I) < 36 by omega) (by decide)) ?_
              rw [show (((nI J) * 6) + (nI I) : Int32).toNatClampNeg = ((J * 6) + I) from sm_clN (sm_addN (sm_mulN rfl rfl) rfl) (show ((J * 6) + I) < 2 ^ 31 by omega)]
              refine mz_go 1 (c' := (25, [some (.ref 20), some (.int (nI I)), some (.int (nI J))], [.int (m 21 ((J * 6) + I))], m)) rfl ?_
              exact mz_ret rfl
            refine mz_go 5 (c' := (11, [some (.ref 20), some (.int (nI I)), some (.int (nI J)), some (.int (m 21 ((J * 6) + I)))], [.int ((nI I) - 1), .ref 20], m)) rfl ?_
            rw [show nI I - 1 = -1 from by rw [show I = 0 by omega]; decide]
            refine mz_go 2 (c' := (13, [some (.ref 20), some (.int (nI I)), some (.int (nI J)), some (.int (m 21 ((J * 6) + I)))], [.int (m 21 ((J * 6) + I)), .int (nI J), .int (-1), .ref 20], m)) rfl ?_
            refine mz_do (R := mz_r13) (as := [.ref 20, .int (-1), .int (nI J), .int (m 21 ((J * 6) + I))]) (rest := []) (r1 := some (.int ve1)) (m1 := m) rfl (Ee1.deep (by decide)) ?_
            refine mz_go 1 (c' := (if ve1 = 0 then 19 else 55, [some (.ref 20), some (.int (nI I)), some (.int (nI J)), some (.int (m 21 ((J * 6) + I)))], [], m)) rfl ?_
            refine mz_ifT q2 ?_
            refine mz_go 6 (c' := (25, [some (.ref 20), some (.int (nI I)), some (.int (nI J)), some (.int (m 21 ((J * 6) + I)))], [.int (m 21 ((J * 6) + I)), .int (nI J), .int ((nI I) + 1), .ref 20], m)) rfl ?_
            refine mz_do (R := mz_r13) (as := [.ref 20, .int ((nI I) + 1), .int (nI J), .int (m 21 ((J * 6) + I))]) (rest := []) (r1 := some (.int ve2)) (m1 := m) rfl (Ee2.deep (by decide)) ?_
            refine mz_go 1 (c' := (if ve2 = 0 then 31 else 55, [some (.ref 20), some (.int (nI I)), some (.int (nI J)), some (.int (m 21 ((J * 6) + I)))], [], m)) rfl ?_
            refine mz_ifT q3 ?_
            refine mz_go 6 (c' := (37, [some (.ref 20), some (.int (nI I)), some (.int (nI J)), some (.int (m 21 ((J * 6) + I)))], [.int (m 21 ((J * 6) + I)), .int ((nI J) - 1), .int (nI I), .ref 20], m)) rfl ?_
            refine mz_do (R := mz_r13) (as := [.ref 20, .int (nI I), .int ((nI J) - 1), .int (m 21 ((J * 6) + I))]) (rest := []) (r1 := some (.int ve3)) (m1 := m) rfl (Ee3.deep (by decide)) ?_
            refine mz_go 1 (c' := (if ve3 = 0 then 43 else 55, [some (.ref 20), some (.int (nI I)), some (.int (nI J)), some (.int (m 21 ((J * 6) + I)))], [], m)) rfl ?_
            refine mz_ifF q7 ?_
            refine mz_go 2 (c' := (60, [some (.ref 20), some (.int (nI I)), some (.int (nI J)), some (.int (m 21 ((J * 6) + I)))], [.int 1], m)) rfl ?_
            exact mz_ret rfl
      · refine ⟨1, ⟨?_, rfl⟩, (by unfold vq_ed; rw [vq_m1 q1]; rw [← Pe1, if_pos q2]; rw [← Pe2, if_neg q3])⟩
        refine mz_go 3 (c' := (3, [some (.ref 20), some (.int (nI I)), some (.int (nI J)), none], [.int (nI J), .int (nI I), .ref 20], m)) rfl ?_
        refine mz_do (R := mz_r7) (as := [.ref 20, .int (nI I), .int (nI J)]) (rest := []) (r1 := some (.int (m 21 ((J * 6) + I)))) (m1 := m) rfl ⟨?_, rfl⟩ ?_
        · refine mz_go 3 (c' := (3, [some (.ref 20), some (.int (nI I)), some (.int (nI J))], [.int (nI J), .int (nI I), .ref 20], m)) rfl ?_
          refine mz_do (R := mz_r4) (as := [.ref 20, .int (nI I), .int (nI J)]) (rest := []) (r1 := some (.int 1)) (m1 := m) rfl ⟨?_, rfl⟩ ?_
          · refine mz_go 2 (c' := (if (nI I) < 0 then 40 else 4, [some (.ref 20), some (.int (nI I)), some (.int (nI J))], [], m)) rfl ?_
            refine mz_ifF (show ¬ ((nI I) < 0) from (sm_nltN rfl rfl (show 0 ≤ I by omega) (show I < 2 ^ 31 by omega))) ?_
            refine mz_go 3 (c' := (9, [some (.ref 20), some (.int (nI I)), some (.int (nI J))], [.int (m 20 2), .int (nI I)], m)) rfl ?_
            rw [h202]
            refine mz_go 1 (c' := (if (nI WW) ≤ (nI I) then 40 else 12, [some (.ref 20), some (.int (nI I)), some (.int (nI J))], [], m)) rfl ?_
            refine mz_ifF (show ¬ ((nI WW) ≤ (nI I)) from (sm_nleN rfl rfl (show I < WW by omega) (show WW < 2 ^ 31 by omega))) ?_
            refine mz_go 3 (c' := (if 6 ≤ (nI I) then 40 else 18, [some (.ref 20), some (.int (nI I)), some (.int (nI J))], [], m)) rfl ?_
            refine mz_ifF (show ¬ (6 ≤ (nI I)) from (sm_nleN rfl rfl (show I < 6 by omega) (show 6 < 2 ^ 31 by omega))) ?_
            refine mz_go 2 (c' := (if (nI J) < 0 then 40 else 22, [some (.ref 20), some (.int (nI I)), some (.int (nI J))], [], m)) rfl ?_
            refine mz_ifF (show ¬ ((nI J) < 0) from (sm_nltN rfl rfl (show 0 ≤ J by omega) (show J < 2 ^ 31 by omega))) ?_
            refine mz_go 3 (c' := (27, [some (.ref 20), some (.int (nI I)), some (.int (nI J))], [.int (m 20 3), .int (nI J)], m)) rfl ?_
            rw [h203]
            refine mz_go 1 (c' := (if (nI HH) ≤ (nI J) then 40 else 30, [some (.ref 20), some (.int (nI I)), some (.int (nI J))], [], m)) rfl ?_
            refine mz_ifF (show ¬ ((nI HH) ≤ (nI J)) from (sm_nleN rfl rfl (show J < HH by omega) (show HH < 2 ^ 31 by omega))) ?_
            refine mz_go 3 (c' := (if 6 ≤ (nI J) then 40 else 36, [some (.ref 20), some (.int (nI I)), some (.int (nI J))], [], m)) rfl ?_
            refine mz_ifF (show ¬ (6 ≤ (nI J)) from (sm_nleN rfl rfl (show J < 6 by omega) (show 6 < 2 ^ 31 by omega))) ?_
            refine mz_go 2 (c' := (41, [some (.ref 20), some (.int (nI I)), some (.int (nI J))], [.int 1], m)) rfl ?_
            exact mz_ret rfl
          refine mz_go 8 (c' := (19, [some (.ref 20), some (.int (nI I)), some (.int (nI J))], [.int (((nI J) * 6) + (nI I)), .ref 21], m)) rfl ?_
          refine mz_arr (c' := (20, [some (.ref 20), some (.int (nI I)), some (.int (nI J))], [.int (m 21 ((((nI J) * 6) + (nI I)).toNatClampNeg))], m)) rfl (show mz_in (((nI J) * 6) + (nI I)) 36 = true from sm_inN (sm_addN (sm_mulN rfl rfl) rfl) (show ((J * 6) + I) < 36 by omega) (by decide)) ?_
          rw [show (((nI J) * 6) + (nI I) : Int32).toNatClampNeg = ((J * 6) + I) from sm_clN (sm_addN (sm_mulN rfl rfl) rfl) (show ((J * 6) + I) < 2 ^ 31 by omega)]
          refine mz_go 1 (c' := (25, [some (.ref 20), some (.int (nI I)), some (.int (nI J))], [.int (m 21 ((J * 6) + I))], m)) rfl ?_
          exact mz_ret rfl
        refine mz_go 5 (c' := (11, [some (.ref 20), some (.int (nI I)), some (.int (nI J)), some (.int (m 21 ((J * 6) + I)))], [.int ((nI I) - 1), .ref 20], m)) rfl ?_
        rw [show nI I - 1 = -1 from by rw [show I = 0 by omega]; decide]
        refine mz_go 2 (c' := (13, [some (.ref 20), some (.int (nI I)), some (.int (nI J)), some (.int (m 21 ((J * 6) + I)))], [.int (m 21 ((J * 6) + I)), .int (nI J), .int (-1), .ref 20], m)) rfl ?_
        refine mz_do (R := mz_r13) (as := [.ref 20, .int (-1), .int (nI J), .int (m 21 ((J * 6) + I))]) (rest := []) (r1 := some (.int ve1)) (m1 := m) rfl (Ee1.deep (by decide)) ?_
        refine mz_go 1 (c' := (if ve1 = 0 then 19 else 55, [some (.ref 20), some (.int (nI I)), some (.int (nI J)), some (.int (m 21 ((J * 6) + I)))], [], m)) rfl ?_
        refine mz_ifT q2 ?_
        refine mz_go 6 (c' := (25, [some (.ref 20), some (.int (nI I)), some (.int (nI J)), some (.int (m 21 ((J * 6) + I)))], [.int (m 21 ((J * 6) + I)), .int (nI J), .int ((nI I) + 1), .ref 20], m)) rfl ?_
        refine mz_do (R := mz_r13) (as := [.ref 20, .int ((nI I) + 1), .int (nI J), .int (m 21 ((J * 6) + I))]) (rest := []) (r1 := some (.int ve2)) (m1 := m) rfl (Ee2.deep (by decide)) ?_
        refine mz_go 1 (c' := (if ve2 = 0 then 31 else 55, [some (.ref 20), some (.int (nI I)), some (.int (nI J)), some (.int (m 21 ((J * 6) + I)))], [], m)) rfl ?_
        refine mz_ifF q3 ?_
        refine mz_go 2 (c' := (60, [some (.ref 20), some (.int (nI I)), some (.int (nI J)), some (.int (m 21 ((J * 6) + I)))], [.int 1], m)) rfl ?_
        exact mz_ret rfl
    · refine ⟨1, ⟨?_, rfl⟩, (by unfold vq_ed; rw [vq_m1 q1]; rw [← Pe1, if_neg q2])⟩
      refine mz_go 3 (c' := (3, [some (.ref 20), some (.int (nI I)), some (.int (nI J)), none], [.int (nI J), .int (nI I), .ref 20], m)) rfl ?_
      refine mz_do (R := mz_r7) (as := [.ref 20, .int (nI I), .int (nI J)]) (rest := []) (r1 := some (.int (m 21 ((J * 6) + I)))) (m1 := m) rfl ⟨?_, rfl⟩ ?_
      · refine mz_go 3 (c' := (3, [some (.ref 20), some (.int (nI I)), some (.int (nI J))], [.int (nI J), .int (nI I), .ref 20], m)) rfl ?_
        refine mz_do (R := mz_r4) (as := [.ref 20, .int (nI I), .int (nI J)]) (rest := []) (r1 := some (.int 1)) (m1 := m) rfl ⟨?_, rfl⟩ ?_
        · refine mz_go 2 (c' := (if (nI I) < 0 then 40 else 4, [some (.ref 20), some (.int (nI I)), some (.int (nI J))], [], m)) rfl ?_
          refine mz_ifF (show ¬ ((nI I) < 0) from (sm_nltN rfl rfl (show 0 ≤ I by omega) (show I < 2 ^ 31 by omega))) ?_
          refine mz_go 3 (c' := (9, [some (.ref 20), some (.int (nI I)), some (.int (nI J))], [.int (m 20 2), .int (nI I)], m)) rfl ?_
          rw [h202]
          refine mz_go 1 (c' := (if (nI WW) ≤ (nI I) then 40 else 12, [some (.ref 20), some (.int (nI I)), some (.int (nI J))], [], m)) rfl ?_
          refine mz_ifF (show ¬ ((nI WW) ≤ (nI I)) from (sm_nleN rfl rfl (show I < WW by omega) (show WW < 2 ^ 31 by omega))) ?_
          refine mz_go 3 (c' := (if 6 ≤ (nI I) then 40 else 18, [some (.ref 20), some (.int (nI I)), some (.int (nI J))], [], m)) rfl ?_
          refine mz_ifF (show ¬ (6 ≤ (nI I)) from (sm_nleN rfl rfl (show I < 6 by omega) (show 6 < 2 ^ 31 by omega))) ?_
          refine mz_go 2 (c' := (if (nI J) < 0 then 40 else 22, [some (.ref 20), some (.int (nI I)), some (.int (nI J))], [], m)) rfl ?_
          refine mz_ifF (show ¬ ((nI J) < 0) from (sm_nltN rfl rfl (show 0 ≤ J by omega) (show J < 2 ^ 31 by omega))) ?_
          refine mz_go 3 (c' := (27, [some (.ref 20), some (.int (nI I)), some (.int (nI J))], [.int (m 20 3), .int (nI J)], m)) rfl ?_
          rw [h203]
          refine mz_go 1 (c' := (if (nI HH) ≤ (nI J) then 40 else 30, [some (.ref 20), some (.int (nI I)), some (.int (nI J))], [], m)) rfl ?_
          refine mz_ifF (show ¬ ((nI HH) ≤ (nI J)) from (sm_nleN rfl rfl (show J < HH by omega) (show HH < 2 ^ 31 by omega))) ?_
          refine mz_go 3 (c' := (if 6 ≤ (nI J) then 40 else 36, [some (.ref 20), some (.int (nI I)), some (.int (nI J))], [], m)) rfl ?_
          refine mz_ifF (show ¬ (6 ≤ (nI J)) from (sm_nleN rfl rfl (show J < 6 by omega) (show 6 < 2 ^ 31 by omega))) ?_
          refine mz_go 2 (c' := (41, [some (.ref 20), some (.int (nI I)), some (.int (nI J))], [.int 1], m)) rfl ?_
          exact mz_ret rfl
        refine mz_go 8 (c' := (19, [some (.ref 20), some (.int (nI I)), some (.int (nI J))], [.int (((nI J) * 6) + (nI I)), .ref 21], m)) rfl ?_
        refine mz_arr (c' := (20, [some (.ref 20), some (.int (nI I)), some (.int (nI J))], [.int (m 21 ((((nI J) * 6) + (nI I)).toNatClampNeg))], m)) rfl (show mz_in (((nI J) * 6) + (nI I)) 36 = true from sm_inN (sm_addN (sm_mulN rfl rfl) rfl) (show ((J * 6) + I) < 36 by omega) (by decide)) ?_
        rw [show (((nI J) * 6) + (nI I) : Int32).toNatClampNeg = ((J * 6) + I) from sm_clN (sm_addN (sm_mulN rfl rfl) rfl) (show ((J * 6) + I) < 2 ^ 31 by omega)]
        refine mz_go 1 (c' := (25, [some (.ref 20), some (.int (nI I)), some (.int (nI J))], [.int (m 21 ((J * 6) + I))], m)) rfl ?_
        exact mz_ret rfl
      refine mz_go 5 (c' := (11, [some (.ref 20), some (.int (nI I)), some (.int (nI J)), some (.int (m 21 ((J * 6) + I)))], [.int ((nI I) - 1), .ref 20], m)) rfl ?_
      rw [show nI I - 1 = -1 from by rw [show I = 0 by omega]; decide]
      refine mz_go 2 (c' := (13, [some (.ref 20), some (.int (nI I)), some (.int (nI J)), some (.int (m 21 ((J * 6) + I)))], [.int (m 21 ((J * 6) + I)), .int (nI J), .int (-1), .ref 20], m)) rfl ?_
      refine mz_do (R := mz_r13) (as := [.ref 20, .int (-1), .int (nI J), .int (m 21 ((J * 6) + I))]) (rest := []) (r1 := some (.int ve1)) (m1 := m) rfl (Ee1.deep (by decide)) ?_
      refine mz_go 1 (c' := (if ve1 = 0 then 19 else 55, [some (.ref 20), some (.int (nI I)), some (.int (nI J)), some (.int (m 21 ((J * 6) + I)))], [], m)) rfl ?_
      refine mz_ifF q2 ?_
      refine mz_go 2 (c' := (60, [some (.ref 20), some (.int (nI I)), some (.int (nI J)), some (.int (m 21 ((J * 6) + I)))], [.int 1], m)) rfl ?_
      exact mz_ret rfl
  · obtain ⟨ve1, Ee1, Pe1⟩ := vc_oth (m := m) hWW hHH h202 h203 ((nI I) - 1) (nI J) (m 21 ((J * 6) + I))
    by_cases q9 : ve1 = 0
    · obtain ⟨ve2, Ee2, Pe2⟩ := vc_oth (m := m) hWW hHH h202 h203 ((nI I) + 1) (nI J) (m 21 ((J * 6) + I))
      by_cases q10 : ve2 = 0
      · by_cases q11 : J = 0
        · obtain ⟨ve3, Ee3, Pe3⟩ := vc_oth (m := m) hWW hHH h202 h203 (nI I) (-1) (m 21 ((J * 6) + I))
          by_cases q12 : ve3 = 0
          · obtain ⟨ve4, Ee4, Pe4⟩ := vc_oth (m := m) hWW hHH h202 h203 (nI I) ((nI J) + 1) (m 21 ((J * 6) + I))
            by_cases q13 : ve4 = 0
            · refine ⟨0, ⟨?_, rfl⟩, (by unfold vq_ed; rw [← Pe1, if_pos q9]; rw [← Pe2, if_pos q10]; rw [vq_m1 q11]; rw [← Pe3, if_pos q12]; rw [← Pe4, if_pos q13])⟩
              refine mz_go 3 (c' := (3, [some (.ref 20), some (.int (nI I)), some (.int (nI J)), none], [.int (nI J), .int (nI I), .ref 20], m)) rfl ?_
              refine mz_do (R := mz_r7) (as := [.ref 20, .int (nI I), .int (nI J)]) (rest := []) (r1 := some (.int (m 21 ((J * 6) + I)))) (m1 := m) rfl ⟨?_, rfl⟩ ?_
              · refine mz_go 3 (c' := (3, [some (.ref 20), some (.int (nI I)), some (.int (nI J))], [.int (nI J), .int (nI I), .ref 20], m)) rfl ?_
                refine mz_do (R := mz_r4) (as := [.ref 20, .int (nI I), .int (nI J)]) (rest := []) (r1 := some (.int 1)) (m1 := m) rfl ⟨?_, rfl⟩ ?_
                · refine mz_go 2 (c' := (if (nI I) < 0 then 40 else 4, [some (.ref 20), some (.int (nI I)), some (.int (nI J))], [], m)) rfl ?_
                  refine mz_ifF (show ¬ ((nI I) < 0) from (sm_nltN rfl rfl (show 0 ≤ I by omega) (show I < 2 ^ 31 by omega))) ?_
                  refine mz_go 3 (c' := (9, [some (.ref 20), some (.int (nI I)), some (.int (nI J))], [.int (m 20 2), .int (nI I)], m)) rfl ?_
                  rw [h202]
                  refine mz_go 1 (c' := (if (nI WW) ≤ (nI I) then 40 else 12, [some (.ref 20), some (.int (nI I)), some (.int (nI J))], [], m)) rfl ?_
                  refine mz_ifF (show ¬ ((nI WW) ≤ (nI I)) from (sm_nleN rfl rfl (show I < WW by omega) (show WW < 2 ^ 31 by omega))) ?_
                  refine mz_go 3 (c' := (if 6 ≤ (nI I) then 40 else 18, [some (.ref 20), some (.int (nI I)), some (.int (nI J))], [], m)) rfl ?_
                  refine mz_ifF (show ¬ (6 ≤ (nI I)) from (sm_nleN rfl rfl (show I < 6 by omega) (show 6 < 2 ^ 31 by omega))) ?_
                  refine mz_go 2 (c' := (if (nI J) < 0 then 40 else 22, [some (.ref 20), some (.int (nI I)), some (.int (nI J))], [], m)) rfl ?_
                  refine mz_ifF (show ¬ ((nI J) < 0) from (sm_nltN rfl rfl (show 0 ≤ J by omega) (show J < 2 ^ 31 by omega))) ?_
                  refine mz_go 3 (c' := (27, [some (.ref 20), some (.int (nI I)), some (.int (nI J))], [.int (m 20 3), .int (nI J)], m)) rfl ?_
                  rw [h203]
                  refine mz_go 1 (c' := (if (nI HH) ≤ (nI J) then 40 else 30, [some (.ref 20), some (.int (nI I)), some (.int (nI J))], [], m)) rfl ?_
                  refine mz_ifF (show ¬ ((nI HH) ≤ (nI J)) from (sm_nleN rfl rfl (show J < HH by omega) (show HH < 2 ^ 31 by omega))) ?_
                  refine mz_go 3 (c' := (if 6 ≤ (nI J) then 40 else 36, [some (.ref 20), some (.int (nI I)), some (.int (nI J))], [], m)) rfl ?_
                  refine mz_ifF (show ¬ (6 ≤ (nI J)) from (sm_nleN rfl rfl (show J < 6 by omega) (show 6 < 2 ^ 31 by omega))) ?_
                  refine mz_go 2 (c' := (41, [some (.ref 20), some (.int (nI I)), some (.int (nI J))], [.int 1], m)) rfl ?_
                  exact mz_ret rfl
                refine mz_go 8 (c' := (19, [some (.ref 20), some (.int (nI I)), some (.int (nI J))], [.int (((nI J) * 6) + (nI I)), .ref 21], m)) rfl ?_
                refine mz_arr (c' := (20, [some (.ref 20), some (.int (nI I)), some (.int (nI J))], [.int (m 21 ((((nI J) * 6) + (nI I)).toNatClampNeg))], m)) rfl (show mz_in (((nI J) * 6) + (nI I)) 36 = true from sm_inN (sm_addN (sm_mulN rfl rfl) rfl) (show ((J * 6) + I) < 36 by omega) (by decide)) ?_
                rw [show (((nI J) * 6) + (nI I) : Int32).toNatClampNeg = ((J * 6) + I) from sm_clN (sm_addN (sm_mulN rfl rfl) rfl) (show ((J * 6) + I) < 2 ^ 31 by omega)]
                refine mz_go 1 (c' := (25, [some (.ref 20), some (.int (nI I)), some (.int (nI J))], [.int (m 21 ((J * 6) + I))], m)) rfl ?_
                exact mz_ret rfl
              refine mz_go 7 (c' := (13, [some (.ref 20), some (.int (nI I)), some (.int (nI J)), some (.int (m 21 ((J * 6) + I)))], [.int (m 21 ((J * 6) + I)), .int (nI J), .int ((nI I) - 1), .ref 20], m)) rfl ?_
              refine mz_do (R := mz_r13) (as := [.ref 20, .int ((nI I) - 1), .int (nI J), .int (m 21 ((J * 6) + I))]) (rest := []) (r1 := some (.int ve1)) (m1 := m) rfl (Ee1.deep (by decide)) ?_
              refine mz_go 1 (c' := (if ve1 = 0 then 19 else 55, [some (.ref 20), some (.int (nI I)), some (.int (nI J)), some (.int (m 21 ((J * 6) + I)))], [], m)) rfl ?_
              refine mz_ifT q9 ?_
              refine mz_go 6 (c' := (25, [some (.ref 20), some (.int (nI I)), some (.int (nI J)), some (.int (m 21 ((J * 6) + I)))], [.int (m 21 ((J * 6) + I)), .int (nI J), .int ((nI I) + 1), .ref 20], m)) rfl ?_
              refine mz_do (R := mz_r13) (as := [.ref 20, .int ((nI I) + 1), .int (nI J), .int (m 21 ((J * 6) + I))]) (rest := []) (r1 := some (.int ve2)) (m1 := m) rfl (Ee2.deep (by decide)) ?_
              refine mz_go 1 (c' := (if ve2 = 0 then 31 else 55, [some (.ref 20), some (.int (nI I)), some (.int (nI J)), some (.int (m 21 ((J * 6) + I)))], [], m)) rfl ?_
              refine mz_ifT q10 ?_
              refine mz_go 5 (c' := (36, [some (.ref 20), some (.int (nI I)), some (.int (nI J)), some (.int (m 21 ((J * 6) + I)))], [.int ((nI J) - 1), .int (nI I), .ref 20], m)) rfl ?_
              rw [show nI J - 1 = -1 from by rw [show J = 0 by omega]; decide]
              refine mz_go 1 (c' := (37, [some (.ref 20), some (.int (nI I)), some (.int (nI J)), some (.int (m 21 ((J * 6) + I)))], [.int (m 21 ((J * 6) + I)), .int (-1), .int (nI I), .ref 20], m)) rfl ?_
              refine mz_do (R := mz_r13) (as := [.ref 20, .int (nI I), .int (-1), .int (m 21 ((J * 6) + I))]) (rest := []) (r1 := some (.int ve3)) (m1 := m) rfl (Ee3.deep (by decide)) ?_
              refine mz_go 1 (c' := (if ve3 = 0 then 43 else 55, [some (.ref 20), some (.int (nI I)), some (.int (nI J)), some (.int (m 21 ((J * 6) + I)))], [], m)) rfl ?_
              refine mz_ifT q12 ?_
              refine mz_go 6 (c' := (49, [some (.ref 20), some (.int (nI I)), some (.int (nI J)), some (.int (m 21 ((J * 6) + I)))], [.int (m 21 ((J * 6) + I)), .int ((nI J) + 1), .int (nI I), .ref 20], m)) rfl ?_
              refine mz_do (R := mz_r13) (as := [.ref 20, .int (nI I), .int ((nI J) + 1), .int (m 21 ((J * 6) + I))]) (rest := []) (r1 := some (.int ve4)) (m1 := m) rfl (Ee4.deep (by decide)) ?_
              refine mz_go 1 (c' := (if ve4 = 0 then 59 else 55, [some (.ref 20), some (.int (nI I)), some (.int (nI J)), some (.int (m 21 ((J * 6) + I)))], [], m)) rfl ?_
              refine mz_ifT q13 ?_
              refine mz_go 1 (c' := (60, [some (.ref 20), some (.int (nI I)), some (.int (nI J)), some (.int (m 21 ((J * 6) + I)))], [.int 0], m)) rfl ?_
              exact mz_ret rfl
            · refine ⟨1, ⟨?_, rfl⟩, (by unfold vq_ed; rw [← Pe1, if_pos q9]; rw [← Pe2, if_pos q10]; rw [vq_m1 q11]; rw [← Pe3, if_pos q12]; rw [← Pe4, if_neg q13])⟩
              refine mz_go 3 (c' := (3, [some (.ref 20), some (.int (nI I)), some (.int (nI J)), none], [.int (nI J), .int (nI I), .ref 20], m)) rfl ?_
              refine mz_do (R := mz_r7) (as := [.ref 20, .int (nI I), .int (nI J)]) (rest := []) (r1 := some (.int (m 21 ((J * 6) + I)))) (m1 := m) rfl ⟨?_, rfl⟩ ?_
              · refine mz_go 3 (c' := (3, [some (.ref 20), some (.int (nI I)), some (.int (nI J))], [.int (nI J), .int (nI I), .ref 20], m)) rfl ?_
                refine mz_do (R := mz_r4) (as := [.ref 20, .int (nI I), .int (nI J)]) (rest := []) (r1 := some (.int 1)) (m1 := m) rfl ⟨?_, rfl⟩ ?_
                · refine mz_go 2 (c' := (if (nI I) < 0 then 40 else 4, [some (.ref 20), some (.int (nI I)), some (.int (nI J))], [], m)) rfl ?_
                  refine mz_ifF (show ¬ ((nI I) < 0) from (sm_nltN rfl rfl (show 0 ≤ I by omega) (show I < 2 ^ 31 by omega))) ?_
                  refine mz_go 3 (c' := (9, [some (.ref 20), some (.int (nI I)), some (.int (nI J))], [.int (m 20 2), .int (nI I)], m)) rfl ?_
                  rw [h202]
                  refine mz_go 1 (c' := (if (nI WW) ≤ (nI I) then 40 else 12, [some (.ref 20), some (.int (nI I)), some (.int (nI J))], [], m)) rfl ?_
                  refine mz_ifF (show ¬ ((nI WW) ≤ (nI I)) from (sm_nleN rfl rfl (show I < WW by omega) (show WW < 2 ^ 31 by omega))) ?_
                  refine mz_go 3 (c' := (if 6 ≤ (nI I) then 40 else 18, [some (.ref 20), some (.int (nI I)), some (.int (nI J))], [], m)) rfl ?_
                  refine mz_ifF (show ¬ (6 ≤ (nI I)) from (sm_nleN rfl rfl (show I < 6 by omega) (show 6 < 2 ^ 31 by omega))) ?_
                  refine mz_go 2 (c' := (if (nI J) < 0 then 40 else 22, [some (.ref 20), some (.int (nI I)), some (.int (nI J))], [], m)) rfl ?_
                  refine mz_ifF (show ¬ ((nI J) < 0) from (sm_nltN rfl rfl (show 0 ≤ J by omega) (show J < 2 ^ 31 by omega))) ?_
                  refine mz_go 3 (c' := (27, [some (.ref 20), some (.int (nI I)), some (.int (nI J))], [.int (m 20 3), .int (nI J)], m)) rfl ?_
                  rw [h203]
                  refine mz_go 1 (c' := (if (nI HH) ≤ (nI J) then 40 else 30, [some (.ref 20), some (.int (nI I)), some (.int (nI J))], [], m)) rfl ?_
                  refine mz_ifF (show ¬ ((nI HH) ≤ (nI J)) from (sm_nleN rfl rfl (show J < HH by omega) (show HH < 2 ^ 31 by omega))) ?_
                  refine mz_go 3 (c' := (if 6 ≤ (nI J) then 40 else 36, [some (.ref 20), some (.int (nI I)), some (.int (nI J))], [], m)) rfl ?_
                  refine mz_ifF (show ¬ (6 ≤ (nI J)) from (sm_nleN rfl rfl (show J < 6 by omega) (show 6 < 2 ^ 31 by omega))) ?_
                  refine mz_go 2 (c' := (41, [some (.ref 20), some (.int (nI I)), some (.int (nI J))], [.int 1], m)) rfl ?_
                  exact mz_ret rfl
                refine mz_go 8 (c' := (19, [some (.ref 20), some (.int (nI I)), some (.int (nI J))], [.int (((nI J) * 6) + (nI I)), .ref 21], m)) rfl ?_
                refine mz_arr (c' := (20, [some (.ref 20), some (.int (nI I)), some (.int (nI J))], [.int (m 21 ((((nI J) * 6) + (nI I)).toNatClampNeg))], m)) rfl (show mz_in (((nI J) * 6) + (nI I)) 36 = true from sm_inN (sm_addN (sm_mulN rfl rfl) rfl) (show ((J * 6) + I) < 36 by omega) (by decide)) ?_
                rw [show (((nI J) * 6) + (nI I) : Int32).toNatClampNeg = ((J * 6) + I) from sm_clN (sm_addN (sm_mulN rfl rfl) rfl) (show ((J * 6) + I) < 2 ^ 31 by omega)]
                refine mz_go 1 (c' := (25, [some (.ref 20), some (.int (nI I)), some (.int (nI J))], [.int (m 21 ((J * 6) + I))], m)) rfl ?_
                exact mz_ret rfl
              refine mz_go 7 (c' := (13, [some (.ref 20), some (.int (nI I)), some (.int (nI J)), some (.int (m 21 ((J * 6) + I)))], [.int (m 21 ((J * 6) + I)), .int (nI J), .int ((nI I) - 1), .ref 20], m)) rfl ?_
              refine mz_do (R := mz_r13) (as := [.ref 20, .int ((nI I) - 1), .int (nI J), .int (m 21 ((J * 6) + I))]) (rest := []) (r1 := some (.int ve1)) (m1 := m) rfl (Ee1.deep (by decide)) ?_
              refine mz_go 1 (c' := (if ve1 = 0 then 19 else 55, [some (.ref 20), some (.int (nI I)), some (.int (nI J)), some (.int (m 21 ((J * 6) + I)))], [], m)) rfl ?_
              refine mz_ifT q9 ?_
              refine mz_go 6 (c' := (25, [some (.ref 20), some (.int (nI I)), some (.int (nI J)), some (.int (m 21 ((J * 6) + I)))], [.int (m 21 ((J * 6) + I)), .int (nI J), .int ((nI I) + 1), .ref 20], m)) rfl ?_
              refine mz_do (R := mz_r13) (as := [.ref 20, .int ((nI I) + 1), .int (nI J), .int (m 21 ((J * 6) + I))]) (rest := []) (r1 := some (.int ve2)) (m1 := m) rfl (Ee2.deep (by decide)) ?_
              refine mz_go 1 (c' := (if ve2 = 0 then 31 else 55, [some (.ref 20), some (.int (nI I)), some (.int (nI J)), some (.int (m 21 ((J * 6) + I)))], [], m)) rfl ?_
              refine mz_ifT q10 ?_
              refine mz_go 5 (c' := (36, [some (.ref 20), some (.int (nI I)), some (.int (nI J)), some (.int (m 21 ((J * 6) + I)))], [.int ((nI J) - 1), .int (nI I), .ref 20], m)) rfl ?_
              rw [show nI J - 1 = -1 from by rw [show J = 0 by omega]; decide]
              refine mz_go 1 (c' := (37, [some (.ref 20), some (.int (nI I)), some (.int (nI J)), some (.int (m 21 ((J * 6) + I)))], [.int (m 21 ((J * 6) + I)), .int (-1), .int (nI I), .ref 20], m)) rfl ?_
              refine mz_do (R := mz_r13) (as := [.ref 20, .int (nI I), .int (-1), .int (m 21 ((J * 6) + I))]) (rest := []) (r1 := some (.int ve3)) (m1 := m) rfl (Ee3.deep (by decide)) ?_
              refine mz_go 1 (c' := (if ve3 = 0 then 43 else 55, [some (.ref 20), some (.int (nI I)), some (.int (nI J)), some (.int (m 21 ((J * 6) + I)))], [], m)) rfl ?_
              refine mz_ifT q12 ?_
              refine mz_go 6 (c' := (49, [some (.ref 20), some (.int (nI I)), some (.int (nI J)), some (.int (m 21 ((J * 6) + I)))], [.int (m 21 ((J * 6) + I)), .int ((nI J) + 1), .int (nI I), .ref 20], m)) rfl ?_
              refine mz_do (R := mz_r13) (as := [.ref 20, .int (nI I), .int ((nI J) + 1), .int (m 21 ((J * 6) + I))]) (rest := []) (r1 := some (.int ve4)) (m1 := m) rfl (Ee4.deep (by decide)) ?_
              refine mz_go 1 (c' := (if ve4 = 0 then 59 else 55, [some (.ref 20), some (.int (nI I)), some (.int (nI J)), some (.int (m 21 ((J * 6) + I)))], [], m)) rfl ?_
              refine mz_ifF q13 ?_
              refine mz_go 2 (c' := (60, [some (.ref 20), some (.int (nI I)), some (.int (nI J)), some (.int (m 21 ((J * 6) + I)))], [.int 1], m)) rfl ?_
              exact mz_ret rfl
          · refine ⟨1, ⟨?_, rfl⟩, (by unfold vq_ed; rw [← Pe1, if_pos q9]; rw [← Pe2, if_pos q10]; rw [vq_m1 q11]; rw [← Pe3, if_neg q12])⟩
            refine mz_go 3 (c' := (3, [some (.ref 20), some (.int (nI I)), some (.int (nI J)), none], [.int (nI J), .int (nI I), .ref 20], m)) rfl ?_
            refine mz_do (R := mz_r7) (as := [.ref 20, .int (nI I), .int (nI J)]) (rest := []) (r1 := some (.int (m 21 ((J * 6) + I)))) (m1 := m) rfl ⟨?_, rfl⟩ ?_
            · refine mz_go 3 (c' := (3, [some (.ref 20), some (.int (nI I)), some (.int (nI J))], [.int (nI J), .int (nI I), .ref 20], m)) rfl ?_
              refine mz_do (R := mz_r4) (as := [.ref 20, .int (nI I), .int (nI J)]) (rest := []) (r1 := some (.int 1)) (m1 := m) rfl ⟨?_, rfl⟩ ?_
              · refine mz_go 2 (c' := (if (nI I) < 0 then 40 else 4, [some (.ref 20), some (.int (nI I)), some (.int (nI J))], [], m)) rfl ?_
                refine mz_ifF (show ¬ ((nI I) < 0) from (sm_nltN rfl rfl (show 0 ≤ I by omega) (show I < 2 ^ 31 by omega))) ?_
                refine mz_go 3 (c' := (9, [some (.ref 20), some (.int (nI I)), some (.int (nI J))], [.int (m 20 2), .int (nI I)], m)) rfl ?_
                rw [h202]
                refine mz_go 1 (c' := (if (nI WW) ≤ (nI I) then 40 else 12, [some (.ref 20), some (.int (nI I)), some (.int (nI J))], [], m)) rfl ?_
                refine mz_ifF (show ¬ ((nI WW) ≤ (nI I)) from (sm_nleN rfl rfl (show I < WW by omega) (show WW < 2 ^ 31 by omega))) ?_
                refine mz_go 3 (c' := (if 6 ≤ (nI I) then 40 else 18, [some (.ref 20), some (.int (nI I)), some (.int (nI J))], [], m)) rfl ?_
                refine mz_ifF (show ¬ (6 ≤ (nI I)) from (sm_nleN rfl rfl (show I < 6 by omega) (show 6 < 2 ^ 31 by omega))) ?_
                refine mz_go 2 (c' := (if (nI J) < 0 then 40 else 22, [some (.ref 20), some (.int (nI I)), some (.int (nI J))], [], m)) rfl ?_
                refine mz_ifF (show ¬ ((nI J) < 0) from (sm_nltN rfl rfl (show 0 ≤ J by omega) (show J < 2 ^ 31 by omega))) ?_
                refine mz_go 3 (c' := (27, [some (.ref 20), some (.int (nI I)), some (.int (nI J))], [.int (m 20 3), .int (nI J)], m)) rfl ?_
                rw [h203]
                refine mz_go 1 (c' := (if (nI HH) ≤ (nI J) then 40 else 30, [some (.ref 20), some (.int (nI I)), some (.int (nI J))], [], m)) rfl ?_
                refine mz_ifF (show ¬ ((nI HH) ≤ (nI J)) from (sm_nleN rfl rfl (show J < HH by omega) (show HH < 2 ^ 31 by omega))) ?_
                refine mz_go 3 (c' := (if 6 ≤ (nI J) then 40 else 36, [some (.ref 20), some (.int (nI I)), some (.int (nI J))], [], m)) rfl ?_
                refine mz_ifF (show ¬ (6 ≤ (nI J)) from (sm_nleN rfl rfl (show J < 6 by omega) (show 6 < 2 ^ 31 by omega))) ?_
                refine mz_go 2 (c' := (41, [some (.ref 20), some (.int (nI I)), some (.int (nI J))], [.int 1], m)) rfl ?_
                exact mz_ret rfl
              refine mz_go 8 (c' := (19, [some (.ref 20), some (.int (nI I)), some (.int (nI J))], [.int (((nI J) * 6) + (nI I)), .ref 21], m)) rfl ?_
              refine mz_arr (c' := (20, [some (.ref 20), some (.int (nI I)), some (.int (nI J))], [.int (m 21 ((((nI J) * 6) + (nI I)).toNatClampNeg))], m)) rfl (show mz_in (((nI J) * 6) + (nI I)) 36 = true from sm_inN (sm_addN (sm_mulN rfl rfl) rfl) (show ((J * 6) + I) < 36 by omega) (by decide)) ?_
              rw [show (((nI J) * 6) + (nI I) : Int32).toNatClampNeg = ((J * 6) + I) from sm_clN (sm_addN (sm_mulN rfl rfl) rfl) (show ((J * 6) + I) < 2 ^ 31 by omega)]
              refine mz_go 1 (c' := (25, [some (.ref 20), some (.int (nI I)), some (.int (nI J))], [.int (m 21 ((J * 6) + I))], m)) rfl ?_
              exact mz_ret rfl
            refine mz_go 7 (c' := (13, [some (.ref 20), some (.int (nI I)), some (.int (nI J)), some (.int (m 21 ((J * 6) + I)))], [.int (m 21 ((J * 6) + I)), .int (nI J), .int ((nI I) - 1), .ref 20], m)) rfl ?_
            refine mz_do (R := mz_r13) (as := [.ref 20, .int ((nI I) - 1), .int (nI J), .int (m 21 ((J * 6) + I))]) (rest := []) (r1 := some (.int ve1)) (m1 := m) rfl (Ee1.deep (by decide)) ?_
            refine mz_go 1 (c' := (if ve1 = 0 then 19 else 55, [some (.ref 20), some (.int (nI I)), some (.int (nI J)), some (.int (m 21 ((J * 6) + I)))], [], m)) rfl ?_
            refine mz_ifT q9 ?_
            refine mz_go 6 (c' := (25, [some (.ref 20), some (.int (nI I)), some (.int (nI J)), some (.int (m 21 ((J * 6) + I)))], [.int (m 21 ((J * 6) + I)), .int (nI J), .int ((nI I) + 1), .ref 20], m)) rfl ?_
            refine mz_do (R := mz_r13) (as := [.ref 20, .int ((nI I) + 1), .int (nI J), .int (m 21 ((J * 6) + I))]) (rest := []) (r1 := some (.int ve2)) (m1 := m) rfl (Ee2.deep (by decide)) ?_
            refine mz_go 1 (c' := (if ve2 = 0 then 31 else 55, [some (.ref 20), some (.int (nI I)), some (.int (nI J)), some (.int (m 21 ((J * 6) + I)))], [], m)) rfl ?_
            refine mz_ifT q10 ?_
            refine mz_go 5 (c' := (36, [some (.ref 20), some (.int (nI I)), some (.int (nI J)), some (.int (m 21 ((J * 6) + I)))], [.int ((nI J) - 1), .int (nI I), .ref 20], m)) rfl ?_
            rw [show nI J - 1 = -1 from by rw [show J = 0 by omega]; decide]
            refine mz_go 1 (c' := (37, [some (.ref 20), some (.int (nI I)), some (.int (nI J)), some (.int (m 21 ((J * 6) + I)))], [.int (m 21 ((J * 6) + I)), .int (-1), .int (nI I), .ref 20], m)) rfl ?_
            refine mz_do (R := mz_r13) (as := [.ref 20, .int (nI I), .int (-1), .int (m 21 ((J * 6) + I))]) (rest := []) (r1 := some (.int ve3)) (m1 := m) rfl (Ee3.deep (by decide)) ?_
            refine mz_go 1 (c' := (if ve3 = 0 then 43 else 55, [some (.ref 20), some (.int (nI I)), some (.int (nI J)), some (.int (m 21 ((J * 6) + I)))], [], m)) rfl ?_
            refine mz_ifF q12 ?_
            refine mz_go 2 (c' := (60, [some (.ref 20), some (.int (nI I)), some (.int (nI J)), some (.int (m 21 ((J * 6) + I)))], [.int 1], m)) rfl ?_
            exact mz_ret rfl
        · obtain ⟨ve3, Ee3, Pe3⟩ := vc_oth (m := m) hWW hHH h202 h203 (nI I) ((nI J) - 1) (m 21 ((J * 6) + I))
          by_cases q14 : ve3 = 0
          · obtain ⟨ve4, Ee4, Pe4⟩ := vc_oth (m := m) hWW hHH h202 h203 (nI I) ((nI J) + 1) (m 21 ((J * 6) + I))
            by_cases q15 : ve4 = 0
            · refine ⟨0, ⟨?_, rfl⟩, (by unfold vq_ed; rw [← Pe1, if_pos q9]; rw [← Pe2, if_pos q10]; rw [← Pe3, if_pos q14]; rw [← Pe4, if_pos q15])⟩
              refine mz_go 3 (c' := (3, [some (.ref 20), some (.int (nI I)), some (.int (nI J)), none], [.int (nI J), .int (nI I), .ref 20], m)) rfl ?_
              refine mz_do (R := mz_r7) (as := [.ref 20, .int (nI I), .int (nI J)]) (rest := []) (r1 := some (.int (m 21 ((J * 6) + I)))) (m1 := m) rfl ⟨?_, rfl⟩ ?_
              · refine mz_go 3 (c' := (3, [some (.ref 20), some (.int (nI I)), some (.int (nI J))], [.int (nI J), .int (nI I), .ref 20], m)) rfl ?_
                refine mz_do (R := mz_r4) (as := [.ref 20, .int (nI I), .int (nI J)]) (rest := []) (r1 := some (.int 1)) (m1 := m) rfl ⟨?_, rfl⟩ ?_
                · refine mz_go 2 (c' := (if (nI I) < 0 then 40 else 4, [some (.ref 20), some (.int (nI I)), some (.int (nI J))], [], m)) rfl ?_
                  refine mz_ifF (show ¬ ((nI I) < 0) from (sm_nltN rfl rfl (show 0 ≤ I by omega) (show I < 2 ^ 31 by omega))) ?_
                  refine mz_go 3 (c' := (9, [some (.ref 20), some (.int (nI I)), some (.int (nI J))], [.int (m 20 2), .int (nI I)], m)) rfl ?_
                  rw [h202]
                  refine mz_go 1 (c' := (if (nI WW) ≤ (nI I) then 40 else 12, [some (.ref 20), some (.int (nI I)), some (.int (nI J))], [], m)) rfl ?_
                  refine mz_ifF (show ¬ ((nI WW) ≤ (nI I)) from (sm_nleN rfl rfl (show I < WW by omega) (show WW < 2 ^ 31 by omega))) ?_
                  refine mz_go 3 (c' := (if 6 ≤ (nI I) then 40 else 18, [some (.ref 20), some (.int (nI I)), some (.int (nI J))], [], m)) rfl ?_
                  refine mz_ifF (show ¬ (6 ≤ (nI I)) from (sm_nleN rfl rfl (show I < 6 by omega) (show 6 < 2 ^ 31 by omega))) ?_
                  refine mz_go 2 (c' := (if (nI J) < 0 then 40 else 22, [some (.ref 20), some (.int (nI I)), some (.int (nI J))], [], m)) rfl ?_
                  refine mz_ifF (show ¬ ((nI J) < 0) from (sm_nltN rfl rfl (show 0 ≤ J by omega) (show J < 2 ^ 31 by omega))) ?_
                  refine mz_go 3 (c' := (27, [some (.ref 20), some (.int (nI I)), some (.int (nI J))], [.int (m 20 3), .int (nI J)], m)) rfl ?_
                  rw [h203]
                  refine mz_go 1 (c' := (if (nI HH) ≤ (nI J) then 40 else 30, [some (.ref 20), some (.int (nI I)), some (.int (nI J))], [], m)) rfl ?_
                  refine mz_ifF (show ¬ ((nI HH) ≤ (nI J)) from (sm_nleN rfl rfl (show J < HH by omega) (show HH < 2 ^ 31 by omega))) ?_
                  refine mz_go 3 (c' := (if 6 ≤ (nI J) then 40 else 36, [some (.ref 20), some (.int (nI I)), some (.int (nI J))], [], m)) rfl ?_
                  refine mz_ifF (show ¬ (6 ≤ (nI J)) from (sm_nleN rfl rfl (show J < 6 by omega) (show 6 < 2 ^ 31 by omega))) ?_
                  refine mz_go 2 (c' := (41, [some (.ref 20), some (.int (nI I)), some (.int (nI J))], [.int 1], m)) rfl ?_
                  exact mz_ret rfl
                refine mz_go 8 (c' := (19, [some (.ref 20), some (.int (nI I)), some (.int (nI J))], [.int (((nI J) * 6) + (nI I)), .ref 21], m)) rfl ?_
                refine mz_arr (c' := (20, [some (.ref 20), some (.int (nI I)), some (.int (nI J))], [.int (m 21 ((((nI J) * 6) + (nI I)).toNatClampNeg))], m)) rfl (show mz_in (((nI J) * 6) + (nI I)) 36 = true from sm_inN (sm_addN (sm_mulN rfl rfl) rfl) (show ((J * 6) + I) < 36 by omega) (by decide)) ?_
                rw [show (((nI J) * 6) + (nI I) : Int32).toNatClampNeg = ((J * 6) + I) from sm_clN (sm_addN (sm_mulN rfl rfl) rfl) (show ((J * 6) + I) < 2 ^ 31 by omega)]
                refine mz_go 1 (c' := (25, [some (.ref 20), some (.int (nI I)), some (.int (nI J))], [.int (m 21 ((J * 6) + I))], m)) rfl ?_
                exact mz_ret rfl
              refine mz_go 7 (c' := (13, [some (.ref 20), some (.int (nI I)), some (.int (nI J)), some (.int (m 21 ((J * 6) + I)))], [.int (m 21 ((J * 6) + I)), .int (nI J), .int ((nI I) - 1), .ref 20], m)) rfl ?_
              refine mz_do (R := mz_r13) (as := [.ref 20, .int ((nI I) - 1), .int (nI J), .int (m 21 ((J * 6) + I))]) (rest := []) (r1 := some (.int ve1)) (m1 := m) rfl (Ee1.deep (by decide)) ?_
              refine mz_go 1 (c' := (if ve1 = 0 then 19 else 55, [some (.ref 20), some (.int (nI I)), some (.int (nI J)), some (.int (m 21 ((J * 6) + I)))], [], m)) rfl ?_
              refine mz_ifT q9 ?_
              refine mz_go 6 (c' := (25, [some (.ref 20), some (.int (nI I)), some (.int (nI J)), some (.int (m 21 ((J * 6) + I)))], [.int (m 21 ((J * 6) + I)), .int (nI J), .int ((nI I) + 1), .ref 20], m)) rfl ?_
              refine mz_do (R := mz_r13) (as := [.ref 20, .int ((nI I) + 1), .int (nI J), .int (m 21 ((J * 6) + I))]) (rest := []) (r1 := some (.int ve2)) (m1 := m) rfl (Ee2.deep (by decide)) ?_
              refine mz_go 1 (c' := (if ve2 = 0 then 31 else 55, [some (.ref 20), some (.int (nI I)), some (.int (nI J)), some (.int (m 21 ((J * 6) + I)))], [], m)) rfl ?_
              refine mz_ifT q10 ?_
              refine mz_go 6 (c' := (37, [some (.ref 20), some (.int (nI I)), some (.int (nI J)), some (.int (m 21 ((J * 6) + I)))], [.int (m 21 ((J * 6) + I)), .int ((nI J) - 1), .int (nI I), .ref 20], m)) rfl ?_
              refine mz_do (R := mz_r13) (as := [.ref 20, .int (nI I), .int ((nI J) - 1), .int (m 21 ((J * 6) + I))]) (rest := []) (r1 := some (.int ve3)) (m1 := m) rfl (Ee3.deep (by decide)) ?_
              refine mz_go 1 (c' := (if ve3 = 0 then 43 else 55, [some (.ref 20), some (.int (nI I)), some (.int (nI J)), some (.int (m 21 ((J * 6) + I)))], [], m)) rfl ?_
              refine mz_ifT q14 ?_
              refine mz_go 6 (c' := (49, [some (.ref 20), some (.int (nI I)), some (.int (nI J)), some (.int (m 21 ((J * 6) + I)))], [.int (m 21 ((J * 6) + I)), .int ((nI J) + 1), .int (nI I), .ref 20], m)) rfl ?_
              refine mz_do (R := mz_r13) (as := [.ref 20, .int (nI I), .int ((nI J) + 1), .int (m 21 ((J * 6) + I))]) (rest := []) (r1 := some (.int ve4)) (m1 := m) rfl (Ee4.deep (by decide)) ?_
              refine mz_go 1 (c' := (if ve4 = 0 then 59 else 55, [some (.ref 20), some (.int (nI I)), some (.int (nI J)), some (.int (m 21 ((J * 6) + I)))], [], m)) rfl ?_
              refine mz_ifT q15 ?_
              refine mz_go 1 (c' := (60, [some (.ref 20), some (.int (nI I)), some (.int (nI J)), some (.int (m 21 ((J * 6) + I)))], [.int 0], m)) rfl ?_
              exact mz_ret rfl
            · refine ⟨1, ⟨?_, rfl⟩, (by unfold vq_ed; rw [← Pe1, if_pos q9]; rw [← Pe2, if_pos q10]; rw [← Pe3, if_pos q14]; rw [← Pe4, if_neg q15])⟩
              refine mz_go 3 (c' := (3, [some (.ref 20), some (.int (nI I)), some (.int (nI J)), none], [.int (nI J), .int (nI I), .ref 20], m)) rfl ?_
              refine mz_do (R := mz_r7) (as := [.ref 20, .int (nI I), .int (nI J)]) (rest := []) (r1 := some (.int (m 21 ((J * 6) + I)))) (m1 := m) rfl ⟨?_, rfl⟩ ?_
              · refine mz_go 3 (c' := (3, [some (.ref 20), some (.int (nI I)), some (.int (nI J))], [.int (nI J), .int (nI I), .ref 20], m)) rfl ?_
                refine mz_do (R := mz_r4) (as := [.ref 20, .int (nI I), .int (nI J)]) (rest := []) (r1 := some (.int 1)) (m1 := m) rfl ⟨?_, rfl⟩ ?_
                · refine mz_go 2 (c' := (if (nI I) < 0 then 40 else 4, [some (.ref 20), some (.int (nI I)), some (.int (nI J))], [], m)) rfl ?_
                  refine mz_ifF (show ¬ ((nI I) < 0) from (sm_nltN rfl rfl (show 0 ≤ I by omega) (show I < 2 ^ 31 by omega))) ?_
                  refine mz_go 3 (c' := (9, [some (.ref 20), some (.int (nI I)), some (.int (nI J))], [.int (m 20 2), .int (nI I)], m)) rfl ?_
                  rw [h202]
                  refine mz_go 1 (c' := (if (nI WW) ≤ (nI I) then 40 else 12, [some (.ref 20), some (.int (nI I)), some (.int (nI J))], [], m)) rfl ?_
                  refine mz_ifF (show ¬ ((nI WW) ≤ (nI I)) from (sm_nleN rfl rfl (show I < WW by omega) (show WW < 2 ^ 31 by omega))) ?_
                  refine mz_go 3 (c' := (if 6 ≤ (nI I) then 40 else 18, [some (.ref 20), some (.int (nI I)), some (.int (nI J))], [], m)) rfl ?_
                  refine mz_ifF (show ¬ (6 ≤ (nI I)) from (sm_nleN rfl rfl (show I < 6 by omega) (show 6 < 2 ^ 31 by omega))) ?_
                  refine mz_go 2 (c' := (if (nI J) < 0 then 40 else 22, [some (.ref 20), some (.int (nI I)), some (.int (nI J))], [], m)) rfl ?_
                  refine mz_ifF (show ¬ ((nI J) < 0) from (sm_nltN rfl rfl (show 0 ≤ J by omega) (show J < 2 ^ 31 by omega))) ?_
                  refine mz_go 3 (c' := (27, [some (.ref 20), some (.int (nI I)), some (.int (nI J))], [.int (m 20 3), .int (nI J)], m)) rfl ?_
                  rw [h203]
                  refine mz_go 1 (c' := (if (nI HH) ≤ (nI J) then 40 else 30, [some (.ref 20), some (.int (nI I)), some (.int (nI J))], [], m)) rfl ?_
                  refine mz_ifF (show ¬ ((nI HH) ≤ (nI J)) from (sm_nleN rfl rfl (show J < HH by omega) (show HH < 2 ^ 31 by omega))) ?_
                  refine mz_go 3 (c' := (if 6 ≤ (nI J) then 40 else 36, [some (.ref 20), some (.int (nI I)), some (.int (nI J))], [], m)) rfl ?_
                  refine mz_ifF (show ¬ (6 ≤ (nI J)) from (sm_nleN rfl rfl (show J < 6 by omega) (show 6 < 2 ^ 31 by omega))) ?_
                  refine mz_go 2 (c' := (41, [some (.ref 20), some (.int (nI I)), some (.int (nI J))], [.int 1], m)) rfl ?_
                  exact mz_ret rfl
                refine mz_go 8 (c' := (19, [some (.ref 20), some (.int (nI I)), some (.int (nI J))], [.int (((nI J) * 6) + (nI I)), .ref 21], m)) rfl ?_
                refine mz_arr (c' := (20, [some (.ref 20), some (.int (nI I)), some (.int (nI J))], [.int (m 21 ((((nI J) * 6) + (nI I)).toNatClampNeg))], m)) rfl (show mz_in (((nI J) * 6) + (nI I)) 36 = true from sm_inN (sm_addN (sm_mulN rfl rfl) rfl) (show ((J * 6) + I) < 36 by omega) (by decide)) ?_
                rw [show (((nI J) * 6) + (nI I) : Int32).toNatClampNeg = ((J * 6) + I) from sm_clN (sm_addN (sm_mulN rfl rfl) rfl) (show ((J * 6) + I) < 2 ^ 31 by omega)]
                refine mz_go 1 (c' := (25, [some (.ref 20), some (.int (nI I)), some (.int (nI J))], [.int (m 21 ((J * 6) + I))], m)) rfl ?_
                exact mz_ret rfl
              refine mz_go 7 (c' := (13, [some (.ref 20), some (.int (nI I)), some (.int (nI J)), some (.int (m 21 ((J * 6) + I)))], [.int (m 21 ((J * 6) + I)), .int (nI J), .int ((nI I) - 1), .ref 20], m)) rfl ?_
              refine mz_do (R := mz_r13) (as := [.ref 20, .int ((nI I) - 1), .int (nI J), .int (m 21 ((J * 6) + I))]) (rest := []) (r1 := some (.int ve1)) (m1 := m) rfl (Ee1.deep (by decide)) ?_
              refine mz_go 1 (c' := (if ve1 = 0 then 19 else 55, [some (.ref 20), some (.int (nI I)), some (.int (nI J)), some (.int (m 21 ((J * 6) + I)))], [], m)) rfl ?_
              refine mz_ifT q9 ?_
              refine mz_go 6 (c' := (25, [some (.ref 20), some (.int (nI I)), some (.int (nI J)), some (.int (m 21 ((J * 6) + I)))], [.int (m 21 ((J * 6) + I)), .int (nI J), .int ((nI I) + 1), .ref 20], m)) rfl ?_
              refine mz_do (R := mz_r13) (as := [.ref 20, .int ((nI I) + 1), .int (nI J), .int (m 21 ((J * 6) + I))]) (rest := []) (r1 := some (.int ve2)) (m1 := m) rfl (Ee2.deep (by decide)) ?_
              refine mz_go 1 (c' := (if ve2 = 0 then 31 else 55, [some (.ref 20), some (.int (nI I)), some (.int (nI J)), some (.int (m 21 ((J * 6) + I)))], [], m)) rfl ?_
              refine mz_ifT q10 ?_
              refine mz_go 6 (c' := (37, [some (.ref 20), some (.int (nI I)), some (.int (nI J)), some (.int (m 21 ((J * 6) + I)))], [.int (m 21 ((J * 6) + I)), .int ((nI J) - 1), .int (nI I), .ref 20], m)) rfl ?_
              refine mz_do (R := mz_r13) (as := [.ref 20, .int (nI I), .int ((nI J) - 1), .int (m 21 ((J * 6) + I))]) (rest := []) (r1 := some (.int ve3)) (m1 := m) rfl (Ee3.deep (by decide)) ?_
              refine mz_go 1 (c' := (if ve3 = 0 then 43 else 55, [some (.ref 20), some (.int (nI I)), some (.int (nI J)), some (.int (m 21 ((J * 6) + I)))], [], m)) rfl ?_
              refine mz_ifT q14 ?_
              refine mz_go 6 (c' := (49, [some (.ref 20), some (.int (nI I)), some (.int (nI J)), some (.int (m 21 ((J * 6) + I)))], [.int (m 21 ((J * 6) + I)), .int ((nI J) + 1), .int (nI I), .ref 20], m)) rfl ?_
              refine mz_do (R := mz_r13) (as := [.ref 20, .int (nI I), .int ((nI J) + 1), .int (m 21 ((J * 6) + I))]) (rest := []) (r1 := some (.int ve4)) (m1 := m) rfl (Ee4.deep (by decide)) ?_
              refine mz_go 1 (c' := (if ve4 = 0 then 59 else 55, [some (.ref 20), some (.int (nI I)), some (.int (nI J)), some (.int (m 21 ((J * 6) + I)))], [], m)) rfl ?_
              refine mz_ifF q15 ?_
              refine mz_go 2 (c' := (60, [some (.ref 20), some (.int (nI I)), some (.int (nI J)), some (.int (m 21 ((J * 6) + I)))], [.int 1], m)) rfl ?_
              exact mz_ret rfl
          · refine ⟨1, ⟨?_, rfl⟩, (by unfold vq_ed; rw [← Pe1, if_pos q9]; rw [← Pe2, if_pos q10]; rw [← Pe3, if_neg q14])⟩
            refine mz_go 3 (c' := (3, [some (.ref 20), some (.int (nI I)), some (.int (nI J)), none], [.int (nI J), .int (nI I), .ref 20], m)) rfl ?_
            refine mz_do (R := mz_r7) (as := [.ref 20, .int (nI I), .int (nI J)]) (rest := []) (r1 := some (.int (m 21 ((J * 6) + I)))) (m1 := m) rfl ⟨?_, rfl⟩ ?_
            · refine mz_go 3 (c' := (3, [some (.ref 20), some (.int (nI I)), some (.int (nI J))], [.int (nI J), .int (nI I), .ref 20], m)) rfl ?_
              refine mz_do (R := mz_r4) (as := [.ref 20, .int (nI I), .int (nI J)]) (rest := []) (r1 := some (.int 1)) (m1 := m) rfl ⟨?_, rfl⟩ ?_
              · refine mz_go 2 (c' := (if (nI I) < 0 then 40 else 4, [some (.ref 20), some (.int (nI I)), some (.int (nI J))], [], m)) rfl ?_
                refine mz_ifF (show ¬ ((nI I) < 0) from (sm_nltN rfl rfl (show 0 ≤ I by omega) (show I < 2 ^ 31 by omega))) ?_
                refine mz_go 3 (c' := (9, [some (.ref 20), some (.int (nI I)), some (.int (nI J))], [.int (m 20 2), .int (nI I)], m)) rfl ?_
                rw [h202]
                refine mz_go 1 (c' := (if (nI WW) ≤ (nI I) then 40 else 12, [some (.ref 20), some (.int (nI I)), some (.int (nI J))], [], m)) rfl ?_
                refine mz_ifF (show ¬ ((nI WW) ≤ (nI I)) from (sm_nleN rfl rfl (show I < WW by omega) (show WW < 2 ^ 31 by omega))) ?_
                refine mz_go 3 (c' := (if 6 ≤ (nI I) then 40 else 18, [some (.ref 20), some (.int (nI I)), some (.int (nI J))], [], m)) rfl ?_
                refine mz_ifF (show ¬ (6 ≤ (nI I)) from (sm_nleN rfl rfl (show I < 6 by omega) (show 6 < 2 ^ 31 by omega))) ?_
                refine mz_go 2 (c' := (if (nI J) < 0 then 40 else 22, [some (.ref 20), some (.int (nI I)), some (.int (nI J))], [], m)) rfl ?_
                refine mz_ifF (show ¬ ((nI J) < 0) from (sm_nltN rfl rfl (show 0 ≤ J by omega) (show J < 2 ^ 31 by omega))) ?_
                refine mz_go 3 (c' := (27, [some (.ref 20), some (.int (nI I)), some (.int (nI J))], [.int (m 20 3), .int (nI J)], m)) rfl ?_
                rw [h203]
                refine mz_go 1 (c' := (if (nI HH) ≤ (nI J) then 40 else 30, [some (.ref 20), some (.int (nI I)), some (.int (nI J))], [], m)) rfl ?_
                refine mz_ifF (show ¬ ((nI HH) ≤ (nI J)) from (sm_nleN rfl rfl (show J < HH by omega) (show HH < 2 ^ 31 by omega))) ?_
                refine mz_go 3 (c' := (if 6 ≤ (nI J) then 40 else 36, [some (.ref 20), some (.int (nI I)), some (.int (nI J))], [], m)) rfl ?_
                refine mz_ifF (show ¬ (6 ≤ (nI J)) from (sm_nleN rfl rfl (show J < 6 by omega) (show 6 < 2 ^ 31 by omega))) ?_
                refine mz_go 2 (c' := (41, [some (.ref 20), some (.int (nI I)), some (.int (nI J))], [.int 1], m)) rfl ?_
                exact mz_ret rfl
              refine mz_go 8 (c' := (19, [some (.ref 20), some (.int (nI I)), some (.int (nI J))], [.int (((nI J) * 6) + (nI I)), .ref 21], m)) rfl ?_
              refine mz_arr (c' := (20, [some (.ref 20), some (.int (nI I)), some (.int (nI J))], [.int (m 21 ((((nI J) * 6) + (nI I)).toNatClampNeg))], m)) rfl (show mz_in (((nI J) * 6) + (nI I)) 36 = true from sm_inN (sm_addN (sm_mulN rfl rfl) rfl) (show ((J * 6) + I) < 36 by omega) (by decide)) ?_
              rw [show (((nI J) * 6) + (nI I) : Int32).toNatClampNeg = ((J * 6) + I) from sm_clN (sm_addN (sm_mulN rfl rfl) rfl) (show ((J * 6) + I) < 2 ^ 31 by omega)]
              refine mz_go 1 (c' := (25, [some (.ref 20), some (.int (nI I)), some (.int (nI J))], [.int (m 21 ((J * 6) + I))], m)) rfl ?_
              exact mz_ret rfl
            refine mz_go 7 (c' := (13, [some (.ref 20), some (.int (nI I)), some (.int (nI J)), some (.int (m 21 ((J * 6) + I)))], [.int (m 21 ((J * 6) + I)), .int (nI J), .int ((nI I) - 1), .ref 20], m)) rfl ?_
            refine mz_do (R := mz_r13) (as := [.ref 20, .int ((nI I) - 1), .int (nI J), .int (m 21 ((J * 6) + I))]) (rest := []) (r1 := some (.int ve1)) (m1 := m) rfl (Ee1.deep (by decide)) ?_
            refine mz_go 1 (c' := (if ve1 = 0 then 19 else 55, [some (.ref 20), some (.int (nI I)), some (.int (nI J)), some (.int (m 21 ((J * 6) + I)))], [], m)) rfl ?_
            refine mz_ifT q9 ?_
            refine mz_go 6 (c' := (25, [some (.ref 20), some (.int (nI I)), some (.int (nI J)), some (.int (m 21 ((J * 6) + I)))], [.int (m 21 ((J * 6) + I)), .int (nI J), .int ((nI I) + 1), .ref 20], m)) rfl ?_
            refine mz_do (R := mz_r13) (as := [.ref 20, .int ((nI I) + 1), .int (nI J), .int (m 21 ((J * 6) + I))]) (rest := []) (r1 := some (.int ve2)) (m1 := m) rfl (Ee2.deep (by decide)) ?_
            refine mz_go 1 (c' := (if ve2 = 0 then 31 else 55, [some (.ref 20), some (.int (nI I)), some (.int (nI J)), some (.int (m 21 ((J * 6) + I)))], [], m)) rfl ?_
            refine mz_ifT q10 ?_
            refine mz_go 6 (c' := (37, [some (.ref 20), some (.int (nI I)), some (.int (nI J)), some (.int (m 21 ((J * 6) + I)))], [.int (m 21 ((J * 6) + I)), .int ((nI J) - 1), .int (nI I), .ref 20], m)) rfl ?_
            refine mz_do (R := mz_r13) (as := [.ref 20, .int (nI I), .int ((nI J) - 1), .int (m 21 ((J * 6) + I))]) (rest := []) (r1 := some (.int ve3)) (m1 := m) rfl (Ee3.deep (by decide)) ?_
            refine mz_go 1 (c' := (if ve3 = 0 then 43 else 55, [some (.ref 20), some (.int (nI I)), some (.int (nI J)), some (.int (m 21 ((J * 6) + I)))], [], m)) rfl ?_
            refine mz_ifF q14 ?_
            refine mz_go 2 (c' := (60, [some (.ref 20), some (.int (nI I)), some (.int (nI J)), some (.int (m 21 ((J * 6) + I)))], [.int 1], m)) rfl ?_
            exact mz_ret rfl
      · refine ⟨1, ⟨?_, rfl⟩, (by unfold vq_ed; rw [← Pe1, if_pos q9]; rw [← Pe2, if_neg q10])⟩
        refine mz_go 3 (c' := (3, [some (.ref 20), some (.int (nI I)), some (.int (nI J)), none], [.int (nI J), .int (nI I), .ref 20], m)) rfl ?_
        refine mz_do (R := mz_r7) (as := [.ref 20, .int (nI I), .int (nI J)]) (rest := []) (r1 := some (.int (m 21 ((J * 6) + I)))) (m1 := m) rfl ⟨?_, rfl⟩ ?_
        · refine mz_go 3 (c' := (3, [some (.ref 20), some (.int (nI I)), some (.int (nI J))], [.int (nI J), .int (nI I), .ref 20], m)) rfl ?_
          refine mz_do (R := mz_r4) (as := [.ref 20, .int (nI I), .int (nI J)]) (rest := []) (r1 := some (.int 1)) (m1 := m) rfl ⟨?_, rfl⟩ ?_
          · refine mz_go 2 (c' := (if (nI I) < 0 then 40 else 4, [some (.ref 20), some (.int (nI I)), some (.int (nI J))], [], m)) rfl ?_
            refine mz_ifF (show ¬ ((nI I) < 0) from (sm_nltN rfl rfl (show 0 ≤ I by omega) (show I < 2 ^ 31 by omega))) ?_
            refine mz_go 3 (c' := (9, [some (.ref 20), some (.int (nI I)), some (.int (nI J))], [.int (m 20 2), .int (nI I)], m)) rfl ?_
            rw [h202]
            refine mz_go 1 (c' := (if (nI WW) ≤ (nI I) then 40 else 12, [some (.ref 20), some (.int (nI I)), some (.int (nI J))], [], m)) rfl ?_
            refine mz_ifF (show ¬ ((nI WW) ≤ (nI I)) from (sm_nleN rfl rfl (show I < WW by omega) (show WW < 2 ^ 31 by omega))) ?_
            refine mz_go 3 (c' := (if 6 ≤ (nI I) then 40 else 18, [some (.ref 20), some (.int (nI I)), some (.int (nI J))], [], m)) rfl ?_
            refine mz_ifF (show ¬ (6 ≤ (nI I)) from (sm_nleN rfl rfl (show I < 6 by omega) (show 6 < 2 ^ 31 by omega))) ?_
            refine mz_go 2 (c' := (if (nI J) < 0 then 40 else 22, [some (.ref 20), some (.int (nI I)), some (.int (nI J))], [], m)) rfl ?_
            refine mz_ifF (show ¬ ((nI J) < 0) from (sm_nltN rfl rfl (show 0 ≤ J by omega) (show J < 2 ^ 31 by omega))) ?_
            refine mz_go 3 (c' := (27, [some (.ref 20), some (.int (nI I)), some (.int (nI J))], [.int (m 20 3), .int (nI J)], m)) rfl ?_
            rw [h203]
            refine mz_go 1 (c' := (if (nI HH) ≤ (nI J) then 40 else 30, [some (.ref 20), some (.int (nI I)), some (.int (nI J))], [], m)) rfl ?_
            refine mz_ifF (show ¬ ((nI HH) ≤ (nI J)) from (sm_nleN rfl rfl (show J < HH by omega) (show HH < 2 ^ 31 by omega))) ?_
            refine mz_go 3 (c' := (if 6 ≤ (nI J) then 40 else 36, [some (.ref 20), some (.int (nI I)), some (.int (nI J))], [], m)) rfl ?_
            refine mz_ifF (show ¬ (6 ≤ (nI J)) from (sm_nleN rfl rfl (show J < 6 by omega) (show 6 < 2 ^ 31 by omega))) ?_
            refine mz_go 2 (c' := (41, [some (.ref 20), some (.int (nI I)), some (.int (nI J))], [.int 1], m)) rfl ?_
            exact mz_ret rfl
          refine mz_go 8 (c' := (19, [some (.ref 20), some (.int (nI I)), some (.int (nI J))], [.int (((nI J) * 6) + (nI I)), .ref 21], m)) rfl ?_
          refine mz_arr (c' := (20, [some (.ref 20), some (.int (nI I)), some (.int (nI J))], [.int (m 21 ((((nI J) * 6) + (nI I)).toNatClampNeg))], m)) rfl (show mz_in (((nI J) * 6) + (nI I)) 36 = true from sm_inN (sm_addN (sm_mulN rfl rfl) rfl) (show ((J * 6) + I) < 36 by omega) (by decide)) ?_
          rw [show (((nI J) * 6) + (nI I) : Int32).toNatClampNeg = ((J * 6) + I) from sm_clN (sm_addN (sm_mulN rfl rfl) rfl) (show ((J * 6) + I) < 2 ^ 31 by omega)]
          refine mz_go 1 (c' := (25, [some (.ref 20), some (.int (nI I)), some (.int (nI J))], [.int (m 21 ((J * 6) + I))], m)) rfl ?_
          exact mz_ret rfl
        refine mz_go 7 (c' := (13, [some (.ref 20), some (.int (nI I)), some (.int (nI J)), some (.int (m 21 ((J * 6) + I)))], [.int (m 21 ((J * 6) + I)), .int (nI J), .int ((nI I) - 1), .ref 20], m)) rfl ?_
        refine mz_do (R := mz_r13) (as := [.ref 20, .int ((nI I) - 1), .int (nI J), .int (m 21 ((J * 6) + I))]) (rest := []) (r1 := some (.int ve1)) (m1 := m) rfl (Ee1.deep (by decide)) ?_
        refine mz_go 1 (c' := (if ve1 = 0 then 19 else 55, [some (.ref 20), some (.int (nI I)), some (.int (nI J)), some (.int (m 21 ((J * 6) + I)))], [], m)) rfl ?_
        refine mz_ifT q9 ?_
        refine mz_go 6 (c' := (25, [some (.ref 20), some (.int (nI I)), some (.int (nI J)), some (.int (m 21 ((J * 6) + I)))], [.int (m 21 ((J * 6) + I)), .int (nI J), .int ((nI I) + 1), .ref 20], m)) rfl ?_
        refine mz_do (R := mz_r13) (as := [.ref 20, .int ((nI I) + 1), .int (nI J), .int (m 21 ((J * 6) + I))]) (rest := []) (r1 := some (.int ve2)) (m1 := m) rfl (Ee2.deep (by decide)) ?_
        refine mz_go 1 (c' := (if ve2 = 0 then 31 else 55, [some (.ref 20), some (.int (nI I)), some (.int (nI J)), some (.int (m 21 ((J * 6) + I)))], [], m)) rfl ?_
        refine mz_ifF q10 ?_
        refine mz_go 2 (c' := (60, [some (.ref 20), some (.int (nI I)), some (.int (nI J)), some (.int (m 21 ((J * 6) + I)))], [.int 1], m)) rfl ?_
        exact mz_ret rfl
    · refine ⟨1, ⟨?_, rfl⟩, (by unfold vq_ed; rw [← Pe1, if_neg q9])⟩
      refine mz_go 3 (c' := (3, [some (.ref 20), some (.int (nI I)), some (.int (nI J)), none], [.int (nI J), .int (nI I), .ref 20], m)) rfl ?_
      refine mz_do (R := mz_r7) (as := [.ref 20, .int (nI I), .int (nI J)]) (rest := []) (r1 := some (.int (m 21 ((J * 6) + I)))) (m1 := m) rfl ⟨?_, rfl⟩ ?_
      · refine mz_go 3 (c' := (3, [some (.ref 20), some (.int (nI I)), some (.int (nI J))], [.int (nI J), .int (nI I), .ref 20], m)) rfl ?_
        refine mz_do (R := mz_r4) (as := [.ref 20, .int (nI I), .int (nI J)]) (rest := []) (r1 := some (.int 1)) (m1 := m) rfl ⟨?_, rfl⟩ ?_
        · refine mz_go 2 (c' := (if (nI I) < 0 then 40 else 4, [some (.ref 20), some (.int (nI I)), some (.int (nI J))], [], m)) rfl ?_
          refine mz_ifF (show ¬ ((nI I) < 0) from (sm_nltN rfl rfl (show 0 ≤ I by omega) (show I < 2 ^ 31 by omega))) ?_
          refine mz_go 3 (c' := (9, [some (.ref 20), some (.int (nI I)), some (.int (nI J))], [.int (m 20 2), .int (nI I)], m)) rfl ?_
          rw [h202]
          refine mz_go 1 (c' := (if (nI WW) ≤ (nI I) then 40 else 12, [some (.ref 20), some (.int (nI I)), some (.int (nI J))], [], m)) rfl ?_
          refine mz_ifF (show ¬ ((nI WW) ≤ (nI I)) from (sm_nleN rfl rfl (show I < WW by omega) (show WW < 2 ^ 31 by omega))) ?_
          refine mz_go 3 (c' := (if 6 ≤ (nI I) then 40 else 18, [some (.ref 20), some (.int (nI I)), some (.int (nI J))], [], m)) rfl ?_
          refine mz_ifF (show ¬ (6 ≤ (nI I)) from (sm_nleN rfl rfl (show I < 6 by omega) (show 6 < 2 ^ 31 by omega))) ?_
          refine mz_go 2 (c' := (if (nI J) < 0 then 40 else 22, [some (.ref 20), some (.int (nI I)), some (.int (nI J))], [], m)) rfl ?_
          refine mz_ifF (show ¬ ((nI J) < 0) from (sm_nltN rfl rfl (show 0 ≤ J by omega) (show J < 2 ^ 31 by omega))) ?_
          refine mz_go 3 (c' := (27, [some (.ref 20), some (.int (nI I)), some (.int (nI J))], [.int (m 20 3), .int (nI J)], m)) rfl ?_
          rw [h203]
          refine mz_go 1 (c' := (if (nI HH) ≤ (nI J) then 40 else 30, [some (.ref 20), some (.int (nI I)), some (.int (nI J))], [], m)) rfl ?_
          refine mz_ifF (show ¬ ((nI HH) ≤ (nI J)) from (sm_nleN rfl rfl (show J < HH by omega) (show HH < 2 ^ 31 by omega))) ?_
          refine mz_go 3 (c' := (if 6 ≤ (nI J) then 40 else 36, [some (.ref 20), some (.int (nI I)), some (.int (nI J))], [], m)) rfl ?_
          refine mz_ifF (show ¬ (6 ≤ (nI J)) from (sm_nleN rfl rfl (show J < 6 by omega) (show 6 < 2 ^ 31 by omega))) ?_
          refine mz_go 2 (c' := (41, [some (.ref 20), some (.int (nI I)), some (.int (nI J))], [.int 1], m)) rfl ?_
          exact mz_ret rfl
        refine mz_go 8 (c' := (19, [some (.ref 20), some (.int (nI I)), some (.int (nI J))], [.int (((nI J) * 6) + (nI I)), .ref 21], m)) rfl ?_
        refine mz_arr (c' := (20, [some (.ref 20), some (.int (nI I)), some (.int (nI J))], [.int (m 21 ((((nI J) * 6) + (nI I)).toNatClampNeg))], m)) rfl (show mz_in (((nI J) * 6) + (nI I)) 36 = true from sm_inN (sm_addN (sm_mulN rfl rfl) rfl) (show ((J * 6) + I) < 36 by omega) (by decide)) ?_
        rw [show (((nI J) * 6) + (nI I) : Int32).toNatClampNeg = ((J * 6) + I) from sm_clN (sm_addN (sm_mulN rfl rfl) rfl) (show ((J * 6) + I) < 2 ^ 31 by omega)]
        refine mz_go 1 (c' := (25, [some (.ref 20), some (.int (nI I)), some (.int (nI J))], [.int (m 21 ((J * 6) + I))], m)) rfl ?_
        exact mz_ret rfl
      refine mz_go 7 (c' := (13, [some (.ref 20), some (.int (nI I)), some (.int (nI J)), some (.int (m 21 ((J * 6) + I)))], [.int (m 21 ((J * 6) + I)), .int (nI J), .int ((nI I) - 1), .ref 20], m)) rfl ?_
      refine mz_do (R := mz_r13) (as := [.ref 20, .int ((nI I) - 1), .int (nI J), .int (m 21 ((J * 6) + I))]) (rest := []) (r1 := some (.int ve1)) (m1 := m) rfl (Ee1.deep (by decide)) ?_
      refine mz_go 1 (c' := (if ve1 = 0 then 19 else 55, [some (.ref 20), some (.int (nI I)), some (.int (nI J)), some (.int (m 21 ((J * 6) + I)))], [], m)) rfl ?_
      refine mz_ifF q9 ?_
      refine mz_go 2 (c' := (60, [some (.ref 20), some (.int (nI I)), some (.int (nI J)), some (.int (m 21 ((J * 6) + I)))], [.int 1], m)) rfl ?_
      exact mz_ret rfl
set_option maxHeartbeats 4000000 in
set_option maxRecDepth 100000 in
theorem vr_oth {m : mz_M} {WW HH : Nat} (hWW : WW ≤ 6) (hHH : HH ≤ 6) (hWH : WW = 0 ↔ HH = 0) (h6660 : m 66 60 = nI WW) (h6661 : m 66 61 = nI HH) (a b c : Int32) : ∃ v, mz_Me 8 mz_r195 [.ref 65, .int a, .int b, .int c] m (some (.int v)) m ∧ (v = vq_ot (fun i => m 66 (70 + i)) WW HH a b c) := by
  by_cases q1 : WW = 0
  · by_cases q2 : a < 0
    · refine ⟨0, ⟨?_, rfl⟩, (vq_o0 q1)⟩
      refine mz_go 3 (c' := (3, [some (.ref 65), some (.int a), some (.int b), some (.int c)], [.int b, .int a, .ref 65], m)) rfl ?_
      refine mz_do (R := mz_r187) (as := [.ref 65, .int a, .int b]) (rest := []) (r1 := some (.int 0)) (m1 := m) rfl ⟨?_, rfl⟩ ?_
      · refine mz_go 3 (c' := (3, [some (.ref 65), some (.int a), some (.int b)], [.ref 65, .int 0, .int a], m)) rfl ?_
        refine mz_do (R := mz_r183) (as := [.ref 65]) (rest := [.int 0, .int a]) (r1 := some (.int (nI WW))) (m1 := m) rfl ⟨?_, rfl⟩ ?_
        · refine mz_go 4 (c' := (7, [some (.ref 65)], [.int (m 66 60)], m)) rfl ?_
          rw [h6660]
          exact mz_ret rfl
        refine mz_go 2 (c' := (8, [some (.ref 65), some (.int a), some (.int b)], [.int ((nI WW) - 1), .int 0, .int a], m)) rfl ?_
        rw [show nI WW - 1 = -1 from by rw [show WW = 0 by omega]; decide]
        refine mz_do (R := mz_r128) (as := [.int a, .int 0, .int (-1)]) (rest := []) (r1 := some (.int 0)) (m1 := m) rfl ((ct_inL (m := m) (v := a) (a := 0) (b := (-1)) q2).deep (by decide)) ?_
        refine mz_go 2 (c' := (33, [some (.ref 65), some (.int a), some (.int b)], [.int 0], m)) rfl ?_
        exact mz_ret rfl
      refine mz_go 2 (c' := (24, [some (.ref 65), some (.int a), some (.int b), some (.int c)], [.int 0], m)) rfl ?_
      exact mz_ret rfl
    · refine ⟨0, ⟨?_, rfl⟩, (vq_o0 q1)⟩
      refine mz_go 3 (c' := (3, [some (.ref 65), some (.int a), some (.int b), some (.int c)], [.int b, .int a, .ref 65], m)) rfl ?_
      refine mz_do (R := mz_r187) (as := [.ref 65, .int a, .int b]) (rest := []) (r1 := some (.int 0)) (m1 := m) rfl ⟨?_, rfl⟩ ?_
      · refine mz_go 3 (c' := (3, [some (.ref 65), some (.int a), some (.int b)], [.ref 65, .int 0, .int a], m)) rfl ?_
        refine mz_do (R := mz_r183) (as := [.ref 65]) (rest := [.int 0, .int a]) (r1 := some (.int (nI WW))) (m1 := m) rfl ⟨?_, rfl⟩ ?_
        · refine mz_go 4 (c' := (7, [some (.ref 65)], [.int (m 66 60)], m)) rfl ?_
          rw [h6660]
          exact mz_ret rfl
        refine mz_go 2 (c' := (8, [some (.ref 65), some (.int a), some (.int b)], [.int ((nI WW) - 1), .int 0, .int a], m)) rfl ?_
        rw [show nI WW - 1 = -1 from by rw [show WW = 0 by omega]; decide]
        refine mz_do (R := mz_r128) (as := [.int a, .int 0, .int (-1)]) (rest := []) (r1 := some (.int 0)) (m1 := m) rfl ((ct_inG (m := m) (v := a) (a := 0) (b := (-1)) q2 (by have hl : (0 : Int) ≤ (a).toInt := Int32.le_iff_toInt_le.mp (Int32.not_lt.mp q2); exact Int32.lt_iff_toInt_lt.mpr (show (-1 : Int) < (a).toInt by omega))).deep (by decide)) ?_
        refine mz_go 2 (c' := (33, [some (.ref 65), some (.int a), some (.int b)], [.int 0], m)) rfl ?_
        exact mz_ret rfl
      refine mz_go 2 (c' := (24, [some (.ref 65), some (.int a), some (.int b), some (.int c)], [.int 0], m)) rfl ?_
      exact mz_ret rfl
  · by_cases q3 : a < 0
    · refine ⟨0, ⟨?_, rfl⟩, (vq_o1 q3)⟩
      refine mz_go 3 (c' := (3, [some (.ref 65), some (.int a), some (.int b), some (.int c)], [.int b, .int a, .ref 65], m)) rfl ?_
      refine mz_do (R := mz_r187) (as := [.ref 65, .int a, .int b]) (rest := []) (r1 := some (.int 0)) (m1 := m) rfl ⟨?_, rfl⟩ ?_
      · refine mz_go 3 (c' := (3, [some (.ref 65), some (.int a), some (.int b)], [.ref 65, .int 0, .int a], m)) rfl ?_
        refine mz_do (R := mz_r183) (as := [.ref 65]) (rest := [.int 0, .int a]) (r1 := some (.int (nI WW))) (m1 := m) rfl ⟨?_, rfl⟩ ?_
        · refine mz_go 4 (c' := (7, [some (.ref 65)], [.int (m 66 60)], m)) rfl ?_
          rw [h6660]
          exact mz_ret rfl
        refine mz_go 2 (c' := (8, [some (.ref 65), some (.int a), some (.int b)], [.int ((nI WW) - 1), .int 0, .int a], m)) rfl ?_
        refine mz_do (R := mz_r128) (as := [.int a, .int 0, .int ((nI WW) - 1)]) (rest := []) (r1 := some (.int 0)) (m1 := m) rfl ((ct_inL (m := m) (v := a) (a := 0) (b := (nI WW) - 1) q3).deep (by decide)) ?_
        refine mz_go 2 (c' := (33, [some (.ref 65), some (.int a), some (.int b)], [.int 0], m)) rfl ?_
        exact mz_ret rfl
      refine mz_go 2 (c' := (24, [some (.ref 65), some (.int a), some (.int b), some (.int c)], [.int 0], m)) rfl ?_
      exact mz_ret rfl
    · obtain ⟨ja, hja, rfl⟩ := nI_of q3
      by_cases q4 : (WW - 1) < ja
      · refine ⟨0, ⟨?_, rfl⟩, (vq_o2 hja (by omega))⟩
        refine mz_go 3 (c' := (3, [some (.ref 65), some (.int (nI ja)), some (.int b), some (.int c)], [.int b, .int (nI ja), .ref 65], m)) rfl ?_
        refine mz_do (R := mz_r187) (as := [.ref 65, .int (nI ja), .int b]) (rest := []) (r1 := some (.int 0)) (m1 := m) rfl ⟨?_, rfl⟩ ?_
        · refine mz_go 3 (c' := (3, [some (.ref 65), some (.int (nI ja)), some (.int b)], [.ref 65, .int 0, .int (nI ja)], m)) rfl ?_
          refine mz_do (R := mz_r183) (as := [.ref 65]) (rest := [.int 0, .int (nI ja)]) (r1 := some (.int (nI WW))) (m1 := m) rfl ⟨?_, rfl⟩ ?_
          · refine mz_go 4 (c' := (7, [some (.ref 65)], [.int (m 66 60)], m)) rfl ?_
            rw [h6660]
            exact mz_ret rfl
          refine mz_go 2 (c' := (8, [some (.ref 65), some (.int (nI ja)), some (.int b)], [.int ((nI WW) - 1), .int 0, .int (nI ja)], m)) rfl ?_
          refine mz_do (R := mz_r128) (as := [.int (nI ja), .int 0, .int ((nI WW) - 1)]) (rest := []) (r1 := some (.int 0)) (m1 := m) rfl ((ct_inG (m := m) (v := nI ja) (a := 0) (b := (nI WW) - 1) q3 (show (((nI WW) - 1) < (nI ja)) from (sm_ltN (sm_subN (a := WW) (b := 1) rfl rfl (by omega)) rfl (show (WW - 1) < ja by omega) (show ja < 2 ^ 31 by omega)))).deep (by decide)) ?_
          refine mz_go 2 (c' := (33, [some (.ref 65), some (.int (nI ja)), some (.int b)], [.int 0], m)) rfl ?_
          exact mz_ret rfl
        refine mz_go 2 (c' := (24, [some (.ref 65), some (.int (nI ja)), some (.int b), some (.int c)], [.int 0], m)) rfl ?_
        exact mz_ret rfl
      · by_cases q5 : b < 0
        · refine ⟨0, ⟨?_, rfl⟩, (vq_o3 q5)⟩
          refine mz_go 3 (c' := (3, [some (.ref 65), some (.int (nI ja)), some (.int b), some (.int c)], [.int b, .int (nI ja), .ref 65], m)) rfl ?_
          refine mz_do (R := mz_r187) (as := [.ref 65, .int (nI ja), .int b]) (rest := []) (r1 := some (.int 0)) (m1 := m) rfl ⟨?_, rfl⟩ ?_
          · refine mz_go 3 (c' := (3, [some (.ref 65), some (.int (nI ja)), some (.int b)], [.ref 65, .int 0, .int (nI ja)], m)) rfl ?_
            refine mz_do (R := mz_r183) (as := [.ref 65]) (rest := [.int 0, .int (nI ja)]) (r1 := some (.int (nI WW))) (m1 := m) rfl ⟨?_, rfl⟩ ?_
            · refine mz_go 4 (c' := (7, [some (.ref 65)], [.int (m 66 60)], m)) rfl ?_
              rw [h6660]
              exact mz_ret rfl
            refine mz_go 2 (c' := (8, [some (.ref 65), some (.int (nI ja)), some (.int b)], [.int ((nI WW) - 1), .int 0, .int (nI ja)], m)) rfl ?_
            refine mz_do (R := mz_r128) (as := [.int (nI ja), .int 0, .int ((nI WW) - 1)]) (rest := []) (r1 := some (.int 1)) (m1 := m) rfl ((ct_in1 (m := m) (v := nI ja) (a := 0) (b := (nI WW) - 1) q3 (show ¬ (((nI WW) - 1) < (nI ja)) from (sm_nltN (sm_subN (a := WW) (b := 1) rfl rfl (by omega)) rfl (show ja ≤ (WW - 1) by omega) (show (WW - 1) < 2 ^ 31 by omega)))).deep (by decide)) ?_
            refine mz_go 4 (c' := (17, [some (.ref 65), some (.int (nI ja)), some (.int b)], [.ref 65, .int 0, .int b], m)) rfl ?_
            refine mz_do (R := mz_r184) (as := [.ref 65]) (rest := [.int 0, .int b]) (r1 := some (.int (nI HH))) (m1 := m) rfl ⟨?_, rfl⟩ ?_
            · refine mz_go 4 (c' := (7, [some (.ref 65)], [.int (m 66 61)], m)) rfl ?_
              rw [h6661]
              exact mz_ret rfl
            refine mz_go 2 (c' := (22, [some (.ref 65), some (.int (nI ja)), some (.int b)], [.int ((nI HH) - 1), .int 0, .int b], m)) rfl ?_
            refine mz_do (R := mz_r128) (as := [.int b, .int 0, .int ((nI HH) - 1)]) (rest := []) (r1 := some (.int 0)) (m1 := m) rfl ((ct_inL (m := m) (v := b) (a := 0) (b := (nI HH) - 1) q5).deep (by decide)) ?_
            refine mz_go 2 (c' := (33, [some (.ref 65), some (.int (nI ja)), some (.int b)], [.int 0], m)) rfl ?_
            exact mz_ret rfl
          refine mz_go 2 (c' := (24, [some (.ref 65), some (.int (nI ja)), some (.int b), some (.int c)], [.int 0], m)) rfl ?_
          exact mz_ret rfl
        · obtain ⟨jb, hjb, rfl⟩ := nI_of q5
          by_cases q6 : (HH - 1) < jb
          · refine ⟨0, ⟨?_, rfl⟩, (vq_o4 hjb (by omega))⟩
            refine mz_go 3 (c' := (3, [some (.ref 65), some (.int (nI ja)), some (.int (nI jb)), some (.int c)], [.int (nI jb), .int (nI ja), .ref 65], m)) rfl ?_
            refine mz_do (R := mz_r187) (as := [.ref 65, .int (nI ja), .int (nI jb)]) (rest := []) (r1 := some (.int 0)) (m1 := m) rfl ⟨?_, rfl⟩ ?_
            · refine mz_go 3 (c' := (3, [some (.ref 65), some (.int (nI ja)), some (.int (nI jb))], [.ref 65, .int 0, .int (nI ja)], m)) rfl ?_
              refine mz_do (R := mz_r183) (as := [.ref 65]) (rest := [.int 0, .int (nI ja)]) (r1 := some (.int (nI WW))) (m1 := m) rfl ⟨?_, rfl⟩ ?_
              · refine mz_go 4 (c' := (7, [some (.ref 65)], [.int (m 66 60)], m)) rfl ?_
                rw [h6660]
                exact mz_ret rfl
              refine mz_go 2 (c' := (8, [some (.ref 65), some (.int (nI ja)), some (.int (nI jb))], [.int ((nI WW) - 1), .int 0, .int (nI ja)], m)) rfl ?_
              refine mz_do (R := mz_r128) (as := [.int (nI ja), .int 0, .int ((nI WW) - 1)]) (rest := []) (r1 := some (.int 1)) (m1 := m) rfl ((ct_in1 (m := m) (v := nI ja) (a := 0) (b := (nI WW) - 1) q3 (show ¬ (((nI WW) - 1) < (nI ja)) from (sm_nltN (sm_subN (a := WW) (b := 1) rfl rfl (by omega)) rfl (show ja ≤ (WW - 1) by omega) (show (WW - 1) < 2 ^ 31 by omega)))).deep (by decide)) ?_
              refine mz_go 4 (c' := (17, [some (.ref 65), some (.int (nI ja)), some (.int (nI jb))], [.ref 65, .int 0, .int (nI jb)], m)) rfl ?_
              refine mz_do (R := mz_r184) (as := [.ref 65]) (rest := [.int 0, .int (nI jb)]) (r1 := some (.int (nI HH))) (m1 := m) rfl ⟨?_, rfl⟩ ?_
              · refine mz_go 4 (c' := (7, [some (.ref 65)], [.int (m 66 61)], m)) rfl ?_
                rw [h6661]
                exact mz_ret rfl
              refine mz_go 2 (c' := (22, [some (.ref 65), some (.int (nI ja)), some (.int (nI jb))], [.int ((nI HH) - 1), .int 0, .int (nI jb)], m)) rfl ?_
              refine mz_do (R := mz_r128) (as := [.int (nI jb), .int 0, .int ((nI HH) - 1)]) (rest := []) (r1 := some (.int 0)) (m1 := m) rfl ((ct_inG (m := m) (v := nI jb) (a := 0) (b := (nI HH) - 1) q5 (show (((nI HH) - 1) < (nI jb)) from (sm_ltN (sm_subN (a := HH) (b := 1) rfl rfl (by omega)) rfl (show (HH - 1) < jb by omega) (show jb < 2 ^ 31 by omega)))).deep (by decide)) ?_
              refine mz_go 2 (c' := (33, [some (.ref 65), some (.int (nI ja)), some (.int (nI jb))], [.int 0], m)) rfl ?_
              exact mz_ret rfl
            refine mz_go 2 (c' := (24, [some (.ref 65), some (.int (nI ja)), some (.int (nI jb)), some (.int c)], [.int 0], m)) rfl ?_
            exact mz_ret rfl
          · by_cases q7 : (m 66 ((70 + (6 * jb)) + ja)) = c
            · refine ⟨0, ⟨?_, rfl⟩, (vq_o5 (f := (fun i => m 66 (70 + i))) (by omega) (by omega) hWW hHH (show (fun i => m 66 (70 + i)) (jb * 6 + ja) = c from (congrArg (m 66) (show 70 + (jb * 6 + ja) = (70 + (6 * jb)) + ja by omega)).trans q7))⟩
              refine mz_go 3 (c' := (3, [some (.ref 65), some (.int (nI ja)), some (.int (nI jb)), some (.int c)], [.int (nI jb), .int (nI ja), .ref 65], m)) rfl ?_
              refine mz_do (R := mz_r187) (as := [.ref 65, .int (nI ja), .int (nI jb)]) (rest := []) (r1 := some (.int 1)) (m1 := m) rfl ⟨?_, rfl⟩ ?_
              · refine mz_go 3 (c' := (3, [some (.ref 65), some (.int (nI ja)), some (.int (nI jb))], [.ref 65, .int 0, .int (nI ja)], m)) rfl ?_
                refine mz_do (R := mz_r183) (as := [.ref 65]) (rest := [.int 0, .int (nI ja)]) (r1 := some (.int (nI WW))) (m1 := m) rfl ⟨?_, rfl⟩ ?_
                · refine mz_go 4 (c' := (7, [some (.ref 65)], [.int (m 66 60)], m)) rfl ?_
                  rw [h6660]
                  exact mz_ret rfl
                refine mz_go 2 (c' := (8, [some (.ref 65), some (.int (nI ja)), some (.int (nI jb))], [.int ((nI WW) - 1), .int 0, .int (nI ja)], m)) rfl ?_
                refine mz_do (R := mz_r128) (as := [.int (nI ja), .int 0, .int ((nI WW) - 1)]) (rest := []) (r1 := some (.int 1)) (m1 := m) rfl ((ct_in1 (m := m) (v := nI ja) (a := 0) (b := (nI WW) - 1) q3 (show ¬ (((nI WW) - 1) < (nI ja)) from (sm_nltN (sm_subN (a := WW) (b := 1) rfl rfl (by omega)) rfl (show ja ≤ (WW - 1) by omega) (show (WW - 1) < 2 ^ 31 by omega)))).deep (by decide)) ?_
                refine mz_go 4 (c' := (17, [some (.ref 65), some (.int (nI ja)), some (.int (nI jb))], [.ref 65, .int 0, .int (nI jb)], m)) rfl ?_
                refine mz_do (R := mz_r184) (as := [.ref 65]) (rest := [.int 0, .int (nI jb)]) (r1 := some (.int (nI HH))) (m1 := m) rfl ⟨?_, rfl⟩ ?_
                · refine mz_go 4 (c' := (7, [some (.ref 65)], [.int (m 66 61)], m)) rfl ?_
                  rw [h6661]
                  exact mz_ret rfl
                refine mz_go 2 (c' := (22, [some (.ref 65), some (.int (nI ja)), some (.int (nI jb))], [.int ((nI HH) - 1), .int 0, .int (nI jb)], m)) rfl ?_
                refine mz_do (R := mz_r128) (as := [.int (nI jb), .int 0, .int ((nI HH) - 1)]) (rest := []) (r1 := some (.int 1)) (m1 := m) rfl ((ct_in1 (m := m) (v := nI jb) (a := 0) (b := (nI HH) - 1) q5 (show ¬ (((nI HH) - 1) < (nI jb)) from (sm_nltN (sm_subN (a := HH) (b := 1) rfl rfl (by omega)) rfl (show jb ≤ (HH - 1) by omega) (show (HH - 1) < 2 ^ 31 by omega)))).deep (by decide)) ?_
                refine mz_go 3 (c' := (33, [some (.ref 65), some (.int (nI ja)), some (.int (nI jb))], [.int 1], m)) rfl ?_
                exact mz_ret rfl
              refine mz_go 4 (c' := (12, [some (.ref 65), some (.int (nI ja)), some (.int (nI jb)), some (.int c)], [.int (nI jb), .int (nI ja), .ref 65], m)) rfl ?_
              refine mz_do (R := mz_r186) (as := [.ref 65, .int (nI ja), .int (nI jb)]) (rest := []) (r1 := some (.int (m 66 ((70 + (6 * jb)) + ja)))) (m1 := m) rfl ((vr_col (m := m) (A := ja) (B := jb) (by omega) (by omega) (a := nI ja) (b := nI jb) rfl rfl).deep (by decide)) ?_
              refine mz_go 2 (c' := (if (m 66 ((70 + (6 * jb)) + ja)) = c then 23 else 19, [some (.ref 65), some (.int (nI ja)), some (.int (nI jb)), some (.int c)], [], m)) rfl ?_
              refine mz_ifT q7 ?_
              refine mz_go 1 (c' := (24, [some (.ref 65), some (.int (nI ja)), some (.int (nI jb)), some (.int c)], [.int 0], m)) rfl ?_
              exact mz_ret rfl
            · refine ⟨1, ⟨?_, rfl⟩, (vq_o6 (f := (fun i => m 66 (70 + i))) (by omega) (by omega) hWW hHH (fun z => q7 ((congrArg (m 66) (show 70 + (jb * 6 + ja) = (70 + (6 * jb)) + ja by omega)).symm.trans z)))⟩
              refine mz_go 3 (c' := (3, [some (.ref 65), some (.int (nI ja)), some (.int (nI jb)), some (.int c)], [.int (nI jb), .int (nI ja), .ref 65], m)) rfl ?_
              refine mz_do (R := mz_r187) (as := [.ref 65, .int (nI ja), .int (nI jb)]) (rest := []) (r1 := some (.int 1)) (m1 := m) rfl ⟨?_, rfl⟩ ?_
              · refine mz_go 3 (c' := (3, [some (.ref 65), some (.int (nI ja)), some (.int (nI jb))], [.ref 65, .int 0, .int (nI ja)], m)) rfl ?_
                refine mz_do (R := mz_r183) (as := [.ref 65]) (rest := [.int 0, .int (nI ja)]) (r1 := some (.int (nI WW))) (m1 := m) rfl ⟨?_, rfl⟩ ?_
                · refine mz_go 4 (c' := (7, [some (.ref 65)], [.int (m 66 60)], m)) rfl ?_
                  rw [h6660]
                  exact mz_ret rfl
                refine mz_go 2 (c' := (8, [some (.ref 65), some (.int (nI ja)), some (.int (nI jb))], [.int ((nI WW) - 1), .int 0, .int (nI ja)], m)) rfl ?_
                refine mz_do (R := mz_r128) (as := [.int (nI ja), .int 0, .int ((nI WW) - 1)]) (rest := []) (r1 := some (.int 1)) (m1 := m) rfl ((ct_in1 (m := m) (v := nI ja) (a := 0) (b := (nI WW) - 1) q3 (show ¬ (((nI WW) - 1) < (nI ja)) from (sm_nltN (sm_subN (a := WW) (b := 1) rfl rfl (by omega)) rfl (show ja ≤ (WW - 1) by omega) (show (WW - 1) < 2 ^ 31 by omega)))).deep (by decide)) ?_
                refine mz_go 4 (c' := (17, [some (.ref 65), some (.int (nI ja)), some (.int (nI jb))], [.ref 65, .int 0, .int (nI jb)], m)) rfl ?_
                refine mz_do (R := mz_r184) (as := [.ref 65]) (rest := [.int 0, .int (nI jb)]) (r1 := some (.int (nI HH))) (m1 := m) rfl ⟨?_, rfl⟩ ?_
                · refine mz_go 4 (c' := (7, [some (.ref 65)], [.int (m 66 61)], m)) rfl ?_
                  rw [h6661]
                  exact mz_ret rfl
                refine mz_go 2 (c' := (22, [some (.ref 65), some (.int (nI ja)), some (.int (nI jb))], [.int ((nI HH) - 1), .int 0, .int (nI jb)], m)) rfl ?_
                refine mz_do (R := mz_r128) (as := [.int (nI jb), .int 0, .int ((nI HH) - 1)]) (rest := []) (r1 := some (.int 1)) (m1 := m) rfl ((ct_in1 (m := m) (v := nI jb) (a := 0) (b := (nI HH) - 1) q5 (show ¬ (((nI HH) - 1) < (nI jb)) from (sm_nltN (sm_subN (a := HH) (b := 1) rfl rfl (by omega)) rfl (show jb ≤ (HH - 1) by omega) (show (HH - 1) < 2 ^ 31 by omega)))).deep (by decide)) ?_
                refine mz_go 3 (c' := (33, [some (.ref 65), some (.int (nI ja)), some (.int (nI jb))], [.int 1], m)) rfl ?_
                exact mz_ret rfl
              refine mz_go 4 (c' := (12, [some (.ref 65), some (.int (nI ja)), some (.int (nI jb)), some (.int c)], [.int (nI jb), .int (nI ja), .ref 65], m)) rfl ?_
              refine mz_do (R := mz_r186) (as := [.ref 65, .int (nI ja), .int (nI jb)]) (rest := []) (r1 := some (.int (m 66 ((70 + (6 * jb)) + ja)))) (m1 := m) rfl ((vr_col (m := m) (A := ja) (B := jb) (by omega) (by omega) (a := nI ja) (b := nI jb) rfl rfl).deep (by decide)) ?_
              refine mz_go 2 (c' := (if (m 66 ((70 + (6 * jb)) + ja)) = c then 23 else 19, [some (.ref 65), some (.int (nI ja)), some (.int (nI jb)), some (.int c)], [], m)) rfl ?_
              refine mz_ifF q7 ?_
              refine mz_go 2 (c' := (24, [some (.ref 65), some (.int (nI ja)), some (.int (nI jb)), some (.int c)], [.int 1], m)) rfl ?_
              exact mz_ret rfl
set_option maxHeartbeats 4000000 in
set_option maxRecDepth 100000 in
theorem vr_edg {m : mz_M} {WW HH : Nat} (hWW : WW ≤ 6) (hHH : HH ≤ 6) (hWH : WW = 0 ↔ HH = 0) (h6660 : m 66 60 = nI WW) (h6661 : m 66 61 = nI HH) {I J : Nat} (hI : I < WW) (hJ : J < HH) : ∃ v, mz_Me 10 mz_r196 [.ref 65, .int (nI I), .int (nI J)] m (some (.int v)) m ∧ (v = vq_ed (fun i => m 66 (70 + i)) WW HH I J (m 66 ((70 + (6 * J)) + I))) := by
  by_cases q1 : I = 0
  · obtain ⟨ve1, Ee1, Pe1⟩ := vr_oth (m := m) hWW hHH hWH h6660 h6661 (-1) (nI J) (m 66 ((70 + (6 * J)) + I))
    by_cases q2 : ve1 = 0
    · obtain ⟨ve2, Ee2, Pe2⟩ := vr_oth (m := m) hWW hHH hWH h6660 h6661 ((nI I) + 1) (nI J) (m 66 ((70 + (6 * J)) + I))
      by_cases q3 : ve2 = 0
      · by_cases q4 : J = 0
        · obtain ⟨ve3, Ee3, Pe3⟩ := vr_oth (m := m) hWW hHH hWH h6660 h6661 (nI I) (-1) (m 66 ((70 + (6 * J)) + I))
          by_cases q5 : ve3 = 0
          · obtain ⟨ve4, Ee4, Pe4⟩ := vr_oth (m := m) hWW hHH hWH h6660 h6661 (nI I) ((nI J) + 1) (m 66 ((70 + (6 * J)) + I))
            by_cases q6 : ve4 = 0
            · refine ⟨0, ⟨?_, rfl⟩, (by unfold vq_ed; rw [vq_m1 q1]; rw [← Pe1, if_pos q2]; rw [← Pe2, if_pos q3]; rw [vq_m1 q4]; rw [← Pe3, if_pos q5]; rw [← Pe4, if_pos q6])⟩
              refine mz_go 3 (c' := (3, [some (.ref 65), some (.int (nI I)), some (.int (nI J)), none], [.int (nI J), .int (nI I), .ref 65], m)) rfl ?_
              refine mz_do (R := mz_r186) (as := [.ref 65, .int (nI I), .int (nI J)]) (rest := []) (r1 := some (.int (m 66 ((70 + (6 * J)) + I)))) (m1 := m) rfl ((vr_col (m := m) (A := I) (B := J) (by omega) (by omega) (a := nI I) (b := nI J) rfl rfl).deep (by decide)) ?_
              refine mz_go 5 (c' := (11, [some (.ref 65), some (.int (nI I)), some (.int (nI J)), some (.int (m 66 ((70 + (6 * J)) + I)))], [.int ((nI I) - 1), .ref 65], m)) rfl ?_
              rw [show nI I - 1 = -1 from by rw [show I = 0 by omega]; decide]
              refine mz_go 2 (c' := (13, [some (.ref 65), some (.int (nI I)), some (.int (nI J)), some (.int (m 66 ((70 + (6 * J)) + I)))], [.int (m 66 ((70 + (6 * J)) + I)), .int (nI J), .int (-1), .ref 65], m)) rfl ?_
              refine mz_do (R := mz_r195) (as := [.ref 65, .int (-1), .int (nI J), .int (m 66 ((70 + (6 * J)) + I))]) (rest := []) (r1 := some (.int ve1)) (m1 := m) rfl (Ee1.deep (by decide)) ?_
              refine mz_go 1 (c' := (if ve1 = 0 then 19 else 55, [some (.ref 65), some (.int (nI I)), some (.int (nI J)), some (.int (m 66 ((70 + (6 * J)) + I)))], [], m)) rfl ?_
              refine mz_ifT q2 ?_
              refine mz_go 6 (c' := (25, [some (.ref 65), some (.int (nI I)), some (.int (nI J)), some (.int (m 66 ((70 + (6 * J)) + I)))], [.int (m 66 ((70 + (6 * J)) + I)), .int (nI J), .int ((nI I) + 1), .ref 65], m)) rfl ?_
              refine mz_do (R := mz_r195) (as := [.ref 65, .int ((nI I) + 1), .int (nI J), .int (m 66 ((70 + (6 * J)) + I))]) (rest := []) (r1 := some (.int ve2)) (m1 := m) rfl (Ee2.deep (by decide)) ?_
              refine mz_go 1 (c' := (if ve2 = 0 then 31 else 55, [some (.ref 65), some (.int (nI I)), some (.int (nI J)), some (.int (m 66 ((70 + (6 * J)) + I)))], [], m)) rfl ?_
              refine mz_ifT q3 ?_
              refine mz_go 5 (c' := (36, [some (.ref 65), some (.int (nI I)), some (.int (nI J)), some (.int (m 66 ((70 + (6 * J)) + I)))], [.int ((nI J) - 1), .int (nI I), .ref 65], m)) rfl ?_
              rw [show nI J - 1 = -1 from by rw [show J = 0 by omega]; decide]
              refine mz_go 1 (c' := (37, [some (.ref 65), some (.int (nI I)), some (.int (nI J)), some (.int (m 66 ((70 + (6 * J)) + I)))], [.int (m 66 ((70 + (6 * J)) + I)), .int (-1), .int (nI I), .ref 65], m)) rfl ?_
              refine mz_do (R := mz_r195) (as := [.ref 65, .int (nI I), .int (-1), .int (m 66 ((70 + (6 * J)) + I))]) (rest := []) (r1 := some (.int ve3)) (m1 := m) rfl (Ee3.deep (by decide)) ?_
              refine mz_go 1 (c' := (if ve3 = 0 then 43 else 55, [some (.ref 65), some (.int (nI I)), some (.int (nI J)), some (.int (m 66 ((70 + (6 * J)) + I)))], [], m)) rfl ?_
              refine mz_ifT q5 ?_
              refine mz_go 6 (c' := (49, [some (.ref 65), some (.int (nI I)), some (.int (nI J)), some (.int (m 66 ((70 + (6 * J)) + I)))], [.int (m 66 ((70 + (6 * J)) + I)), .int ((nI J) + 1), .int (nI I), .ref 65], m)) rfl ?_
              refine mz_do (R := mz_r195) (as := [.ref 65, .int (nI I), .int ((nI J) + 1), .int (m 66 ((70 + (6 * J)) + I))]) (rest := []) (r1 := some (.int ve4)) (m1 := m) rfl (Ee4.deep (by decide)) ?_
              refine mz_go 1 (c' := (if ve4 = 0 then 59 else 55, [some (.ref 65), some (.int (nI I)), some (.int (nI J)), some (.int (m 66 ((70 + (6 * J)) + I)))], [], m)) rfl ?_
              refine mz_ifT q6 ?_
              refine mz_go 1 (c' := (60, [some (.ref 65), some (.int (nI I)), some (.int (nI J)), some (.int (m 66 ((70 + (6 * J)) + I)))], [.int 0], m)) rfl ?_
              exact mz_ret rfl
            · refine ⟨1, ⟨?_, rfl⟩, (by unfold vq_ed; rw [vq_m1 q1]; rw [← Pe1, if_pos q2]; rw [← Pe2, if_pos q3]; rw [vq_m1 q4]; rw [← Pe3, if_pos q5]; rw [← Pe4, if_neg q6])⟩
              refine mz_go 3 (c' := (3, [some (.ref 65), some (.int (nI I)), some (.int (nI J)), none], [.int (nI J), .int (nI I), .ref 65], m)) rfl ?_
              refine mz_do (R := mz_r186) (as := [.ref 65, .int (nI I), .int (nI J)]) (rest := []) (r1 := some (.int (m 66 ((70 + (6 * J)) + I)))) (m1 := m) rfl ((vr_col (m := m) (A := I) (B := J) (by omega) (by omega) (a := nI I) (b := nI J) rfl rfl).deep (by decide)) ?_
              refine mz_go 5 (c' := (11, [some (.ref 65), some (.int (nI I)), some (.int (nI J)), some (.int (m 66 ((70 + (6 * J)) + I)))], [.int ((nI I) - 1), .ref 65], m)) rfl ?_
              rw [show nI I - 1 = -1 from by rw [show I = 0 by omega]; decide]
              refine mz_go 2 (c' := (13, [some (.ref 65), some (.int (nI I)), some (.int (nI J)), some (.int (m 66 ((70 + (6 * J)) + I)))], [.int (m 66 ((70 + (6 * J)) + I)), .int (nI J), .int (-1), .ref 65], m)) rfl ?_
              refine mz_do (R := mz_r195) (as := [.ref 65, .int (-1), .int (nI J), .int (m 66 ((70 + (6 * J)) + I))]) (rest := []) (r1 := some (.int ve1)) (m1 := m) rfl (Ee1.deep (by decide)) ?_
              refine mz_go 1 (c' := (if ve1 = 0 then 19 else 55, [some (.ref 65), some (.int (nI I)), some (.int (nI J)), some (.int (m 66 ((70 + (6 * J)) + I)))], [], m)) rfl ?_
              refine mz_ifT q2 ?_
              refine mz_go 6 (c' := (25, [some (.ref 65), some (.int (nI I)), some (.int (nI J)), some (.int (m 66 ((70 + (6 * J)) + I)))], [.int (m 66 ((70 + (6 * J)) + I)), .int (nI J), .int ((nI I) + 1), .ref 65], m)) rfl ?_
              refine mz_do (R := mz_r195) (as := [.ref 65, .int ((nI I) + 1), .int (nI J), .int (m 66 ((70 + (6 * J)) + I))]) (rest := []) (r1 := some (.int ve2)) (m1 := m) rfl (Ee2.deep (by decide)) ?_
              refine mz_go 1 (c' := (if ve2 = 0 then 31 else 55, [some (.ref 65), some (.int (nI I)), some (.int (nI J)), some (.int (m 66 ((70 + (6 * J)) + I)))], [], m)) rfl ?_
              refine mz_ifT q3 ?_
              refine mz_go 5 (c' := (36, [some (.ref 65), some (.int (nI I)), some (.int (nI J)), some (.int (m 66 ((70 + (6 * J)) + I)))], [.int ((nI J) - 1), .int (nI I), .ref 65], m)) rfl ?_
              rw [show nI J - 1 = -1 from by rw [show J = 0 by omega]; decide]
              refine mz_go 1 (c' := (37, [some (.ref 65), some (.int (nI I)), some (.int (nI J)), some (.int (m 66 ((70 + (6 * J)) + I)))], [.int (m 66 ((70 + (6 * J)) + I)), .int (-1), .int (nI I), .ref 65], m)) rfl ?_
              refine mz_do (R := mz_r195) (as := [.ref 65, .int (nI I), .int (-1), .int (m 66 ((70 + (6 * J)) + I))]) (rest := []) (r1 := some (.int ve3)) (m1 := m) rfl (Ee3.deep (by decide)) ?_
              refine mz_go 1 (c' := (if ve3 = 0 then 43 else 55, [some (.ref 65), some (.int (nI I)), some (.int (nI J)), some (.int (m 66 ((70 + (6 * J)) + I)))], [], m)) rfl ?_
              refine mz_ifT q5 ?_
              refine mz_go 6 (c' := (49, [some (.ref 65), some (.int (nI I)), some (.int (nI J)), some (.int (m 66 ((70 + (6 * J)) + I)))], [.int (m 66 ((70 + (6 * J)) + I)), .int ((nI J) + 1), .int (nI I), .ref 65], m)) rfl ?_
              refine mz_do (R := mz_r195) (as := [.ref 65, .int (nI I), .int ((nI J) + 1), .int (m 66 ((70 + (6 * J)) + I))]) (rest := []) (r1 := some (.int ve4)) (m1 := m) rfl (Ee4.deep (by decide)) ?_
              refine mz_go 1 (c' := (if ve4 = 0 then 59 else 55, [some (.ref 65), some (.int (nI I)), some (.int (nI J)), some (.int (m 66 ((70 + (6 * J)) + I)))], [], m)) rfl ?_
              refine mz_ifF q6 ?_
              refine mz_go 2 (c' := (60, [some (.ref 65), some (.int (nI I)), some (.int (nI J)), some (.int (m 66 ((70 + (6 * J)) + I)))], [.int 1], m)) rfl ?_
              exact mz_ret rfl
          · refine ⟨1, ⟨?_, rfl⟩, (by unfold vq_ed; rw [vq_m1 q1]; rw [← Pe1, if_pos q2]; rw [← Pe2, if_pos q3]; rw [vq_m1 q4]; rw [← Pe3, if_neg q5])⟩
            refine mz_go 3 (c' := (3, [some (.ref 65), some (.int (nI I)), some (.int (nI J)), none], [.int (nI J), .int (nI I), .ref 65], m)) rfl ?_
            refine mz_do (R := mz_r186) (as := [.ref 65, .int (nI I), .int (nI J)]) (rest := []) (r1 := some (.int (m 66 ((70 + (6 * J)) + I)))) (m1 := m) rfl ((vr_col (m := m) (A := I) (B := J) (by omega) (by omega) (a := nI I) (b := nI J) rfl rfl).deep (by decide)) ?_
            refine mz_go 5 (c' := (11, [some (.ref 65), some (.int (nI I)), some (.int (nI J)), some (.int (m 66 ((70 + (6 * J)) + I)))], [.int ((nI I) - 1), .ref 65], m)) rfl ?_
            rw [show nI I - 1 = -1 from by rw [show I = 0 by omega]; decide]
            refine mz_go 2 (c' := (13, [some (.ref 65), some (.int (nI I)), some (.int (nI J)), some (.int (m 66 ((70 + (6 * J)) + I)))], [.int (m 66 ((70 + (6 * J)) + I)), .int (nI J), .int (-1), .ref 65], m)) rfl ?_
            refine mz_do (R := mz_r195) (as := [.ref 65, .int (-1), .int (nI J), .int (m 66 ((70 + (6 * J)) + I))]) (rest := []) (r1 := some (.int ve1)) (m1 := m) rfl (Ee1.deep (by decide)) ?_
            refine mz_go 1 (c' := (if ve1 = 0 then 19 else 55, [some (.ref 65), some (.int (nI I)), some (.int (nI J)), some (.int (m 66 ((70 + (6 * J)) + I)))], [], m)) rfl ?_
            refine mz_ifT q2 ?_
            refine mz_go 6 (c' := (25, [some (.ref 65), some (.int (nI I)), some (.int (nI J)), some (.int (m 66 ((70 + (6 * J)) + I)))], [.int (m 66 ((70 + (6 * J)) + I)), .int (nI J), .int ((nI I) + 1), .ref 65], m)) rfl ?_
            refine mz_do (R := mz_r195) (as := [.ref 65, .int ((nI I) + 1), .int (nI J), .int (m 66 ((70 + (6 * J)) + I))]) (rest := []) (r1 := some (.int ve2)) (m1 := m) rfl (Ee2.deep (by decide)) ?_
            refine mz_go 1 (c' := (if ve2 = 0 then 31 else 55, [some (.ref 65), some (.int (nI I)), some (.int (nI J)), some (.int (m 66 ((70 + (6 * J)) + I)))], [], m)) rfl ?_
            refine mz_ifT q3 ?_
            refine mz_go 5 (c' := (36, [some (.ref 65), some (.int (nI I)), some (.int (nI J)), some (.int (m 66 ((70 + (6 * J)) + I)))], [.int ((nI J) - 1), .int (nI I), .ref 65], m)) rfl ?_
            rw [show nI J - 1 = -1 from by rw [show J = 0 by omega]; decide]
            refine mz_go 1 (c' := (37, [some (.ref 65), some (.int (nI I)), some (.int (nI J)), some (.int (m 66 ((70 + (6 * J)) + I)))], [.int (m 66 ((70 + (6 * J)) + I)), .int (-1), .int (nI I), .ref 65], m)) rfl ?_
            refine mz_do (R := mz_r195) (as := [.ref 65, .int (nI I), .int (-1), .int (m 66 ((70 + (6 * J)) + I))]) (rest := []) (r1 := some (.int ve3)) (m1 := m) rfl (Ee3.deep (by decide)) ?_
            refine mz_go 1 (c' := (if ve3 = 0 then 43 else 55, [some (.ref 65), some (.int (nI I)), some (.int (nI J)), some (.int (m 66 ((70 + (6 * J)) + I)))], [], m)) rfl ?_
            refine mz_ifF q5 ?_
            refine mz_go 2 (c' := (60, [some (.ref 65), some (.int (nI I)), some (.int (nI J)), some (.int (m 66 ((70 + (6 * J)) + I)))], [.int 1], m)) rfl ?_
            exact mz_ret rfl
        · obtain ⟨ve3, Ee3, Pe3⟩ := vr_oth (m := m) hWW hHH hWH h6660 h6661 (nI I) ((nI J) - 1) (m 66 ((70 + (6 * J)) + I))
          by_cases q7 : ve3 = 0
          · obtain ⟨ve4, Ee4, Pe4⟩ := vr_oth (m := m) hWW hHH hWH h6660 h6661 (nI I) ((nI J) + 1) (m 66 ((70 + (6 * J)) + I))
            by_cases q8 : ve4 = 0
            · refine ⟨0, ⟨?_, rfl⟩, (by unfold vq_ed; rw [vq_m1 q1]; rw [← Pe1, if_pos q2]; rw [← Pe2, if_pos q3]; rw [← Pe3, if_pos q7]; rw [← Pe4, if_pos q8])⟩
              refine mz_go 3 (c' := (3, [some (.ref 65), some (.int (nI I)), some (.int (nI J)), none], [.int (nI J), .int (nI I), .ref 65], m)) rfl ?_
              refine mz_do (R := mz_r186) (as := [.ref 65, .int (nI I), .int (nI J)]) (rest := []) (r1 := some (.int (m 66 ((70 + (6 * J)) + I)))) (m1 := m) rfl ((vr_col (m := m) (A := I) (B := J) (by omega) (by omega) (a := nI I) (b := nI J) rfl rfl).deep (by decide)) ?_
              refine mz_go 5 (c' := (11, [some (.ref 65), some (.int (nI I)), some (.int (nI J)), some (.int (m 66 ((70 + (6 * J)) + I)))], [.int ((nI I) - 1), .ref 65], m)) rfl ?_
              rw [show nI I - 1 = -1 from by rw [show I = 0 by omega]; decide]
              refine mz_go 2 (c' := (13, [some (.ref 65), some (.int (nI I)), some (.int (nI J)), some (.int (m 66 ((70 + (6 * J)) + I)))], [.int (m 66 ((70 + (6 * J)) + I)), .int (nI J), .int (-1), .ref 65], m)) rfl ?_
              refine mz_do (R := mz_r195) (as := [.ref 65, .int (-1), .int (nI J), .int (m 66 ((70 + (6 * J)) + I))]) (rest := []) (r1 := some (.int ve1)) (m1 := m) rfl (Ee1.deep (by decide)) ?_
              refine mz_go 1 (c' := (if ve1 = 0 then 19 else 55, [some (.ref 65), some (.int (nI I)), some (.int (nI J)), some (.int (m 66 ((70 + (6 * J)) + I)))], [], m)) rfl ?_
              refine mz_ifT q2 ?_
              refine mz_go 6 (c' := (25, [some (.ref 65), some (.int (nI I)), some (.int (nI J)), some (.int (m 66 ((70 + (6 * J)) + I)))], [.int (m 66 ((70 + (6 * J)) + I)), .int (nI J), .int ((nI I) + 1), .ref 65], m)) rfl ?_
              refine mz_do (R := mz_r195) (as := [.ref 65, .int ((nI I) + 1), .int (nI J), .int (m 66 ((70 + (6 * J)) + I))]) (rest := []) (r1 := some (.int ve2)) (m1 := m) rfl (Ee2.deep (by decide)) ?_
              refine mz_go 1 (c' := (if ve2 = 0 then 31 else 55, [some (.ref 65), some (.int (nI I)), some (.int (nI J)), some (.int (m 66 ((70 + (6 * J)) + I)))], [], m)) rfl ?_
              refine mz_ifT q3 ?_
              refine mz_go 6 (c' := (37, [some (.ref 65), some (.int (nI I)), some (.int (nI J)), some (.int (m 66 ((70 + (6 * J)) + I)))], [.int (m 66 ((70 + (6 * J)) + I)), .int ((nI J) - 1), .int (nI I), .ref 65], m)) rfl ?_
              refine mz_do (R := mz_r195) (as := [.ref 65, .int (nI I), .int ((nI J) - 1), .int (m 66 ((70 + (6 * J)) + I))]) (rest := []) (r1 := some (.int ve3)) (m1 := m) rfl (Ee3.deep (by decide)) ?_
              refine mz_go 1 (c' := (if ve3 = 0 then 43 else 55, [some (.ref 65), some (.int (nI I)), some (.int (nI J)), some (.int (m 66 ((70 + (6 * J)) + I)))], [], m)) rfl ?_
              refine mz_ifT q7 ?_
              refine mz_go 6 (c' := (49, [some (.ref 65), some (.int (nI I)), some (.int (nI J)), some (.int (m 66 ((70 + (6 * J)) + I)))], [.int (m 66 ((70 + (6 * J)) + I)), .int ((nI J) + 1), .int (nI I), .ref 65], m)) rfl ?_
              refine mz_do (R := mz_r195) (as := [.ref 65, .int (nI I), .int ((nI J) + 1), .int (m 66 ((70 + (6 * J)) + I))]) (rest := []) (r1 := some (.int ve4)) (m1 := m) rfl (Ee4.deep (by decide)) ?_
              refine mz_go 1 (c' := (if ve4 = 0 then 59 else 55, [some (.ref 65), some (.int (nI I)), some (.int (nI J)), some (.int (m 66 ((70 + (6 * J)) + I)))], [], m)) rfl ?_
              refine mz_ifT q8 ?_
              refine mz_go 1 (c' := (60, [some (.ref 65), some (.int (nI I)), some (.int (nI J)), some (.int (m 66 ((70 + (6 * J)) + I)))], [.int 0], m)) rfl ?_
              exact mz_ret rfl
            · refine ⟨1, ⟨?_, rfl⟩, (by unfold vq_ed; rw [vq_m1 q1]; rw [← Pe1, if_pos q2]; rw [← Pe2, if_pos q3]; rw [← Pe3, if_pos q7]; rw [← Pe4, if_neg q8])⟩
              refine mz_go 3 (c' := (3, [some (.ref 65), some (.int (nI I)), some (.int (nI J)), none], [.int (nI J), .int (nI I), .ref 65], m)) rfl ?_
              refine mz_do (R := mz_r186) (as := [.ref 65, .int (nI I), .int (nI J)]) (rest := []) (r1 := some (.int (m 66 ((70 + (6 * J)) + I)))) (m1 := m) rfl ((vr_col (m := m) (A := I) (B := J) (by omega) (by omega) (a := nI I) (b := nI J) rfl rfl).deep (by decide)) ?_
              refine mz_go 5 (c' := (11, [some (.ref 65), some (.int (nI I)), some (.int (nI J)), some (.int (m 66 ((70 + (6 * J)) + I)))], [.int ((nI I) - 1), .ref 65], m)) rfl ?_
              rw [show nI I - 1 = -1 from by rw [show I = 0 by omega]; decide]
              refine mz_go 2 (c' := (13, [some (.ref 65), some (.int (nI I)), some (.int (nI J)), some (.int (m 66 ((70 + (6 * J)) + I)))], [.int (m 66 ((70 + (6 * J)) + I)), .int (nI J), .int (-1), .ref 65], m)) rfl ?_
              refine mz_do (R := mz_r195) (as := [.ref 65, .int (-1), .int (nI J), .int (m 66 ((70 + (6 * J)) + I))]) (rest := []) (r1 := some (.int ve1)) (m1 := m) rfl (Ee1.deep (by decide)) ?_
              refine mz_go 1 (c' := (if ve1 = 0 then 19 else 55, [some (.ref 65), some (.int (nI I)), some (.int (nI J)), some (.int (m 66 ((70 + (6 * J)) + I)))], [], m)) rfl ?_
              refine mz_ifT q2 ?_
              refine mz_go 6 (c' := (25, [some (.ref 65), some (.int (nI I)), some (.int (nI J)), some (.int (m 66 ((70 + (6 * J)) + I)))], [.int (m 66 ((70 + (6 * J)) + I)), .int (nI J), .int ((nI I) + 1), .ref 65], m)) rfl ?_
              refine mz_do (R := mz_r195) (as := [.ref 65, .int ((nI I) + 1), .int (nI J), .int (m 66 ((70 + (6 * J)) + I))]) (rest := []) (r1 := some (.int ve2)) (m1 := m) rfl (Ee2.deep (by decide)) ?_
              refine mz_go 1 (c' := (if ve2 = 0 then 31 else 55, [some (.ref 65), some (.int (nI I)), some (.int (nI J)), some (.int (m 66 ((70 + (6 * J)) + I)))], [], m)) rfl ?_
              refine mz_ifT q3 ?_
              refine mz_go 6 (c' := (37, [some (.ref 65), some (.int (nI I)), some (.int (nI J)), some (.int (m 66 ((70 + (6 * J)) + I)))], [.int (m 66 ((70 + (6 * J)) + I)), .int ((nI J) - 1), .int (nI I), .ref 65], m)) rfl ?_
              refine mz_do (R := mz_r195) (as := [.ref 65, .int (nI I), .int ((nI J) - 1), .int (m 66 ((70 + (6 * J)) + I))]) (rest := []) (r1 := some (.int ve3)) (m1 := m) rfl (Ee3.deep (by decide)) ?_
              refine mz_go 1 (c' := (if ve3 = 0 then 43 else 55, [some (.ref 65), some (.int (nI I)), some (.int (nI J)), some (.int (m 66 ((70 + (6 * J)) + I)))], [], m)) rfl ?_
              refine mz_ifT q7 ?_
              refine mz_go 6 (c' := (49, [some (.ref 65), some (.int (nI I)), some (.int (nI J)), some (.int (m 66 ((70 + (6 * J)) + I)))], [.int (m 66 ((70 + (6 * J)) + I)), .int ((nI J) + 1), .int (nI I), .ref 65], m)) rfl ?_
              refine mz_do (R := mz_r195) (as := [.ref 65, .int (nI I), .int ((nI J) + 1), .int (m 66 ((70 + (6 * J)) + I))]) (rest := []) (r1 := some (.int ve4)) (m1 := m) rfl (Ee4.deep (by decide)) ?_
              refine mz_go 1 (c' := (if ve4 = 0 then 59 else 55, [some (.ref 65), some (.int (nI I)), some (.int (nI J)), some (.int (m 66 ((70 + (6 * J)) + I)))], [], m)) rfl ?_
              refine mz_ifF q8 ?_
              refine mz_go 2 (c' := (60, [some (.ref 65), some (.int (nI I)), some (.int (nI J)), some (.int (m 66 ((70 + (6 * J)) + I)))], [.int 1], m)) rfl ?_
              exact mz_ret rfl
          · refine ⟨1, ⟨?_, rfl⟩, (by unfold vq_ed; rw [vq_m1 q1]; rw [← Pe1, if_pos q2]; rw [← Pe2, if_pos q3]; rw [← Pe3, if_neg q7])⟩
            refine mz_go 3 (c' := (3, [some (.ref 65), some (.int (nI I)), some (.int (nI J)), none], [.int (nI J), .int (nI I), .ref 65], m)) rfl ?_
            refine mz_do (R := mz_r186) (as := [.ref 65, .int (nI I), .int (nI J)]) (rest := []) (r1 := some (.int (m 66 ((70 + (6 * J)) + I)))) (m1 := m) rfl ((vr_col (m := m) (A := I) (B := J) (by omega) (by omega) (a := nI I) (b := nI J) rfl rfl).deep (by decide)) ?_
            refine mz_go 5 (c' := (11, [some (.ref 65), some (.int (nI I)), some (.int (nI J)), some (.int (m 66 ((70 + (6 * J)) + I)))], [.int ((nI I) - 1), .ref 65], m)) rfl ?_
            rw [show nI I - 1 = -1 from by rw [show I = 0 by omega]; decide]
            refine mz_go 2 (c' := (13, [some (.ref 65), some (.int (nI I)), some (.int (nI J)), some (.int (m 66 ((70 + (6 * J)) + I)))], [.int (m 66 ((70 + (6 * J)) + I)), .int (nI J), .int (-1), .ref 65], m)) rfl ?_
            refine mz_do (R := mz_r195) (as := [.ref 65, .int (-1), .int (nI J), .int (m 66 ((70 + (6 * J)) + I))]) (rest := []) (r1 := some (.int ve1)) (m1 := m) rfl (Ee1.deep (by decide)) ?_
            refine mz_go 1 (c' := (if ve1 = 0 then 19 else 55, [some (.ref 65), some (.int (nI I)), some (.int (nI J)), some (.int (m 66 ((70 + (6 * J)) + I)))], [], m)) rfl ?_
            refine mz_ifT q2 ?_
            refine mz_go 6 (c' := (25, [some (.ref 65), some (.int (nI I)), some (.int (nI J)), some (.int (m 66 ((70 + (6 * J)) + I)))], [.int (m 66 ((70 + (6 * J)) + I)), .int (nI J), .int ((nI I) + 1), .ref 65], m)) rfl ?_
            refine mz_do (R := mz_r195) (as := [.ref 65, .int ((nI I) + 1), .int (nI J), .int (m 66 ((70 + (6 * J)) + I))]) (rest := []) (r1 := some (.int ve2)) (m1 := m) rfl (Ee2.deep (by decide)) ?_
            refine mz_go 1 (c' := (if ve2 = 0 then 31 else 55, [some (.ref 65), some (.int (nI I)), some (.int (nI J)), some (.int (m 66 ((70 + (6 * J)) + I)))], [], m)) rfl ?_
            refine mz_ifT q3 ?_
            refine mz_go 6 (c' := (37, [some (.ref 65), some (.int (nI I)), some (.int (nI J)), some (.int (m 66 ((70 + (6 * J)) + I)))], [.int (m 66 ((70 + (6 * J)) + I)), .int ((nI J) - 1), .int (nI I), .ref 65], m)) rfl ?_
            refine mz_do (R := mz_r195) (as := [.ref 65, .int (nI I), .int ((nI J) - 1), .int (m 66 ((70 + (6 * J)) + I))]) (rest := []) (r1 := some (.int ve3)) (m1 := m) rfl (Ee3.deep (by decide)) ?_
            refine mz_go 1 (c' := (if ve3 = 0 then 43 else 55, [some (.ref 65), some (.int (nI I)), some (.int (nI J)), some (.int (m 66 ((70 + (6 * J)) + I)))], [], m)) rfl ?_
            refine mz_ifF q7 ?_
            refine mz_go 2 (c' := (60, [some (.ref 65), some (.int (nI I)), some (.int (nI J)), some (.int (m 66 ((70 + (6 * J)) + I)))], [.int 1], m)) rfl ?_
            exact mz_ret rfl
      · refine ⟨1, ⟨?_, rfl⟩, (by unfold vq_ed; rw [vq_m1 q1]; rw [← Pe1, if_pos q2]; rw [← Pe2, if_neg q3])⟩
        refine mz_go 3 (c' := (3, [some (.ref 65), some (.int (nI I)), some (.int (nI J)), none], [.int (nI J), .int (nI I), .ref 65], m)) rfl ?_
        refine mz_do (R := mz_r186) (as := [.ref 65, .int (nI I), .int (nI J)]) (rest := []) (r1 := some (.int (m 66 ((70 + (6 * J)) + I)))) (m1 := m) rfl ((vr_col (m := m) (A := I) (B := J) (by omega) (by omega) (a := nI I) (b := nI J) rfl rfl).deep (by decide)) ?_
        refine mz_go 5 (c' := (11, [some (.ref 65), some (.int (nI I)), some (.int (nI J)), some (.int (m 66 ((70 + (6 * J)) + I)))], [.int ((nI I) - 1), .ref 65], m)) rfl ?_
        rw [show nI I - 1 = -1 from by rw [show I = 0 by omega]; decide]
        refine mz_go 2 (c' := (13, [some (.ref 65), some (.int (nI I)), some (.int (nI J)), some (.int (m 66 ((70 + (6 * J)) + I)))], [.int (m 66 ((70 + (6 * J)) + I)), .int (nI J), .int (-1), .ref 65], m)) rfl ?_
        refine mz_do (R := mz_r195) (as := [.ref 65, .int (-1), .int (nI J), .int (m 66 ((70 + (6 * J)) + I))]) (rest := []) (r1 := some (.int ve1)) (m1 := m) rfl (Ee1.deep (by decide)) ?_
        refine mz_go 1 (c' := (if ve1 = 0 then 19 else 55, [some (.ref 65), some (.int (nI I)), some (.int (nI J)), some (.int (m 66 ((70 + (6 * J)) + I)))], [], m)) rfl ?_
        refine mz_ifT q2 ?_
        refine mz_go 6 (c' := (25, [some (.ref 65), some (.int (nI I)), some (.int (nI J)), some (.int (m 66 ((70 + (6 * J)) + I)))], [.int (m 66 ((70 + (6 * J)) + I)), .int (nI J), .int ((nI I) + 1), .ref 65], m)) rfl ?_
        refine mz_do (R := mz_r195) (as := [.ref 65, .int ((nI I) + 1), .int (nI J), .int (m 66 ((70 + (6 * J)) + I))]) (rest := []) (r1 := some (.int ve2)) (m1 := m) rfl (Ee2.deep (by decide)) ?_
        refine mz_go 1 (c' := (if ve2 = 0 then 31 else 55, [some (.ref 65), some (.int (nI I)), some (.int (nI J)), some (.int (m 66 ((70 + (6 * J)) + I)))], [], m)) rfl ?_
        refine mz_ifF q3 ?_
        refine mz_go 2 (c' := (60, [some (.ref 65), some (.int (nI I)), some (.int (nI J)), some (.int (m 66 ((70 + (6 * J)) + I)))], [.int 1], m)) rfl ?_
        exact mz_ret rfl
    · refine ⟨1, ⟨?_, rfl⟩, (by unfold vq_ed; rw [vq_m1 q1]; rw [← Pe1, if_neg q2])⟩
      refine mz_go 3 (c' := (3, [some (.ref 65), some (.int (nI I)), some (.int (nI J)), none], [.int (nI J), .int (nI I), .ref 65], m)) rfl ?_
      refine mz_do (R := mz_r186) (as := [.ref 65, .int (nI I), .int (nI J)]) (rest := []) (r1 := some (.int (m 66 ((70 + (6 * J)) + I)))) (m1 := m) rfl ((vr_col (m := m) (A := I) (B := J) (by omega) (by omega) (a := nI I) (b := nI J) rfl rfl).deep (by decide)) ?_
      refine mz_go 5 (c' := (11, [some (.ref 65), some (.int (nI I)), some (.int (nI J)), some (.int (m 66 ((70 + (6 * J)) + I)))], [.int ((nI I) - 1), .ref 65], m)) rfl ?_
      rw [show nI I - 1 = -1 from by rw [show I = 0 by omega]; decide]
      refine mz_go 2 (c' := (13, [some (.ref 65), some (.int (nI I)), some (.int (nI J)), some (.int (m 66 ((70 + (6 * J)) + I)))], [.int (m 66 ((70 + (6 * J)) + I)), .int (nI J), .int (-1), .ref 65], m)) rfl ?_
      refine mz_do (R := mz_r195) (as := [.ref 65, .int (-1), .int (nI J), .int (m 66 ((70 + (6 * J)) + I))]) (rest := []) (r1 := some (.int ve1)) (m1 := m) rfl (Ee1.deep (by decide)) ?_
      refine mz_go 1 (c' := (if ve1 = 0 then 19 else 55, [some (.ref 65), some (.int (nI I)), some (.int (nI J)), some (.int (m 66 ((70 + (6 * J)) + I)))], [], m)) rfl ?_
      refine mz_ifF q2 ?_
      refine mz_go 2 (c' := (60, [some (.ref 65), some (.int (nI I)), some (.int (nI J)), some (.int (m 66 ((70 + (6 * J)) + I)))], [.int 1], m)) rfl ?_
      exact mz_ret rfl
  · obtain ⟨ve1, Ee1, Pe1⟩ := vr_oth (m := m) hWW hHH hWH h6660 h6661 ((nI I) - 1) (nI J) (m 66 ((70 + (6 * J)) + I))
    by_cases q9 : ve1 = 0
    · obtain ⟨ve2, Ee2, Pe2⟩ := vr_oth (m := m) hWW hHH hWH h6660 h6661 ((nI I) + 1) (nI J) (m 66 ((70 + (6 * J)) + I))
      by_cases q10 : ve2 = 0
      · by_cases q11 : J = 0
        · obtain ⟨ve3, Ee3, Pe3⟩ := vr_oth (m := m) hWW hHH hWH h6660 h6661 (nI I) (-1) (m 66 ((70 + (6 * J)) + I))
          by_cases q12 : ve3 = 0
          · obtain ⟨ve4, Ee4, Pe4⟩ := vr_oth (m := m) hWW hHH hWH h6660 h6661 (nI I) ((nI J) + 1) (m 66 ((70 + (6 * J)) + I))
            by_cases q13 : ve4 = 0
            · refine ⟨0, ⟨?_, rfl⟩, (by unfold vq_ed; rw [← Pe1, if_pos q9]; rw [← Pe2, if_pos q10]; rw [vq_m1 q11]; rw [← Pe3, if_pos q12]; rw [← Pe4, if_pos q13])⟩
              refine mz_go 3 (c' := (3, [some (.ref 65), some (.int (nI I)), some (.int (nI J)), none], [.int (nI J), .int (nI I), .ref 65], m)) rfl ?_
              refine mz_do (R := mz_r186) (as := [.ref 65, .int (nI I), .int (nI J)]) (rest := []) (r1 := some (.int (m 66 ((70 + (6 * J)) + I)))) (m1 := m) rfl ((vr_col (m := m) (A := I) (B := J) (by omega) (by omega) (a := nI I) (b := nI J) rfl rfl).deep (by decide)) ?_
              refine mz_go 7 (c' := (13, [some (.ref 65), some (.int (nI I)), some (.int (nI J)), some (.int (m 66 ((70 + (6 * J)) + I)))], [.int (m 66 ((70 + (6 * J)) + I)), .int (nI J), .int ((nI I) - 1), .ref 65], m)) rfl ?_
              refine mz_do (R := mz_r195) (as := [.ref 65, .int ((nI I) - 1), .int (nI J), .int (m 66 ((70 + (6 * J)) + I))]) (rest := []) (r1 := some (.int ve1)) (m1 := m) rfl (Ee1.deep (by decide)) ?_
              refine mz_go 1 (c' := (if ve1 = 0 then 19 else 55, [some (.ref 65), some (.int (nI I)), some (.int (nI J)), some (.int (m 66 ((70 + (6 * J)) + I)))], [], m)) rfl ?_
              refine mz_ifT q9 ?_
              refine mz_go 6 (c' := (25, [some (.ref 65), some (.int (nI I)), some (.int (nI J)), some (.int (m 66 ((70 + (6 * J)) + I)))], [.int (m 66 ((70 + (6 * J)) + I)), .int (nI J), .int ((nI I) + 1), .ref 65], m)) rfl ?_
              refine mz_do (R := mz_r195) (as := [.ref 65, .int ((nI I) + 1), .int (nI J), .int (m 66 ((70 + (6 * J)) + I))]) (rest := []) (r1 := some (.int ve2)) (m1 := m) rfl (Ee2.deep (by decide)) ?_
              refine mz_go 1 (c' := (if ve2 = 0 then 31 else 55, [some (.ref 65), some (.int (nI I)), some (.int (nI J)), some (.int (m 66 ((70 + (6 * J)) + I)))], [], m)) rfl ?_
              refine mz_ifT q10 ?_
              refine mz_go 5 (c' := (36, [some (.ref 65), some (.int (nI I)), some (.int (nI J)), some (.int (m 66 ((70 + (6 * J)) + I)))], [.int ((nI J) - 1), .int (nI I), .ref 65], m)) rfl ?_
              rw [show nI J - 1 = -1 from by rw [show J = 0 by omega]; decide]
              refine mz_go 1 (c' := (37, [some (.ref 65), some (.int (nI I)), some (.int (nI J)), some (.int (m 66 ((70 + (6 * J)) + I)))], [.int (m 66 ((70 + (6 * J)) + I)), .int (-1), .int (nI I), .ref 65], m)) rfl ?_
              refine mz_do (R := mz_r195) (as := [.ref 65, .int (nI I), .int (-1), .int (m 66 ((70 + (6 * J)) + I))]) (rest := []) (r1 := some (.int ve3)) (m1 := m) rfl (Ee3.deep (by decide)) ?_
              refine mz_go 1 (c' := (if ve3 = 0 then 43 else 55, [some (.ref 65), some (.int (nI I)), some (.int (nI J)), some (.int (m 66 ((70 + (6 * J)) + I)))], [], m)) rfl ?_
              refine mz_ifT q12 ?_
              refine mz_go 6 (c' := (49, [some (.ref 65), some (.int (nI I)), some (.int (nI J)), some (.int (m 66 ((70 + (6 * J)) + I)))], [.int (m 66 ((70 + (6 * J)) + I)), .int ((nI J) + 1), .int (nI I), .ref 65], m)) rfl ?_
              refine mz_do (R := mz_r195) (as := [.ref 65, .int (nI I), .int ((nI J) + 1), .int (m 66 ((70 + (6 * J)) + I))]) (rest := []) (r1 := some (.int ve4)) (m1 := m) rfl (Ee4.deep (by decide)) ?_
              refine mz_go 1 (c' := (if ve4 = 0 then 59 else 55, [some (.ref 65), some (.int (nI I)), some (.int (nI J)), some (.int (m 66 ((70 + (6 * J)) + I)))], [], m)) rfl ?_
              refine mz_ifT q13 ?_
              refine mz_go 1 (c' := (60, [some (.ref 65), some (.int (nI I)), some (.int (nI J)), some (.int (m 66 ((70 + (6 * J)) + I)))], [.int 0], m)) rfl ?_
              exact mz_ret rfl
            · refine ⟨1, ⟨?_, rfl⟩, (by unfold vq_ed; rw [← Pe1, if_pos q9]; rw [← Pe2, if_pos q10]; rw [vq_m1 q11]; rw [← Pe3, if_pos q12]; rw [← Pe4, if_neg q13])⟩
              refine mz_go 3 (c' := (3, [some (.ref 65), some (.int (nI I)), some (.int (nI J)), none], [.int (nI J), .int (nI I), .ref 65], m)) rfl ?_
              refine mz_do (R := mz_r186) (as := [.ref 65, .int (nI I), .int (nI J)]) (rest := []) (r1 := some (.int (m 66 ((70 + (6 * J)) + I)))) (m1 := m) rfl ((vr_col (m := m) (A := I) (B := J) (by omega) (by omega) (a := nI I) (b := nI J) rfl rfl).deep (by decide)) ?_
              refine mz_go 7 (c' := (13, [some (.ref 65), some (.int (nI I)), some (.int (nI J)), some (.int (m 66 ((70 + (6 * J)) + I)))], [.int (m 66 ((70 + (6 * J)) + I)), .int (nI J), .int ((nI I) - 1), .ref 65], m)) rfl ?_
              refine mz_do (R := mz_r195) (as := [.ref 65, .int ((nI I) - 1), .int (nI J), .int (m 66 ((70 + (6 * J)) + I))]) (rest := []) (r1 := some (.int ve1)) (m1 := m) rfl (Ee1.deep (by decide)) ?_
              refine mz_go 1 (c' := (if ve1 = 0 then 19 else 55, [some (.ref 65), some (.int (nI I)), some (.int (nI J)), some (.int (m 66 ((70 + (6 * J)) + I)))], [], m)) rfl ?_
              refine mz_ifT q9 ?_
              refine mz_go 6 (c' := (25, [some (.ref 65), some (.int (nI I)), some (.int (nI J)), some (.int (m 66 ((70 + (6 * J)) + I)))], [.int (m 66 ((70 + (6 * J)) + I)), .int (nI J), .int ((nI I) + 1), .ref 65], m)) rfl ?_
              refine mz_do (R := mz_r195) (as := [.ref 65, .int ((nI I) + 1), .int (nI J), .int (m 66 ((70 + (6 * J)) + I))]) (rest := []) (r1 := some (.int ve2)) (m1 := m) rfl (Ee2.deep (by decide)) ?_
              refine mz_go 1 (c' := (if ve2 = 0 then 31 else 55, [some (.ref 65), some (.int (nI I)), some (.int (nI J)), some (.int (m 66 ((70 + (6 * J)) + I)))], [], m)) rfl ?_
              refine mz_ifT q10 ?_
              refine mz_go 5 (c' := (36, [some (.ref 65), some (.int (nI I)), some (.int (nI J)), some (.int (m 66 ((70 + (6 * J)) + I)))], [.int ((nI J) - 1), .int (nI I), .ref 65], m)) rfl ?_
              rw [show nI J - 1 = -1 from by rw [show J = 0 by omega]; decide]
              refine mz_go 1 (c' := (37, [some (.ref 65), some (.int (nI I)), some (.int (nI J)), some (.int (m 66 ((70 + (6 * J)) + I)))], [.int (m 66 ((70 + (6 * J)) + I)), .int (-1), .int (nI I), .ref 65], m)) rfl ?_
              refine mz_do (R := mz_r195) (as := [.ref 65, .int (nI I), .int (-1), .int (m 66 ((70 + (6 * J)) + I))]) (rest := []) (r1 := some (.int ve3)) (m1 := m) rfl (Ee3.deep (by decide)) ?_
              refine mz_go 1 (c' := (if ve3 = 0 then 43 else 55, [some (.ref 65), some (.int (nI I)), some (.int (nI J)), some (.int (m 66 ((70 + (6 * J)) + I)))], [], m)) rfl ?_
              refine mz_ifT q12 ?_
              refine mz_go 6 (c' := (49, [some (.ref 65), some (.int (nI I)), some (.int (nI J)), some (.int (m 66 ((70 + (6 * J)) + I)))], [.int (m 66 ((70 + (6 * J)) + I)), .int ((nI J) + 1), .int (nI I), .ref 65], m)) rfl ?_
              refine mz_do (R := mz_r195) (as := [.ref 65, .int (nI I), .int ((nI J) + 1), .int (m 66 ((70 + (6 * J)) + I))]) (rest := []) (r1 := some (.int ve4)) (m1 := m) rfl (Ee4.deep (by decide)) ?_
              refine mz_go 1 (c' := (if ve4 = 0 then 59 else 55, [some (.ref 65), some (.int (nI I)), some (.int (nI J)), some (.int (m 66 ((70 + (6 * J)) + I)))], [], m)) rfl ?_
              refine mz_ifF q13 ?_
              refine mz_go 2 (c' := (60, [some (.ref 65), some (.int (nI I)), some (.int (nI J)), some (.int (m 66 ((70 + (6 * J)) + I)))], [.int 1], m)) rfl ?_
              exact mz_ret rfl
          · refine ⟨1, ⟨?_, rfl⟩, (by unfold vq_ed; rw [← Pe1, if_pos q9]; rw [← Pe2, if_pos q10]; rw [vq_m1 q11]; rw [← Pe3, if_neg q12])⟩
            refine mz_go 3 (c' := (3, [some (.ref 65), some (.int (nI I)), some (.int (nI J)), none], [.int (nI J), .int (nI I), .ref 65], m)) rfl ?_
            refine mz_do (R := mz_r186) (as := [.ref 65, .int (nI I), .int (nI J)]) (rest := []) (r1 := some (.int (m 66 ((70 + (6 * J)) + I)))) (m1 := m) rfl ((vr_col (m := m) (A := I) (B := J) (by omega) (by omega) (a := nI I) (b := nI J) rfl rfl).deep (by decide)) ?_
            refine mz_go 7 (c' := (13, [some (.ref 65), some (.int (nI I)), some (.int (nI J)), some (.int (m 66 ((70 + (6 * J)) + I)))], [.int (m 66 ((70 + (6 * J)) + I)), .int (nI J), .int ((nI I) - 1), .ref 65], m)) rfl ?_
            refine mz_do (R := mz_r195) (as := [.ref 65, .int ((nI I) - 1), .int (nI J), .int (m 66 ((70 + (6 * J)) + I))]) (rest := []) (r1 := some (.int ve1)) (m1 := m) rfl (Ee1.deep (by decide)) ?_
            refine mz_go 1 (c' := (if ve1 = 0 then 19 else 55, [some (.ref 65), some (.int (nI I)), some (.int (nI J)), some (.int (m 66 ((70 + (6 * J)) + I)))], [], m)) rfl ?_
            refine mz_ifT q9 ?_
            refine mz_go 6 (c' := (25, [some (.ref 65), some (.int (nI I)), some (.int (nI J)), some (.int (m 66 ((70 + (6 * J)) + I)))], [.int (m 66 ((70 + (6 * J)) + I)), .int (nI J), .int ((nI I) + 1), .ref 65], m)) rfl ?_
            refine mz_do (R := mz_r195) (as := [.ref 65, .int ((nI I) + 1), .int (nI J), .int (m 66 ((70 + (6 * J)) + I))]) (rest := []) (r1 := some (.int ve2)) (m1 := m) rfl (Ee2.deep (by decide)) ?_
            refine mz_go 1 (c' := (if ve2 = 0 then 31 else 55, [some (.ref 65), some (.int (nI I)), some (.int (nI J)), some (.int (m 66 ((70 + (6 * J)) + I)))], [], m)) rfl ?_
            refine mz_ifT q10 ?_
            refine mz_go 5 (c' := (36, [some (.ref 65), some (.int (nI I)), some (.int (nI J)), some (.int (m 66 ((70 + (6 * J)) + I)))], [.int ((nI J) - 1), .int (nI I), .ref 65], m)) rfl ?_
            rw [show nI J - 1 = -1 from by rw [show J = 0 by omega]; decide]
            refine mz_go 1 (c' := (37, [some (.ref 65), some (.int (nI I)), some (.int (nI J)), some (.int (m 66 ((70 + (6 * J)) + I)))], [.int (m 66 ((70 + (6 * J)) + I)), .int (-1), .int (nI I), .ref 65], m)) rfl ?_
            refine mz_do (R := mz_r195) (as := [.ref 65, .int (nI I), .int (-1), .int (m 66 ((70 + (6 * J)) + I))]) (rest := []) (r1 := some (.int ve3)) (m1 := m) rfl (Ee3.deep (by decide)) ?_
            refine mz_go 1 (c' := (if ve3 = 0 then 43 else 55, [some (.ref 65), some (.int (nI I)), some (.int (nI J)), some (.int (m 66 ((70 + (6 * J)) + I)))], [], m)) rfl ?_
            refine mz_ifF q12 ?_
            refine mz_go 2 (c' := (60, [some (.ref 65), some (.int (nI I)), some (.int (nI J)), some (.int (m 66 ((70 + (6 * J)) + I)))], [.int 1], m)) rfl ?_
            exact mz_ret rfl
        · obtain ⟨ve3, Ee3, Pe3⟩ := vr_oth (m := m) hWW hHH hWH h6660 h6661 (nI I) ((nI J) - 1) (m 66 ((70 + (6 * J)) + I))
          by_cases q14 : ve3 = 0
          · obtain ⟨ve4, Ee4, Pe4⟩ := vr_oth (m := m) hWW hHH hWH h6660 h6661 (nI I) ((nI J) + 1) (m 66 ((70 + (6 * J)) + I))
            by_cases q15 : ve4 = 0
            · refine ⟨0, ⟨?_, rfl⟩, (by unfold vq_ed; rw [← Pe1, if_pos q9]; rw [← Pe2, if_pos q10]; rw [← Pe3, if_pos q14]; rw [← Pe4, if_pos q15])⟩
              refine mz_go 3 (c' := (3, [some (.ref 65), some (.int (nI I)), some (.int (nI J)), none], [.int (nI J), .int (nI I), .ref 65], m)) rfl ?_
              refine mz_do (R := mz_r186) (as := [.ref 65, .int (nI I), .int (nI J)]) (rest := []) (r1 := some (.int (m 66 ((70 + (6 * J)) + I)))) (m1 := m) rfl ((vr_col (m := m) (A := I) (B := J) (by omega) (by omega) (a := nI I) (b := nI J) rfl rfl).deep (by decide)) ?_
              refine mz_go 7 (c' := (13, [some (.ref 65), some (.int (nI I)), some (.int (nI J)), some (.int (m 66 ((70 + (6 * J)) + I)))], [.int (m 66 ((70 + (6 * J)) + I)), .int (nI J), .int ((nI I) - 1), .ref 65], m)) rfl ?_
              refine mz_do (R := mz_r195) (as := [.ref 65, .int ((nI I) - 1), .int (nI J), .int (m 66 ((70 + (6 * J)) + I))]) (rest := []) (r1 := some (.int ve1)) (m1 := m) rfl (Ee1.deep (by decide)) ?_
              refine mz_go 1 (c' := (if ve1 = 0 then 19 else 55, [some (.ref 65), some (.int (nI I)), some (.int (nI J)), some (.int (m 66 ((70 + (6 * J)) + I)))], [], m)) rfl ?_
              refine mz_ifT q9 ?_
              refine mz_go 6 (c' := (25, [some (.ref 65), some (.int (nI I)), some (.int (nI J)), some (.int (m 66 ((70 + (6 * J)) + I)))], [.int (m 66 ((70 + (6 * J)) + I)), .int (nI J), .int ((nI I) + 1), .ref 65], m)) rfl ?_
              refine mz_do (R := mz_r195) (as := [.ref 65, .int ((nI I) + 1), .int (nI J), .int (m 66 ((70 + (6 * J)) + I))]) (rest := []) (r1 := some (.int ve2)) (m1 := m) rfl (Ee2.deep (by decide)) ?_
              refine mz_go 1 (c' := (if ve2 = 0 then 31 else 55, [some (.ref 65), some (.int (nI I)), some (.int (nI J)), some (.int (m 66 ((70 + (6 * J)) + I)))], [], m)) rfl ?_
              refine mz_ifT q10 ?_
              refine mz_go 6 (c' := (37, [some (.ref 65), some (.int (nI I)), some (.int (nI J)), some (.int (m 66 ((70 + (6 * J)) + I)))], [.int (m 66 ((70 + (6 * J)) + I)), .int ((nI J) - 1), .int (nI I), .ref 65], m)) rfl ?_
              refine mz_do (R := mz_r195) (as := [.ref 65, .int (nI I), .int ((nI J) - 1), .int (m 66 ((70 + (6 * J)) + I))]) (rest := []) (r1 := some (.int ve3)) (m1 := m) rfl (Ee3.deep (by decide)) ?_
              refine mz_go 1 (c' := (if ve3 = 0 then 43 else 55, [some (.ref 65), some (.int (nI I)), some (.int (nI J)), some (.int (m 66 ((70 + (6 * J)) + I)))], [], m)) rfl ?_
              refine mz_ifT q14 ?_
              refine mz_go 6 (c' := (49, [some (.ref 65), some (.int (nI I)), some (.int (nI J)), some (.int (m 66 ((70 + (6 * J)) + I)))], [.int (m 66 ((70 + (6 * J)) + I)), .int ((nI J) + 1), .int (nI I), .ref 65], m)) rfl ?_
              refine mz_do (R := mz_r195) (as := [.ref 65, .int (nI I), .int ((nI J) + 1), .int (m 66 ((70 + (6 * J)) + I))]) (rest := []) (r1 := some (.int ve4)) (m1 := m) rfl (Ee4.deep (by decide)) ?_
              refine mz_go 1 (c' := (if ve4 = 0 then 59 else 55, [some (.ref 65), some (.int (nI I)), some (.int (nI J)), some (.int (m 66 ((70 + (6 * J)) + I)))], [], m)) rfl ?_
              refine mz_ifT q15 ?_
              refine mz_go 1 (c' := (60, [some (.ref 65), some (.int (nI I)), some (.int (nI J)), some (.int (m 66 ((70 + (6 * J)) + I)))], [.int 0], m)) rfl ?_
              exact mz_ret rfl
            · refine ⟨1, ⟨?_, rfl⟩, (by unfold vq_ed; rw [← Pe1, if_pos q9]; rw [← Pe2, if_pos q10]; rw [← Pe3, if_pos q14]; rw [← Pe4, if_neg q15])⟩
              refine mz_go 3 (c' := (3, [some (.ref 65), some (.int (nI I)), some (.int (nI J)), none], [.int (nI J), .int (nI I), .ref 65], m)) rfl ?_
              refine mz_do (R := mz_r186) (as := [.ref 65, .int (nI I), .int (nI J)]) (rest := []) (r1 := some (.int (m 66 ((70 + (6 * J)) + I)))) (m1 := m) rfl ((vr_col (m := m) (A := I) (B := J) (by omega) (by omega) (a := nI I) (b := nI J) rfl rfl).deep (by decide)) ?_
              refine mz_go 7 (c' := (13, [some (.ref 65), some (.int (nI I)), some (.int (nI J)), some (.int (m 66 ((70 + (6 * J)) + I)))], [.int (m 66 ((70 + (6 * J)) + I)), .int (nI J), .int ((nI I) - 1), .ref 65], m)) rfl ?_
              refine mz_do (R := mz_r195) (as := [.ref 65, .int ((nI I) - 1), .int (nI J), .int (m 66 ((70 + (6 * J)) + I))]) (rest := []) (r1 := some (.int ve1)) (m1 := m) rfl (Ee1.deep (by decide)) ?_
              refine mz_go 1 (c' := (if ve1 = 0 then 19 else 55, [some (.ref 65), some (.int (nI I)), some (.int (nI J)), some (.int (m 66 ((70 + (6 * J)) + I)))], [], m)) rfl ?_
              refine mz_ifT q9 ?_
              refine mz_go 6 (c' := (25, [some (.ref 65), some (.int (nI I)), some (.int (nI J)), some (.int (m 66 ((70 + (6 * J)) + I)))], [.int (m 66 ((70 + (6 * J)) + I)), .int (nI J), .int ((nI I) + 1), .ref 65], m)) rfl ?_
              refine mz_do (R := mz_r195) (as := [.ref 65, .int ((nI I) + 1), .int (nI J), .int (m 66 ((70 + (6 * J)) + I))]) (rest := []) (r1 := some (.int ve2)) (m1 := m) rfl (Ee2.deep (by decide)) ?_
              refine mz_go 1 (c' := (if ve2 = 0 then 31 else 55, [some (.ref 65), some (.int (nI I)), some (.int (nI J)), some (.int (m 66 ((70 + (6 * J)) + I)))], [], m)) rfl ?_
              refine mz_ifT q10 ?_
              refine mz_go 6 (c' := (37, [some (.ref 65), some (.int (nI I)), some (.int (nI J)), some (.int (m 66 ((70 + (6 * J)) + I)))], [.int (m 66 ((70 + (6 * J)) + I)), .int ((nI J) - 1), .int (nI I), .ref 65], m)) rfl ?_
              refine mz_do (R := mz_r195) (as := [.ref 65, .int (nI I), .int ((nI J) - 1), .int (m 66 ((70 + (6 * J)) + I))]) (rest := []) (r1 := some (.int ve3)) (m1 := m) rfl (Ee3.deep (by decide)) ?_
              refine mz_go 1 (c' := (if ve3 = 0 then 43 else 55, [some (.ref 65), some (.int (nI I)), some (.int (nI J)), some (.int (m 66 ((70 + (6 * J)) + I)))], [], m)) rfl ?_
              refine mz_ifT q14 ?_
              refine mz_go 6 (c' := (49, [some (.ref 65), some (.int (nI I)), some (.int (nI J)), some (.int (m 66 ((70 + (6 * J)) + I)))], [.int (m 66 ((70 + (6 * J)) + I)), .int ((nI J) + 1), .int (nI I), .ref 65], m)) rfl ?_
              refine mz_do (R := mz_r195) (as := [.ref 65, .int (nI I), .int ((nI J) + 1), .int (m 66 ((70 + (6 * J)) + I))]) (rest := []) (r1 := some (.int ve4)) (m1 := m) rfl (Ee4.deep (by decide)) ?_
              refine mz_go 1 (c' := (if ve4 = 0 then 59 else 55, [some (.ref 65), some (.int (nI I)), some (.int (nI J)), some (.int (m 66 ((70 + (6 * J)) + I)))], [], m)) rfl ?_
              refine mz_ifF q15 ?_
              refine mz_go 2 (c' := (60, [some (.ref 65), some (.int (nI I)), some (.int (nI J)), some (.int (m 66 ((70 + (6 * J)) + I)))], [.int 1], m)) rfl ?_
              exact mz_ret rfl
          · refine ⟨1, ⟨?_, rfl⟩, (by unfold vq_ed; rw [← Pe1, if_pos q9]; rw [← Pe2, if_pos q10]; rw [← Pe3, if_neg q14])⟩
            refine mz_go 3 (c' := (3, [some (.ref 65), some (.int (nI I)), some (.int (nI J)), none], [.int (nI J), .int (nI I), .ref 65], m)) rfl ?_
            refine mz_do (R := mz_r186) (as := [.ref 65, .int (nI I), .int (nI J)]) (rest := []) (r1 := some (.int (m 66 ((70 + (6 * J)) + I)))) (m1 := m) rfl ((vr_col (m := m) (A := I) (B := J) (by omega) (by omega) (a := nI I) (b := nI J) rfl rfl).deep (by decide)) ?_
            refine mz_go 7 (c' := (13, [some (.ref 65), some (.int (nI I)), some (.int (nI J)), some (.int (m 66 ((70 + (6 * J)) + I)))], [.int (m 66 ((70 + (6 * J)) + I)), .int (nI J), .int ((nI I) - 1), .ref 65], m)) rfl ?_
            refine mz_do (R := mz_r195) (as := [.ref 65, .int ((nI I) - 1), .int (nI J), .int (m 66 ((70 + (6 * J)) + I))]) (rest := []) (r1 := some (.int ve1)) (m1 := m) rfl (Ee1.deep (by decide)) ?_
            refine mz_go 1 (c' := (if ve1 = 0 then 19 else 55, [some (.ref 65), some (.int (nI I)), some (.int (nI J)), some (.int (m 66 ((70 + (6 * J)) + I)))], [], m)) rfl ?_
            refine mz_ifT q9 ?_
            refine mz_go 6 (c' := (25, [some (.ref 65), some (.int (nI I)), some (.int (nI J)), some (.int (m 66 ((70 + (6 * J)) + I)))], [.int (m 66 ((70 + (6 * J)) + I)), .int (nI J), .int ((nI I) + 1), .ref 65], m)) rfl ?_
            refine mz_do (R := mz_r195) (as := [.ref 65, .int ((nI I) + 1), .int (nI J), .int (m 66 ((70 + (6 * J)) + I))]) (rest := []) (r1 := some (.int ve2)) (m1 := m) rfl (Ee2.deep (by decide)) ?_
            refine mz_go 1 (c' := (if ve2 = 0 then 31 else 55, [some (.ref 65), some (.int (nI I)), some (.int (nI J)), some (.int (m 66 ((70 + (6 * J)) + I)))], [], m)) rfl ?_
            refine mz_ifT q10 ?_
            refine mz_go 6 (c' := (37, [some (.ref 65), some (.int (nI I)), some (.int (nI J)), some (.int (m 66 ((70 + (6 * J)) + I)))], [.int (m 66 ((70 + (6 * J)) + I)), .int ((nI J) - 1), .int (nI I), .ref 65], m)) rfl ?_
            refine mz_do (R := mz_r195) (as := [.ref 65, .int (nI I), .int ((nI J) - 1), .int (m 66 ((70 + (6 * J)) + I))]) (rest := []) (r1 := some (.int ve3)) (m1 := m) rfl (Ee3.deep (by decide)) ?_
            refine mz_go 1 (c' := (if ve3 = 0 then 43 else 55, [some (.ref 65), some (.int (nI I)), some (.int (nI J)), some (.int (m 66 ((70 + (6 * J)) + I)))], [], m)) rfl ?_
            refine mz_ifF q14 ?_
            refine mz_go 2 (c' := (60, [some (.ref 65), some (.int (nI I)), some (.int (nI J)), some (.int (m 66 ((70 + (6 * J)) + I)))], [.int 1], m)) rfl ?_
            exact mz_ret rfl
      · refine ⟨1, ⟨?_, rfl⟩, (by unfold vq_ed; rw [← Pe1, if_pos q9]; rw [← Pe2, if_neg q10])⟩
        refine mz_go 3 (c' := (3, [some (.ref 65), some (.int (nI I)), some (.int (nI J)), none], [.int (nI J), .int (nI I), .ref 65], m)) rfl ?_
        refine mz_do (R := mz_r186) (as := [.ref 65, .int (nI I), .int (nI J)]) (rest := []) (r1 := some (.int (m 66 ((70 + (6 * J)) + I)))) (m1 := m) rfl ((vr_col (m := m) (A := I) (B := J) (by omega) (by omega) (a := nI I) (b := nI J) rfl rfl).deep (by decide)) ?_
        refine mz_go 7 (c' := (13, [some (.ref 65), some (.int (nI I)), some (.int (nI J)), some (.int (m 66 ((70 + (6 * J)) + I)))], [.int (m 66 ((70 + (6 * J)) + I)), .int (nI J), .int ((nI I) - 1), .ref 65], m)) rfl ?_
        refine mz_do (R := mz_r195) (as := [.ref 65, .int ((nI I) - 1), .int (nI J), .int (m 66 ((70 + (6 * J)) + I))]) (rest := []) (r1 := some (.int ve1)) (m1 := m) rfl (Ee1.deep (by decide)) ?_
        refine mz_go 1 (c' := (if ve1 = 0 then 19 else 55, [some (.ref 65), some (.int (nI I)), some (.int (nI J)), some (.int (m 66 ((70 + (6 * J)) + I)))], [], m)) rfl ?_
        refine mz_ifT q9 ?_
        refine mz_go 6 (c' := (25, [some (.ref 65), some (.int (nI I)), some (.int (nI J)), some (.int (m 66 ((70 + (6 * J)) + I)))], [.int (m 66 ((70 + (6 * J)) + I)), .int (nI J), .int ((nI I) + 1), .ref 65], m)) rfl ?_
        refine mz_do (R := mz_r195) (as := [.ref 65, .int ((nI I) + 1), .int (nI J), .int (m 66 ((70 + (6 * J)) + I))]) (rest := []) (r1 := some (.int ve2)) (m1 := m) rfl (Ee2.deep (by decide)) ?_
        refine mz_go 1 (c' := (if ve2 = 0 then 31 else 55, [some (.ref 65), some (.int (nI I)), some (.int (nI J)), some (.int (m 66 ((70 + (6 * J)) + I)))], [], m)) rfl ?_
        refine mz_ifF q10 ?_
        refine mz_go 2 (c' := (60, [some (.ref 65), some (.int (nI I)), some (.int (nI J)), some (.int (m 66 ((70 + (6 * J)) + I)))], [.int 1], m)) rfl ?_
        exact mz_ret rfl
    · refine ⟨1, ⟨?_, rfl⟩, (by unfold vq_ed; rw [← Pe1, if_neg q9])⟩
      refine mz_go 3 (c' := (3, [some (.ref 65), some (.int (nI I)), some (.int (nI J)), none], [.int (nI J), .int (nI I), .ref 65], m)) rfl ?_
      refine mz_do (R := mz_r186) (as := [.ref 65, .int (nI I), .int (nI J)]) (rest := []) (r1 := some (.int (m 66 ((70 + (6 * J)) + I)))) (m1 := m) rfl ((vr_col (m := m) (A := I) (B := J) (by omega) (by omega) (a := nI I) (b := nI J) rfl rfl).deep (by decide)) ?_
      refine mz_go 7 (c' := (13, [some (.ref 65), some (.int (nI I)), some (.int (nI J)), some (.int (m 66 ((70 + (6 * J)) + I)))], [.int (m 66 ((70 + (6 * J)) + I)), .int (nI J), .int ((nI I) - 1), .ref 65], m)) rfl ?_
      refine mz_do (R := mz_r195) (as := [.ref 65, .int ((nI I) - 1), .int (nI J), .int (m 66 ((70 + (6 * J)) + I))]) (rest := []) (r1 := some (.int ve1)) (m1 := m) rfl (Ee1.deep (by decide)) ?_
      refine mz_go 1 (c' := (if ve1 = 0 then 19 else 55, [some (.ref 65), some (.int (nI I)), some (.int (nI J)), some (.int (m 66 ((70 + (6 * J)) + I)))], [], m)) rfl ?_
      refine mz_ifF q9 ?_
      refine mz_go 2 (c' := (60, [some (.ref 65), some (.int (nI I)), some (.int (nI J)), some (.int (m 66 ((70 + (6 * J)) + I)))], [.int 1], m)) rfl ?_
      exact mz_ret rfl
set_option maxHeartbeats 4000000 in
set_option maxRecDepth 100000 in
theorem ve_cedg {m : mz_M} {WW HH : Nat} (hWW : WW ≤ 6) (hHH : HH ≤ 6) (h202 : m 20 2 = nI WW) (h203 : m 20 3 = nI HH) {I J : Nat} (hI : I < WW) (hJ : J < HH) : mz_Me 10 mz_r12 [.ref 20, .int (nI I), .int (nI J)] m (some (.int (vq_ed (m 21) WW HH I J (m 21 ((J * 6) + I))))) m := by
  obtain ⟨v, E, e⟩ := vc_edg hWW hHH h202 h203 hI hJ
  rw [e] at E
  exact E
set_option maxHeartbeats 4000000 in
set_option maxRecDepth 100000 in
theorem ve_redg {w : mz_M} {m : mz_M} {WW HH : Nat} (hWW : WW ≤ 6) (hHH : HH ≤ 6) (hWH : WW = 0 ↔ HH = 0) (h6660 : m 66 60 = nI WW) (h6661 : m 66 61 = nI HH) {I J : Nat} (hI : I < WW) (hJ : J < HH) (h : ∀ i, i < 36 → m 66 (70 + i) = w 21 i) : mz_Me 10 mz_r196 [.ref 65, .int (nI I), .int (nI J)] m (some (.int (vq_ed (w 21) WW HH I J (w 21 ((J * 6) + I))))) m := by
  obtain ⟨v, E, e⟩ := vr_edg hWW hHH hWH h6660 h6661 hI hJ
  have e2 : m 66 ((70 + (6 * J)) + I) = w 21 ((J * 6) + I) := (congrArg (m 66) (show (70 + (6 * J)) + I = 70 + ((J * 6) + I) by omega)).trans (h _ (by omega))
  rw [e, e2, vq_ed_eq (f := (fun i => m 66 (70 + i))) (g := w 21) hWW hHH h] at E
  exact E
set_option maxHeartbeats 4000000 in
set_option maxRecDepth 100000 in
theorem sc_edge {n : Nat} (hn : n < 64) {w : mz_M} (hI : sm_I n w) (xa : Int32) (xb : Int32) : ∃ v1 v2 m1 m2, mz_Me 100 mz_r88 [.ref 0, .int xa, .int xb] w (some (.int v1)) m1 ∧ mz_Me 100 mz_r197 [.ref 65, .int xa, .int xb] m1 (some (.int v2)) m2 ∧ sm_I (n + 1) m2 ∧ v1 = v2 := by
  have hI2 := hI
  obtain ⟨hn0, ⟨-, ⟨hr80, hr5, hrr⟩, ⟨⟨TT, hTT, h81, h661⟩, htp⟩, ⟨⟨T0, hT0, hU0, hV0, -⟩, ⟨T1, hT1, hU1, hV1, -⟩, ⟨T2, hT2, hU2, hV2, -⟩⟩, ⟨hbx, hby, hbl⟩, ⟨⟨WW, HH, hWW, hHH, hWH, h202, h203, h6660, h6661⟩, h6662, h6663, h6664, hpc⟩, ⟨hth, h66160, hthr⟩, ⟨⟨AA, hAA, h111, h662⟩, h663, hwt⟩⟩, ⟨hsh, hsn⟩, ⟨hcb1, hcb2⟩, ⟨JJ, hJJ, h07, h652, hkept⟩⟩ := hI
  obtain ⟨N, hw, hr2, h660, -, -, h6615⟩ := sm_world hI2
  have hw2 := hw
  obtain ⟨hN, h4, hpb, -, -⟩ := hw2
  have hT60a := sm_T60 hV0
  have hT60b := sm_T60 hV1
  have hT60c := sm_T60 hV2
  obtain ⟨B1, hB1, e571⟩ := sm_Nof (by decide) hcb1
  obtain ⟨B2, hB2, e6519⟩ := sm_Nof (by decide) hcb2
  refine mz_two (fun _ => rfl) (fun _ => rfl) ?_
  by_cases q1 : WW ≤ 0
  · refine mz_goP 3 (c' := (7, [some (.ref 0), some (.int xa), some (.int xb)], [.ref 20], w)) rfl ?_
    refine mz_doP (R := mz_r2) (as := [.ref 20]) (rest := []) (r1 := some (.int 0)) (m1 := w) rfl ⟨?_, rfl⟩ ?_
    · refine mz_go 2 (c' := (4, [some (.ref 20)], [.int (w 20 2)], w)) rfl ?_
      rw [h202]
      refine mz_go 1 (c' := (if (nI WW) ≤ 0 then 18 else 7, [some (.ref 20)], [], w)) rfl ?_
      refine mz_ifT (show ((nI WW) ≤ 0) from (sm_leN rfl rfl (show WW ≤ 0 by omega) (show 0 < 2 ^ 31 by omega))) ?_
      refine mz_go 1 (c' := (19, [some (.ref 20)], [.int 0], w)) rfl ?_
      exact mz_ret rfl
    refine mz_goP 3 (c' := (15, [some (.ref 0), some (.int xa), some (.int xb)], [.int 2, .ref 0], w)) rfl ?_
    refine mz_doP (R := mz_r109) (as := [.ref 0, .int 2]) (rest := []) (r1 := some (.int (-1000002))) (m1 := mz_up w 64 2 ((w 64 2) + 1)) rfl ((cs_err2 (m := w)).deep (by decide)) ?_
    refine mz_retP (r := (some (.int ((-1000002))), mz_up w 64 2 ((w 64 2) + 1))) rfl ⟨(-1000002), rfl, ?_⟩
    refine mz_goP 1 (c' := (1, [some (.ref 65), some (.int xa), some (.int xb)], [.ref 65], mz_up w 64 2 ((w 64 2) + 1))) rfl ?_
    refine mz_doP (R := mz_r185) (as := [.ref 65]) (rest := []) (r1 := some (.int 0)) (m1 := mz_up w 64 2 ((w 64 2) + 1)) rfl ⟨?_, rfl⟩ ?_
    · refine mz_go 1 (c' := (1, [some (.ref 65)], [.ref 65], mz_up w 64 2 ((w 64 2) + 1))) rfl ?_
      refine mz_do (R := mz_r183) (as := [.ref 65]) (rest := []) (r1 := some (.int (nI WW))) (m1 := mz_up w 64 2 ((w 64 2) + 1)) rfl ⟨?_, rfl⟩ ?_
      · refine mz_go 4 (c' := (7, [some (.ref 65)], [.int (w 66 60)], mz_up w 64 2 ((w 64 2) + 1))) rfl ?_
        rw [h6660]
        exact mz_ret rfl
      refine mz_go 1 (c' := (if (nI WW) ≤ 0 then 11 else 7, [some (.ref 65)], [], mz_up w 64 2 ((w 64 2) + 1))) rfl ?_
      refine mz_ifT (show ((nI WW) ≤ 0) from (sm_leN rfl rfl (show WW ≤ 0 by omega) (show 0 < 2 ^ 31 by omega))) ?_
      refine mz_go 1 (c' := (12, [some (.ref 65)], [.int 0], mz_up w 64 2 ((w 64 2) + 1))) rfl ?_
      exact mz_ret rfl
    refine mz_goP 3 (c' := (9, [some (.ref 65), some (.int xa), some (.int xb)], [.int 2, .ref 65], mz_up w 64 2 ((w 64 2) + 1))) rfl ?_
    refine mz_doP (R := mz_r127) (as := [.ref 65, .int 2]) (rest := []) (r1 := some (.int (-1000002))) (m1 := mz_up (mz_up w 64 2 ((w 64 2) + 1)) 68 2 ((w 68 2) + 1)) rfl ((ct_err2 (m := mz_up w 64 2 ((w 64 2) + 1))).deep (by decide)) ?_
    refine mz_retP (r := (some (.int ((-1000002))), mz_up (mz_up w 64 2 ((w 64 2) + 1)) 68 2 ((w 68 2) + 1))) rfl ⟨(-1000002), rfl, ?_, rfl⟩
    show sm_I (n + 1) (mz_up (mz_up w 64 2 ((w 64 2) + 1)) 68 2 ((w 68 2) + 1))
    exact sm_I_scr hn hI2 (fun i hi => by
      have hne : ∀ r, sm_scr r = true → i ≠ r := fun r hr e => by
        rw [e, hr] at hi
        cases hi
      simp only [mz_up_ne (hne 64 rfl), mz_up_ne (hne 68 rfl)]) rfl rfl
  · by_cases q2 : xa < 0
    · refine mz_goP 3 (c' := (7, [some (.ref 0), some (.int xa), some (.int xb)], [.ref 20], w)) rfl ?_
      refine mz_doP (R := mz_r2) (as := [.ref 20]) (rest := []) (r1 := some (.int 1)) (m1 := w) rfl ⟨?_, rfl⟩ ?_
      · refine mz_go 2 (c' := (4, [some (.ref 20)], [.int (w 20 2)], w)) rfl ?_
        rw [h202]
        refine mz_go 1 (c' := (if (nI WW) ≤ 0 then 18 else 7, [some (.ref 20)], [], w)) rfl ?_
        refine mz_ifF (show ¬ ((nI WW) ≤ 0) from (sm_nleN rfl rfl (show 0 < WW by omega) (show WW < 2 ^ 31 by omega))) ?_
        refine mz_go 2 (c' := (11, [some (.ref 20)], [.int (w 20 3)], w)) rfl ?_
        rw [h203]
        refine mz_go 1 (c' := (if (nI HH) ≤ 0 then 18 else 14, [some (.ref 20)], [], w)) rfl ?_
        refine mz_ifF (show ¬ ((nI HH) ≤ 0) from (sm_nleN rfl rfl (show 0 < HH by omega) (show HH < 2 ^ 31 by omega))) ?_
        refine mz_go 2 (c' := (19, [some (.ref 20)], [.int 1], w)) rfl ?_
        exact mz_ret rfl
      refine mz_goP 6 (c' := (28, [some (.ref 0), some (.int xa), some (.int xb)], [.int xb, .int xa, .ref 20], w)) rfl ?_
      refine mz_doP (R := mz_r4) (as := [.ref 20, .int xa, .int xb]) (rest := []) (r1 := some (.int 0)) (m1 := w) rfl ⟨?_, rfl⟩ ?_
      · refine mz_go 2 (c' := (if xa < 0 then 40 else 4, [some (.ref 20), some (.int xa), some (.int xb)], [], w)) rfl ?_
        refine mz_ifT q2 ?_
        refine mz_go 1 (c' := (41, [some (.ref 20), some (.int xa), some (.int xb)], [.int 0], w)) rfl ?_
        exact mz_ret rfl
      refine mz_goP 3 (c' := (36, [some (.ref 0), some (.int xa), some (.int xb)], [.int 1, .ref 0], w)) rfl ?_
      refine mz_doP (R := mz_r109) (as := [.ref 0, .int 1]) (rest := []) (r1 := some (.int (-1000001))) (m1 := mz_up w 64 1 ((w 64 1) + 1)) rfl ((cs_err1 (m := w)).deep (by decide)) ?_
      refine mz_retP (r := (some (.int ((-1000001))), mz_up w 64 1 ((w 64 1) + 1))) rfl ⟨(-1000001), rfl, ?_⟩
      refine mz_goP 1 (c' := (1, [some (.ref 65), some (.int xa), some (.int xb)], [.ref 65], mz_up w 64 1 ((w 64 1) + 1))) rfl ?_
      refine mz_doP (R := mz_r185) (as := [.ref 65]) (rest := []) (r1 := some (.int 1)) (m1 := mz_up w 64 1 ((w 64 1) + 1)) rfl ⟨?_, rfl⟩ ?_
      · refine mz_go 1 (c' := (1, [some (.ref 65)], [.ref 65], mz_up w 64 1 ((w 64 1) + 1))) rfl ?_
        refine mz_do (R := mz_r183) (as := [.ref 65]) (rest := []) (r1 := some (.int (nI WW))) (m1 := mz_up w 64 1 ((w 64 1) + 1)) rfl ⟨?_, rfl⟩ ?_
        · refine mz_go 4 (c' := (7, [some (.ref 65)], [.int (w 66 60)], mz_up w 64 1 ((w 64 1) + 1))) rfl ?_
          rw [h6660]
          exact mz_ret rfl
        refine mz_go 1 (c' := (if (nI WW) ≤ 0 then 11 else 7, [some (.ref 65)], [], mz_up w 64 1 ((w 64 1) + 1))) rfl ?_
        refine mz_ifF (show ¬ ((nI WW) ≤ 0) from (sm_nleN rfl rfl (show 0 < WW by omega) (show WW < 2 ^ 31 by omega))) ?_
        refine mz_go 2 (c' := (12, [some (.ref 65)], [.int 1], mz_up w 64 1 ((w 64 1) + 1))) rfl ?_
        exact mz_ret rfl
      refine mz_goP 4 (c' := (16, [some (.ref 65), some (.int xa), some (.int xb)], [.int xb, .int xa, .ref 65], mz_up w 64 1 ((w 64 1) + 1))) rfl ?_
      refine mz_doP (R := mz_r187) (as := [.ref 65, .int xa, .int xb]) (rest := []) (r1 := some (.int 0)) (m1 := mz_up w 64 1 ((w 64 1) + 1)) rfl ⟨?_, rfl⟩ ?_
      · refine mz_go 3 (c' := (3, [some (.ref 65), some (.int xa), some (.int xb)], [.ref 65, .int 0, .int xa], mz_up w 64 1 ((w 64 1) + 1))) rfl ?_
        refine mz_do (R := mz_r183) (as := [.ref 65]) (rest := [.int 0, .int xa]) (r1 := some (.int (nI WW))) (m1 := mz_up w 64 1 ((w 64 1) + 1)) rfl ⟨?_, rfl⟩ ?_
        · refine mz_go 4 (c' := (7, [some (.ref 65)], [.int (w 66 60)], mz_up w 64 1 ((w 64 1) + 1))) rfl ?_
          rw [h6660]
          exact mz_ret rfl
        refine mz_go 2 (c' := (8, [some (.ref 65), some (.int xa), some (.int xb)], [.int ((nI WW) - 1), .int 0, .int xa], mz_up w 64 1 ((w 64 1) + 1))) rfl ?_
        refine mz_do (R := mz_r128) (as := [.int xa, .int 0, .int ((nI WW) - 1)]) (rest := []) (r1 := some (.int 0)) (m1 := mz_up w 64 1 ((w 64 1) + 1)) rfl ((ct_inL (m := mz_up w 64 1 ((w 64 1) + 1)) (v := xa) (a := 0) (b := (nI WW) - 1) q2).deep (by decide)) ?_
        refine mz_go 2 (c' := (33, [some (.ref 65), some (.int xa), some (.int xb)], [.int 0], mz_up w 64 1 ((w 64 1) + 1))) rfl ?_
        exact mz_ret rfl
      refine mz_goP 3 (c' := (24, [some (.ref 65), some (.int xa), some (.int xb)], [.int 1, .ref 65], mz_up w 64 1 ((w 64 1) + 1))) rfl ?_
      refine mz_doP (R := mz_r127) (as := [.ref 65, .int 1]) (rest := []) (r1 := some (.int (-1000001))) (m1 := mz_up (mz_up w 64 1 ((w 64 1) + 1)) 68 1 ((w 68 1) + 1)) rfl ((ct_err1 (m := mz_up w 64 1 ((w 64 1) + 1))).deep (by decide)) ?_
      refine mz_goP 1 (c' := (44, [some (.ref 65), some (.int xa), some (.int xb)], [.int (-1000001)], mz_up (mz_up w 64 1 ((w 64 1) + 1)) 68 1 ((w 68 1) + 1))) rfl ?_
      refine mz_retP (r := (some (.int ((-1000001))), mz_up (mz_up w 64 1 ((w 64 1) + 1)) 68 1 ((w 68 1) + 1))) rfl ⟨(-1000001), rfl, ?_, rfl⟩
      show sm_I (n + 1) (mz_up (mz_up w 64 1 ((w 64 1) + 1)) 68 1 ((w 68 1) + 1))
      exact sm_I_scr hn hI2 (fun i hi => by
        have hne : ∀ r, sm_scr r = true → i ≠ r := fun r hr e => by
          rw [e, hr] at hi
          cases hi
        simp only [mz_up_ne (hne 64 rfl), mz_up_ne (hne 68 rfl)]) rfl rfl
    · obtain ⟨jxa, hjxa, rfl⟩ := nI_of q2
      by_cases q3 : WW ≤ jxa
      · refine mz_goP 3 (c' := (7, [some (.ref 0), some (.int (nI jxa)), some (.int xb)], [.ref 20], w)) rfl ?_
        refine mz_doP (R := mz_r2) (as := [.ref 20]) (rest := []) (r1 := some (.int 1)) (m1 := w) rfl ⟨?_, rfl⟩ ?_
        · refine mz_go 2 (c' := (4, [some (.ref 20)], [.int (w 20 2)], w)) rfl ?_
          rw [h202]
          refine mz_go 1 (c' := (if (nI WW) ≤ 0 then 18 else 7, [some (.ref 20)], [], w)) rfl ?_
          refine mz_ifF (show ¬ ((nI WW) ≤ 0) from (sm_nleN rfl rfl (show 0 < WW by omega) (show WW < 2 ^ 31 by omega))) ?_
          refine mz_go 2 (c' := (11, [some (.ref 20)], [.int (w 20 3)], w)) rfl ?_
          rw [h203]
          refine mz_go 1 (c' := (if (nI HH) ≤ 0 then 18 else 14, [some (.ref 20)], [], w)) rfl ?_
          refine mz_ifF (show ¬ ((nI HH) ≤ 0) from (sm_nleN rfl rfl (show 0 < HH by omega) (show HH < 2 ^ 31 by omega))) ?_
          refine mz_go 2 (c' := (19, [some (.ref 20)], [.int 1], w)) rfl ?_
          exact mz_ret rfl
        refine mz_goP 6 (c' := (28, [some (.ref 0), some (.int (nI jxa)), some (.int xb)], [.int xb, .int (nI jxa), .ref 20], w)) rfl ?_
        refine mz_doP (R := mz_r4) (as := [.ref 20, .int (nI jxa), .int xb]) (rest := []) (r1 := some (.int 0)) (m1 := w) rfl ⟨?_, rfl⟩ ?_
        · refine mz_go 2 (c' := (if (nI jxa) < 0 then 40 else 4, [some (.ref 20), some (.int (nI jxa)), some (.int xb)], [], w)) rfl ?_
          refine mz_ifF q2 ?_
          refine mz_go 3 (c' := (9, [some (.ref 20), some (.int (nI jxa)), some (.int xb)], [.int (w 20 2), .int (nI jxa)], w)) rfl ?_
          rw [h202]
          refine mz_go 1 (c' := (if (nI WW) ≤ (nI jxa) then 40 else 12, [some (.ref 20), some (.int (nI jxa)), some (.int xb)], [], w)) rfl ?_
          refine mz_ifT (show ((nI WW) ≤ (nI jxa)) from (sm_leN rfl rfl (show WW ≤ jxa by omega) (show jxa < 2 ^ 31 by omega))) ?_
          refine mz_go 1 (c' := (41, [some (.ref 20), some (.int (nI jxa)), some (.int xb)], [.int 0], w)) rfl ?_
          exact mz_ret rfl
        refine mz_goP 3 (c' := (36, [some (.ref 0), some (.int (nI jxa)), some (.int xb)], [.int 1, .ref 0], w)) rfl ?_
        refine mz_doP (R := mz_r109) (as := [.ref 0, .int 1]) (rest := []) (r1 := some (.int (-1000001))) (m1 := mz_up w 64 1 ((w 64 1) + 1)) rfl ((cs_err1 (m := w)).deep (by decide)) ?_
        refine mz_retP (r := (some (.int ((-1000001))), mz_up w 64 1 ((w 64 1) + 1))) rfl ⟨(-1000001), rfl, ?_⟩
        refine mz_goP 1 (c' := (1, [some (.ref 65), some (.int (nI jxa)), some (.int xb)], [.ref 65], mz_up w 64 1 ((w 64 1) + 1))) rfl ?_
        refine mz_doP (R := mz_r185) (as := [.ref 65]) (rest := []) (r1 := some (.int 1)) (m1 := mz_up w 64 1 ((w 64 1) + 1)) rfl ⟨?_, rfl⟩ ?_
        · refine mz_go 1 (c' := (1, [some (.ref 65)], [.ref 65], mz_up w 64 1 ((w 64 1) + 1))) rfl ?_
          refine mz_do (R := mz_r183) (as := [.ref 65]) (rest := []) (r1 := some (.int (nI WW))) (m1 := mz_up w 64 1 ((w 64 1) + 1)) rfl ⟨?_, rfl⟩ ?_
          · refine mz_go 4 (c' := (7, [some (.ref 65)], [.int (w 66 60)], mz_up w 64 1 ((w 64 1) + 1))) rfl ?_
            rw [h6660]
            exact mz_ret rfl
          refine mz_go 1 (c' := (if (nI WW) ≤ 0 then 11 else 7, [some (.ref 65)], [], mz_up w 64 1 ((w 64 1) + 1))) rfl ?_
          refine mz_ifF (show ¬ ((nI WW) ≤ 0) from (sm_nleN rfl rfl (show 0 < WW by omega) (show WW < 2 ^ 31 by omega))) ?_
          refine mz_go 2 (c' := (12, [some (.ref 65)], [.int 1], mz_up w 64 1 ((w 64 1) + 1))) rfl ?_
          exact mz_ret rfl
        refine mz_goP 4 (c' := (16, [some (.ref 65), some (.int (nI jxa)), some (.int xb)], [.int xb, .int (nI jxa), .ref 65], mz_up w 64 1 ((w 64 1) + 1))) rfl ?_
        refine mz_doP (R := mz_r187) (as := [.ref 65, .int (nI jxa), .int xb]) (rest := []) (r1 := some (.int 0)) (m1 := mz_up w 64 1 ((w 64 1) + 1)) rfl ⟨?_, rfl⟩ ?_
        · refine mz_go 3 (c' := (3, [some (.ref 65), some (.int (nI jxa)), some (.int xb)], [.ref 65, .int 0, .int (nI jxa)], mz_up w 64 1 ((w 64 1) + 1))) rfl ?_
          refine mz_do (R := mz_r183) (as := [.ref 65]) (rest := [.int 0, .int (nI jxa)]) (r1 := some (.int (nI WW))) (m1 := mz_up w 64 1 ((w 64 1) + 1)) rfl ⟨?_, rfl⟩ ?_
          · refine mz_go 4 (c' := (7, [some (.ref 65)], [.int (w 66 60)], mz_up w 64 1 ((w 64 1) + 1))) rfl ?_
            rw [h6660]
            exact mz_ret rfl
          refine mz_go 2 (c' := (8, [some (.ref 65), some (.int (nI jxa)), some (.int xb)], [.int ((nI WW) - 1), .int 0, .int (nI jxa)], mz_up w 64 1 ((w 64 1) + 1))) rfl ?_
          refine mz_do (R := mz_r128) (as := [.int (nI jxa), .int 0, .int ((nI WW) - 1)]) (rest := []) (r1 := some (.int 0)) (m1 := mz_up w 64 1 ((w 64 1) + 1)) rfl ((ct_inG (m := mz_up w 64 1 ((w 64 1) + 1)) (v := nI jxa) (a := 0) (b := (nI WW) - 1) q2 (show (((nI WW) - 1) < (nI jxa)) from (sm_ltN (sm_subN (a := WW) (b := 1) rfl rfl (by omega)) rfl (show (WW - 1) < jxa by omega) (show jxa < 2 ^ 31 by omega)))).deep (by decide)) ?_
          refine mz_go 2 (c' := (33, [some (.ref 65), some (.int (nI jxa)), some (.int xb)], [.int 0], mz_up w 64 1 ((w 64 1) + 1))) rfl ?_
          exact mz_ret rfl
        refine mz_goP 3 (c' := (24, [some (.ref 65), some (.int (nI jxa)), some (.int xb)], [.int 1, .ref 65], mz_up w 64 1 ((w 64 1) + 1))) rfl ?_
        refine mz_doP (R := mz_r127) (as := [.ref 65, .int 1]) (rest := []) (r1 := some (.int (-1000001))) (m1 := mz_up (mz_up w 64 1 ((w 64 1) + 1)) 68 1 ((w 68 1) + 1)) rfl ((ct_err1 (m := mz_up w 64 1 ((w 64 1) + 1))).deep (by decide)) ?_
        refine mz_goP 1 (c' := (44, [some (.ref 65), some (.int (nI jxa)), some (.int xb)], [.int (-1000001)], mz_up (mz_up w 64 1 ((w 64 1) + 1)) 68 1 ((w 68 1) + 1))) rfl ?_
        refine mz_retP (r := (some (.int ((-1000001))), mz_up (mz_up w 64 1 ((w 64 1) + 1)) 68 1 ((w 68 1) + 1))) rfl ⟨(-1000001), rfl, ?_, rfl⟩
        show sm_I (n + 1) (mz_up (mz_up w 64 1 ((w 64 1) + 1)) 68 1 ((w 68 1) + 1))
        exact sm_I_scr hn hI2 (fun i hi => by
          have hne : ∀ r, sm_scr r = true → i ≠ r := fun r hr e => by
            rw [e, hr] at hi
            cases hi
          simp only [mz_up_ne (hne 64 rfl), mz_up_ne (hne 68 rfl)]) rfl rfl
      · by_cases q4 : xb < 0
        · refine mz_goP 3 (c' := (7, [some (.ref 0), some (.int (nI jxa)), some (.int xb)], [.ref 20], w)) rfl ?_
          refine mz_doP (R := mz_r2) (as := [.ref 20]) (rest := []) (r1 := some (.int 1)) (m1 := w) rfl ⟨?_, rfl⟩ ?_
          · refine mz_go 2 (c' := (4, [some (.ref 20)], [.int (w 20 2)], w)) rfl ?_
            rw [h202]
            refine mz_go 1 (c' := (if (nI WW) ≤ 0 then 18 else 7, [some (.ref 20)], [], w)) rfl ?_
            refine mz_ifF (show ¬ ((nI WW) ≤ 0) from (sm_nleN rfl rfl (show 0 < WW by omega) (show WW < 2 ^ 31 by omega))) ?_
            refine mz_go 2 (c' := (11, [some (.ref 20)], [.int (w 20 3)], w)) rfl ?_
            rw [h203]
            refine mz_go 1 (c' := (if (nI HH) ≤ 0 then 18 else 14, [some (.ref 20)], [], w)) rfl ?_
            refine mz_ifF (show ¬ ((nI HH) ≤ 0) from (sm_nleN rfl rfl (show 0 < HH by omega) (show HH < 2 ^ 31 by omega))) ?_
            refine mz_go 2 (c' := (19, [some (.ref 20)], [.int 1], w)) rfl ?_
            exact mz_ret rfl
          refine mz_goP 6 (c' := (28, [some (.ref 0), some (.int (nI jxa)), some (.int xb)], [.int xb, .int (nI jxa), .ref 20], w)) rfl ?_
          refine mz_doP (R := mz_r4) (as := [.ref 20, .int (nI jxa), .int xb]) (rest := []) (r1 := some (.int 0)) (m1 := w) rfl ⟨?_, rfl⟩ ?_
          · refine mz_go 2 (c' := (if (nI jxa) < 0 then 40 else 4, [some (.ref 20), some (.int (nI jxa)), some (.int xb)], [], w)) rfl ?_
            refine mz_ifF q2 ?_
            refine mz_go 3 (c' := (9, [some (.ref 20), some (.int (nI jxa)), some (.int xb)], [.int (w 20 2), .int (nI jxa)], w)) rfl ?_
            rw [h202]
            refine mz_go 1 (c' := (if (nI WW) ≤ (nI jxa) then 40 else 12, [some (.ref 20), some (.int (nI jxa)), some (.int xb)], [], w)) rfl ?_
            refine mz_ifF (show ¬ ((nI WW) ≤ (nI jxa)) from (sm_nleN rfl rfl (show jxa < WW by omega) (show WW < 2 ^ 31 by omega))) ?_
            refine mz_go 3 (c' := (if 6 ≤ (nI jxa) then 40 else 18, [some (.ref 20), some (.int (nI jxa)), some (.int xb)], [], w)) rfl ?_
            refine mz_ifF (show ¬ (6 ≤ (nI jxa)) from (sm_nleN rfl rfl (show jxa < 6 by omega) (show 6 < 2 ^ 31 by omega))) ?_
            refine mz_go 2 (c' := (if xb < 0 then 40 else 22, [some (.ref 20), some (.int (nI jxa)), some (.int xb)], [], w)) rfl ?_
            refine mz_ifT q4 ?_
            refine mz_go 1 (c' := (41, [some (.ref 20), some (.int (nI jxa)), some (.int xb)], [.int 0], w)) rfl ?_
            exact mz_ret rfl
          refine mz_goP 3 (c' := (36, [some (.ref 0), some (.int (nI jxa)), some (.int xb)], [.int 1, .ref 0], w)) rfl ?_
          refine mz_doP (R := mz_r109) (as := [.ref 0, .int 1]) (rest := []) (r1 := some (.int (-1000001))) (m1 := mz_up w 64 1 ((w 64 1) + 1)) rfl ((cs_err1 (m := w)).deep (by decide)) ?_
          refine mz_retP (r := (some (.int ((-1000001))), mz_up w 64 1 ((w 64 1) + 1))) rfl ⟨(-1000001), rfl, ?_⟩
          refine mz_goP 1 (c' := (1, [some (.ref 65), some (.int (nI jxa)), some (.int xb)], [.ref 65], mz_up w 64 1 ((w 64 1) + 1))) rfl ?_
          refine mz_doP (R := mz_r185) (as := [.ref 65]) (rest := []) (r1 := some (.int 1)) (m1 := mz_up w 64 1 ((w 64 1) + 1)) rfl ⟨?_, rfl⟩ ?_
          · refine mz_go 1 (c' := (1, [some (.ref 65)], [.ref 65], mz_up w 64 1 ((w 64 1) + 1))) rfl ?_
            refine mz_do (R := mz_r183) (as := [.ref 65]) (rest := []) (r1 := some (.int (nI WW))) (m1 := mz_up w 64 1 ((w 64 1) + 1)) rfl ⟨?_, rfl⟩ ?_
            · refine mz_go 4 (c' := (7, [some (.ref 65)], [.int (w 66 60)], mz_up w 64 1 ((w 64 1) + 1))) rfl ?_
              rw [h6660]
              exact mz_ret rfl
            refine mz_go 1 (c' := (if (nI WW) ≤ 0 then 11 else 7, [some (.ref 65)], [], mz_up w 64 1 ((w 64 1) + 1))) rfl ?_
            refine mz_ifF (show ¬ ((nI WW) ≤ 0) from (sm_nleN rfl rfl (show 0 < WW by omega) (show WW < 2 ^ 31 by omega))) ?_
            refine mz_go 2 (c' := (12, [some (.ref 65)], [.int 1], mz_up w 64 1 ((w 64 1) + 1))) rfl ?_
            exact mz_ret rfl
          refine mz_goP 4 (c' := (16, [some (.ref 65), some (.int (nI jxa)), some (.int xb)], [.int xb, .int (nI jxa), .ref 65], mz_up w 64 1 ((w 64 1) + 1))) rfl ?_
          refine mz_doP (R := mz_r187) (as := [.ref 65, .int (nI jxa), .int xb]) (rest := []) (r1 := some (.int 0)) (m1 := mz_up w 64 1 ((w 64 1) + 1)) rfl ⟨?_, rfl⟩ ?_
          · refine mz_go 3 (c' := (3, [some (.ref 65), some (.int (nI jxa)), some (.int xb)], [.ref 65, .int 0, .int (nI jxa)], mz_up w 64 1 ((w 64 1) + 1))) rfl ?_
            refine mz_do (R := mz_r183) (as := [.ref 65]) (rest := [.int 0, .int (nI jxa)]) (r1 := some (.int (nI WW))) (m1 := mz_up w 64 1 ((w 64 1) + 1)) rfl ⟨?_, rfl⟩ ?_
            · refine mz_go 4 (c' := (7, [some (.ref 65)], [.int (w 66 60)], mz_up w 64 1 ((w 64 1) + 1))) rfl ?_
              rw [h6660]
              exact mz_ret rfl
            refine mz_go 2 (c' := (8, [some (.ref 65), some (.int (nI jxa)), some (.int xb)], [.int ((nI WW) - 1), .int 0, .int (nI jxa)], mz_up w 64 1 ((w 64 1) + 1))) rfl ?_
            refine mz_do (R := mz_r128) (as := [.int (nI jxa), .int 0, .int ((nI WW) - 1)]) (rest := []) (r1 := some (.int 1)) (m1 := mz_up w 64 1 ((w 64 1) + 1)) rfl ((ct_in1 (m := mz_up w 64 1 ((w 64 1) + 1)) (v := nI jxa) (a := 0) (b := (nI WW) - 1) q2 (show ¬ (((nI WW) - 1) < (nI jxa)) from (sm_nltN (sm_subN (a := WW) (b := 1) rfl rfl (by omega)) rfl (show jxa ≤ (WW - 1) by omega) (show (WW - 1) < 2 ^ 31 by omega)))).deep (by decide)) ?_
            refine mz_go 4 (c' := (17, [some (.ref 65), some (.int (nI jxa)), some (.int xb)], [.ref 65, .int 0, .int xb], mz_up w 64 1 ((w 64 1) + 1))) rfl ?_
            refine mz_do (R := mz_r184) (as := [.ref 65]) (rest := [.int 0, .int xb]) (r1 := some (.int (nI HH))) (m1 := mz_up w 64 1 ((w 64 1) + 1)) rfl ⟨?_, rfl⟩ ?_
            · refine mz_go 4 (c' := (7, [some (.ref 65)], [.int (w 66 61)], mz_up w 64 1 ((w 64 1) + 1))) rfl ?_
              rw [h6661]
              exact mz_ret rfl
            refine mz_go 2 (c' := (22, [some (.ref 65), some (.int (nI jxa)), some (.int xb)], [.int ((nI HH) - 1), .int 0, .int xb], mz_up w 64 1 ((w 64 1) + 1))) rfl ?_
            refine mz_do (R := mz_r128) (as := [.int xb, .int 0, .int ((nI HH) - 1)]) (rest := []) (r1 := some (.int 0)) (m1 := mz_up w 64 1 ((w 64 1) + 1)) rfl ((ct_inL (m := mz_up w 64 1 ((w 64 1) + 1)) (v := xb) (a := 0) (b := (nI HH) - 1) q4).deep (by decide)) ?_
            refine mz_go 2 (c' := (33, [some (.ref 65), some (.int (nI jxa)), some (.int xb)], [.int 0], mz_up w 64 1 ((w 64 1) + 1))) rfl ?_
            exact mz_ret rfl
          refine mz_goP 3 (c' := (24, [some (.ref 65), some (.int (nI jxa)), some (.int xb)], [.int 1, .ref 65], mz_up w 64 1 ((w 64 1) + 1))) rfl ?_
          refine mz_doP (R := mz_r127) (as := [.ref 65, .int 1]) (rest := []) (r1 := some (.int (-1000001))) (m1 := mz_up (mz_up w 64 1 ((w 64 1) + 1)) 68 1 ((w 68 1) + 1)) rfl ((ct_err1 (m := mz_up w 64 1 ((w 64 1) + 1))).deep (by decide)) ?_
          refine mz_goP 1 (c' := (44, [some (.ref 65), some (.int (nI jxa)), some (.int xb)], [.int (-1000001)], mz_up (mz_up w 64 1 ((w 64 1) + 1)) 68 1 ((w 68 1) + 1))) rfl ?_
          refine mz_retP (r := (some (.int ((-1000001))), mz_up (mz_up w 64 1 ((w 64 1) + 1)) 68 1 ((w 68 1) + 1))) rfl ⟨(-1000001), rfl, ?_, rfl⟩
          show sm_I (n + 1) (mz_up (mz_up w 64 1 ((w 64 1) + 1)) 68 1 ((w 68 1) + 1))
          exact sm_I_scr hn hI2 (fun i hi => by
            have hne : ∀ r, sm_scr r = true → i ≠ r := fun r hr e => by
              rw [e, hr] at hi
              cases hi
            simp only [mz_up_ne (hne 64 rfl), mz_up_ne (hne 68 rfl)]) rfl rfl
        · obtain ⟨jxb, hjxb, rfl⟩ := nI_of q4
          refine mz_goP 3 (c' := (7, [some (.ref 0), some (.int (nI jxa)), some (.int (nI jxb))], [.ref 20], w)) rfl ?_
          refine mz_doP (R := mz_r2) (as := [.ref 20]) (rest := []) (r1 := some (.int 1)) (m1 := w) rfl ⟨?_, rfl⟩ ?_
          · refine mz_go 2 (c' := (4, [some (.ref 20)], [.int (w 20 2)], w)) rfl ?_
            rw [h202]
            refine mz_go 1 (c' := (if (nI WW) ≤ 0 then 18 else 7, [some (.ref 20)], [], w)) rfl ?_
            refine mz_ifF (show ¬ ((nI WW) ≤ 0) from (sm_nleN rfl rfl (show 0 < WW by omega) (show WW < 2 ^ 31 by omega))) ?_
            refine mz_go 2 (c' := (11, [some (.ref 20)], [.int (w 20 3)], w)) rfl ?_
            rw [h203]
            refine mz_go 1 (c' := (if (nI HH) ≤ 0 then 18 else 14, [some (.ref 20)], [], w)) rfl ?_
            refine mz_ifF (show ¬ ((nI HH) ≤ 0) from (sm_nleN rfl rfl (show 0 < HH by omega) (show HH < 2 ^ 31 by omega))) ?_
            refine mz_go 2 (c' := (19, [some (.ref 20)], [.int 1], w)) rfl ?_
            exact mz_ret rfl
          refine mz_goP 6 (c' := (28, [some (.ref 0), some (.int (nI jxa)), some (.int (nI jxb))], [.int (nI jxb), .int (nI jxa), .ref 20], w)) rfl ?_
          by_cases q5 : HH ≤ jxb
          · refine mz_doP (R := mz_r4) (as := [.ref 20, .int (nI jxa), .int (nI jxb)]) (rest := []) (r1 := some (.int 0)) (m1 := w) rfl ⟨?_, rfl⟩ ?_
            · refine mz_go 2 (c' := (if (nI jxa) < 0 then 40 else 4, [some (.ref 20), some (.int (nI jxa)), some (.int (nI jxb))], [], w)) rfl ?_
              refine mz_ifF q2 ?_
              refine mz_go 3 (c' := (9, [some (.ref 20), some (.int (nI jxa)), some (.int (nI jxb))], [.int (w 20 2), .int (nI jxa)], w)) rfl ?_
              rw [h202]
              refine mz_go 1 (c' := (if (nI WW) ≤ (nI jxa) then 40 else 12, [some (.ref 20), some (.int (nI jxa)), some (.int (nI jxb))], [], w)) rfl ?_
              refine mz_ifF (show ¬ ((nI WW) ≤ (nI jxa)) from (sm_nleN rfl rfl (show jxa < WW by omega) (show WW < 2 ^ 31 by omega))) ?_
              refine mz_go 3 (c' := (if 6 ≤ (nI jxa) then 40 else 18, [some (.ref 20), some (.int (nI jxa)), some (.int (nI jxb))], [], w)) rfl ?_
              refine mz_ifF (show ¬ (6 ≤ (nI jxa)) from (sm_nleN rfl rfl (show jxa < 6 by omega) (show 6 < 2 ^ 31 by omega))) ?_
              refine mz_go 2 (c' := (if (nI jxb) < 0 then 40 else 22, [some (.ref 20), some (.int (nI jxa)), some (.int (nI jxb))], [], w)) rfl ?_
              refine mz_ifF q4 ?_
              refine mz_go 3 (c' := (27, [some (.ref 20), some (.int (nI jxa)), some (.int (nI jxb))], [.int (w 20 3), .int (nI jxb)], w)) rfl ?_
              rw [h203]
              refine mz_go 1 (c' := (if (nI HH) ≤ (nI jxb) then 40 else 30, [some (.ref 20), some (.int (nI jxa)), some (.int (nI jxb))], [], w)) rfl ?_
              refine mz_ifT (show ((nI HH) ≤ (nI jxb)) from (sm_leN rfl rfl (show HH ≤ jxb by omega) (show jxb < 2 ^ 31 by omega))) ?_
              refine mz_go 1 (c' := (41, [some (.ref 20), some (.int (nI jxa)), some (.int (nI jxb))], [.int 0], w)) rfl ?_
              exact mz_ret rfl
            refine mz_goP 3 (c' := (36, [some (.ref 0), some (.int (nI jxa)), some (.int (nI jxb))], [.int 1, .ref 0], w)) rfl ?_
            refine mz_doP (R := mz_r109) (as := [.ref 0, .int 1]) (rest := []) (r1 := some (.int (-1000001))) (m1 := mz_up w 64 1 ((w 64 1) + 1)) rfl ((cs_err1 (m := w)).deep (by decide)) ?_
            refine mz_retP (r := (some (.int ((-1000001))), mz_up w 64 1 ((w 64 1) + 1))) rfl ⟨(-1000001), rfl, ?_⟩
            refine mz_goP 1 (c' := (1, [some (.ref 65), some (.int (nI jxa)), some (.int (nI jxb))], [.ref 65], mz_up w 64 1 ((w 64 1) + 1))) rfl ?_
            refine mz_doP (R := mz_r185) (as := [.ref 65]) (rest := []) (r1 := some (.int 1)) (m1 := mz_up w 64 1 ((w 64 1) + 1)) rfl ⟨?_, rfl⟩ ?_
            · refine mz_go 1 (c' := (1, [some (.ref 65)], [.ref 65], mz_up w 64 1 ((w 64 1) + 1))) rfl ?_
              refine mz_do (R := mz_r183) (as := [.ref 65]) (rest := []) (r1 := some (.int (nI WW))) (m1 := mz_up w 64 1 ((w 64 1) + 1)) rfl ⟨?_, rfl⟩ ?_
              · refine mz_go 4 (c' := (7, [some (.ref 65)], [.int (w 66 60)], mz_up w 64 1 ((w 64 1) + 1))) rfl ?_
                rw [h6660]
                exact mz_ret rfl
              refine mz_go 1 (c' := (if (nI WW) ≤ 0 then 11 else 7, [some (.ref 65)], [], mz_up w 64 1 ((w 64 1) + 1))) rfl ?_
              refine mz_ifF (show ¬ ((nI WW) ≤ 0) from (sm_nleN rfl rfl (show 0 < WW by omega) (show WW < 2 ^ 31 by omega))) ?_
              refine mz_go 2 (c' := (12, [some (.ref 65)], [.int 1], mz_up w 64 1 ((w 64 1) + 1))) rfl ?_
              exact mz_ret rfl
            refine mz_goP 4 (c' := (16, [some (.ref 65), some (.int (nI jxa)), some (.int (nI jxb))], [.int (nI jxb), .int (nI jxa), .ref 65], mz_up w 64 1 ((w 64 1) + 1))) rfl ?_
            refine mz_doP (R := mz_r187) (as := [.ref 65, .int (nI jxa), .int (nI jxb)]) (rest := []) (r1 := some (.int 0)) (m1 := mz_up w 64 1 ((w 64 1) + 1)) rfl ⟨?_, rfl⟩ ?_
            · refine mz_go 3 (c' := (3, [some (.ref 65), some (.int (nI jxa)), some (.int (nI jxb))], [.ref 65, .int 0, .int (nI jxa)], mz_up w 64 1 ((w 64 1) + 1))) rfl ?_
              refine mz_do (R := mz_r183) (as := [.ref 65]) (rest := [.int 0, .int (nI jxa)]) (r1 := some (.int (nI WW))) (m1 := mz_up w 64 1 ((w 64 1) + 1)) rfl ⟨?_, rfl⟩ ?_
              · refine mz_go 4 (c' := (7, [some (.ref 65)], [.int (w 66 60)], mz_up w 64 1 ((w 64 1) + 1))) rfl ?_
                rw [h6660]
                exact mz_ret rfl
              refine mz_go 2 (c' := (8, [some (.ref 65), some (.int (nI jxa)), some (.int (nI jxb))], [.int ((nI WW) - 1), .int 0, .int (nI jxa)], mz_up w 64 1 ((w 64 1) + 1))) rfl ?_
              refine mz_do (R := mz_r128) (as := [.int (nI jxa), .int 0, .int ((nI WW) - 1)]) (rest := []) (r1 := some (.int 1)) (m1 := mz_up w 64 1 ((w 64 1) + 1)) rfl ((ct_in1 (m := mz_up w 64 1 ((w 64 1) + 1)) (v := nI jxa) (a := 0) (b := (nI WW) - 1) q2 (show ¬ (((nI WW) - 1) < (nI jxa)) from (sm_nltN (sm_subN (a := WW) (b := 1) rfl rfl (by omega)) rfl (show jxa ≤ (WW - 1) by omega) (show (WW - 1) < 2 ^ 31 by omega)))).deep (by decide)) ?_
              refine mz_go 4 (c' := (17, [some (.ref 65), some (.int (nI jxa)), some (.int (nI jxb))], [.ref 65, .int 0, .int (nI jxb)], mz_up w 64 1 ((w 64 1) + 1))) rfl ?_
              refine mz_do (R := mz_r184) (as := [.ref 65]) (rest := [.int 0, .int (nI jxb)]) (r1 := some (.int (nI HH))) (m1 := mz_up w 64 1 ((w 64 1) + 1)) rfl ⟨?_, rfl⟩ ?_
              · refine mz_go 4 (c' := (7, [some (.ref 65)], [.int (w 66 61)], mz_up w 64 1 ((w 64 1) + 1))) rfl ?_
                rw [h6661]
                exact mz_ret rfl
              refine mz_go 2 (c' := (22, [some (.ref 65), some (.int (nI jxa)), some (.int (nI jxb))], [.int ((nI HH) - 1), .int 0, .int (nI jxb)], mz_up w 64 1 ((w 64 1) + 1))) rfl ?_
              refine mz_do (R := mz_r128) (as := [.int (nI jxb), .int 0, .int ((nI HH) - 1)]) (rest := []) (r1 := some (.int 0)) (m1 := mz_up w 64 1 ((w 64 1) + 1)) rfl ((ct_inG (m := mz_up w 64 1 ((w 64 1) + 1)) (v := nI jxb) (a := 0) (b := (nI HH) - 1) q4 (show (((nI HH) - 1) < (nI jxb)) from (sm_ltN (sm_subN (a := HH) (b := 1) rfl rfl (by omega)) rfl (show (HH - 1) < jxb by omega) (show jxb < 2 ^ 31 by omega)))).deep (by decide)) ?_
              refine mz_go 2 (c' := (33, [some (.ref 65), some (.int (nI jxa)), some (.int (nI jxb))], [.int 0], mz_up w 64 1 ((w 64 1) + 1))) rfl ?_
              exact mz_ret rfl
            refine mz_goP 3 (c' := (24, [some (.ref 65), some (.int (nI jxa)), some (.int (nI jxb))], [.int 1, .ref 65], mz_up w 64 1 ((w 64 1) + 1))) rfl ?_
            refine mz_doP (R := mz_r127) (as := [.ref 65, .int 1]) (rest := []) (r1 := some (.int (-1000001))) (m1 := mz_up (mz_up w 64 1 ((w 64 1) + 1)) 68 1 ((w 68 1) + 1)) rfl ((ct_err1 (m := mz_up w 64 1 ((w 64 1) + 1))).deep (by decide)) ?_
            refine mz_goP 1 (c' := (44, [some (.ref 65), some (.int (nI jxa)), some (.int (nI jxb))], [.int (-1000001)], mz_up (mz_up w 64 1 ((w 64 1) + 1)) 68 1 ((w 68 1) + 1))) rfl ?_
            refine mz_retP (r := (some (.int ((-1000001))), mz_up (mz_up w 64 1 ((w 64 1) + 1)) 68 1 ((w 68 1) + 1))) rfl ⟨(-1000001), rfl, ?_, rfl⟩
            show sm_I (n + 1) (mz_up (mz_up w 64 1 ((w 64 1) + 1)) 68 1 ((w 68 1) + 1))
            exact sm_I_scr hn hI2 (fun i hi => by
              have hne : ∀ r, sm_scr r = true → i ≠ r := fun r hr e => by
                rw [e, hr] at hi
                cases hi
              simp only [mz_up_ne (hne 64 rfl), mz_up_ne (hne 68 rfl)]) rfl rfl
          · refine mz_doP (R := mz_r4) (as := [.ref 20, .int (nI jxa), .int (nI jxb)]) (rest := []) (r1 := some (.int 1)) (m1 := w) rfl ⟨?_, rfl⟩ ?_
            · refine mz_go 2 (c' := (if (nI jxa) < 0 then 40 else 4, [some (.ref 20), some (.int (nI jxa)), some (.int (nI jxb))], [], w)) rfl ?_
              refine mz_ifF q2 ?_
              refine mz_go 3 (c' := (9, [some (.ref 20), some (.int (nI jxa)), some (.int (nI jxb))], [.int (w 20 2), .int (nI jxa)], w)) rfl ?_
              rw [h202]
              refine mz_go 1 (c' := (if (nI WW) ≤ (nI jxa) then 40 else 12, [some (.ref 20), some (.int (nI jxa)), some (.int (nI jxb))], [], w)) rfl ?_
              refine mz_ifF (show ¬ ((nI WW) ≤ (nI jxa)) from (sm_nleN rfl rfl (show jxa < WW by omega) (show WW < 2 ^ 31 by omega))) ?_
              refine mz_go 3 (c' := (if 6 ≤ (nI jxa) then 40 else 18, [some (.ref 20), some (.int (nI jxa)), some (.int (nI jxb))], [], w)) rfl ?_
              refine mz_ifF (show ¬ (6 ≤ (nI jxa)) from (sm_nleN rfl rfl (show jxa < 6 by omega) (show 6 < 2 ^ 31 by omega))) ?_
              refine mz_go 2 (c' := (if (nI jxb) < 0 then 40 else 22, [some (.ref 20), some (.int (nI jxa)), some (.int (nI jxb))], [], w)) rfl ?_
              refine mz_ifF q4 ?_
              refine mz_go 3 (c' := (27, [some (.ref 20), some (.int (nI jxa)), some (.int (nI jxb))], [.int (w 20 3), .int (nI jxb)], w)) rfl ?_
              rw [h203]
              refine mz_go 1 (c' := (if (nI HH) ≤ (nI jxb) then 40 else 30, [some (.ref 20), some (.int (nI jxa)), some (.int (nI jxb))], [], w)) rfl ?_
              refine mz_ifF (show ¬ ((nI HH) ≤ (nI jxb)) from (sm_nleN rfl rfl (show jxb < HH by omega) (show HH < 2 ^ 31 by omega))) ?_
              refine mz_go 3 (c' := (if 6 ≤ (nI jxb) then 40 else 36, [some (.ref 20), some (.int (nI jxa)), some (.int (nI jxb))], [], w)) rfl ?_
              refine mz_ifF (show ¬ (6 ≤ (nI jxb)) from (sm_nleN rfl rfl (show jxb < 6 by omega) (show 6 < 2 ^ 31 by omega))) ?_
              refine mz_go 2 (c' := (41, [some (.ref 20), some (.int (nI jxa)), some (.int (nI jxb))], [.int 1], w)) rfl ?_
              exact mz_ret rfl
            refine mz_goP 6 (c' := (49, [some (.ref 0), some (.int (nI jxa)), some (.int (nI jxb))], [.int (nI jxb), .int (nI jxa), .ref 20], w)) rfl ?_
            refine mz_doP (R := mz_r12) (as := [.ref 20, .int (nI jxa), .int (nI jxb)]) (rest := []) (r1 := some (.int (vq_ed (w 21) WW HH jxa jxb (w 21 ((jxb * 6) + jxa))))) (m1 := w) rfl ((ve_cedg (m := w) hWW hHH h202 h203 (I := jxa) (J := jxb) (by omega) (by omega)).deep (by decide)) ?_
            refine mz_goP 1 (c' := (if (vq_ed (w 21) WW HH jxa jxb (w 21 ((jxb * 6) + jxa))) = 0 then 59 else 55, [some (.ref 0), some (.int (nI jxa)), some (.int (nI jxb))], [], w)) rfl ?_
            by_cases q6 : (vq_ed (w 21) WW HH jxa jxb (w 21 ((jxb * 6) + jxa))) = 0
            · refine mz_ifTP q6 ?_
              refine mz_goP 1 (c' := (60, [some (.ref 0), some (.int (nI jxa)), some (.int (nI jxb))], [.int 0], w)) rfl ?_
              refine mz_retP (r := (some (.int (0)), w)) rfl ⟨0, rfl, ?_⟩
              refine mz_goP 1 (c' := (1, [some (.ref 65), some (.int (nI jxa)), some (.int (nI jxb))], [.ref 65], w)) rfl ?_
              refine mz_doP (R := mz_r185) (as := [.ref 65]) (rest := []) (r1 := some (.int 1)) (m1 := w) rfl ⟨?_, rfl⟩ ?_
              · refine mz_go 1 (c' := (1, [some (.ref 65)], [.ref 65], w)) rfl ?_
                refine mz_do (R := mz_r183) (as := [.ref 65]) (rest := []) (r1 := some (.int (nI WW))) (m1 := w) rfl ⟨?_, rfl⟩ ?_
                · refine mz_go 4 (c' := (7, [some (.ref 65)], [.int (w 66 60)], w)) rfl ?_
                  rw [h6660]
                  exact mz_ret rfl
                refine mz_go 1 (c' := (if (nI WW) ≤ 0 then 11 else 7, [some (.ref 65)], [], w)) rfl ?_
                refine mz_ifF (show ¬ ((nI WW) ≤ 0) from (sm_nleN rfl rfl (show 0 < WW by omega) (show WW < 2 ^ 31 by omega))) ?_
                refine mz_go 2 (c' := (12, [some (.ref 65)], [.int 1], w)) rfl ?_
                exact mz_ret rfl
              refine mz_goP 4 (c' := (16, [some (.ref 65), some (.int (nI jxa)), some (.int (nI jxb))], [.int (nI jxb), .int (nI jxa), .ref 65], w)) rfl ?_
              refine mz_doP (R := mz_r187) (as := [.ref 65, .int (nI jxa), .int (nI jxb)]) (rest := []) (r1 := some (.int 1)) (m1 := w) rfl ⟨?_, rfl⟩ ?_
              · refine mz_go 3 (c' := (3, [some (.ref 65), some (.int (nI jxa)), some (.int (nI jxb))], [.ref 65, .int 0, .int (nI jxa)], w)) rfl ?_
                refine mz_do (R := mz_r183) (as := [.ref 65]) (rest := [.int 0, .int (nI jxa)]) (r1 := some (.int (nI WW))) (m1 := w) rfl ⟨?_, rfl⟩ ?_
                · refine mz_go 4 (c' := (7, [some (.ref 65)], [.int (w 66 60)], w)) rfl ?_
                  rw [h6660]
                  exact mz_ret rfl
                refine mz_go 2 (c' := (8, [some (.ref 65), some (.int (nI jxa)), some (.int (nI jxb))], [.int ((nI WW) - 1), .int 0, .int (nI jxa)], w)) rfl ?_
                refine mz_do (R := mz_r128) (as := [.int (nI jxa), .int 0, .int ((nI WW) - 1)]) (rest := []) (r1 := some (.int 1)) (m1 := w) rfl ((ct_in1 (m := w) (v := nI jxa) (a := 0) (b := (nI WW) - 1) q2 (show ¬ (((nI WW) - 1) < (nI jxa)) from (sm_nltN (sm_subN (a := WW) (b := 1) rfl rfl (by omega)) rfl (show jxa ≤ (WW - 1) by omega) (show (WW - 1) < 2 ^ 31 by omega)))).deep (by decide)) ?_
                refine mz_go 4 (c' := (17, [some (.ref 65), some (.int (nI jxa)), some (.int (nI jxb))], [.ref 65, .int 0, .int (nI jxb)], w)) rfl ?_
                refine mz_do (R := mz_r184) (as := [.ref 65]) (rest := [.int 0, .int (nI jxb)]) (r1 := some (.int (nI HH))) (m1 := w) rfl ⟨?_, rfl⟩ ?_
                · refine mz_go 4 (c' := (7, [some (.ref 65)], [.int (w 66 61)], w)) rfl ?_
                  rw [h6661]
                  exact mz_ret rfl
                refine mz_go 2 (c' := (22, [some (.ref 65), some (.int (nI jxa)), some (.int (nI jxb))], [.int ((nI HH) - 1), .int 0, .int (nI jxb)], w)) rfl ?_
                refine mz_do (R := mz_r128) (as := [.int (nI jxb), .int 0, .int ((nI HH) - 1)]) (rest := []) (r1 := some (.int 1)) (m1 := w) rfl ((ct_in1 (m := w) (v := nI jxb) (a := 0) (b := (nI HH) - 1) q4 (show ¬ (((nI HH) - 1) < (nI jxb)) from (sm_nltN (sm_subN (a := HH) (b := 1) rfl rfl (by omega)) rfl (show jxb ≤ (HH - 1) by omega) (show (HH - 1) < 2 ^ 31 by omega)))).deep (by decide)) ?_
                refine mz_go 3 (c' := (33, [some (.ref 65), some (.int (nI jxa)), some (.int (nI jxb))], [.int 1], w)) rfl ?_
                exact mz_ret rfl
              refine mz_goP 4 (c' := (33, [some (.ref 65), some (.int (nI jxa)), some (.int (nI jxb))], [.int (nI jxb), .int (nI jxa), .ref 65], w)) rfl ?_
              refine mz_doP (R := mz_r196) (as := [.ref 65, .int (nI jxa), .int (nI jxb)]) (rest := []) (r1 := some (.int (vq_ed (w 21) WW HH jxa jxb (w 21 ((jxb * 6) + jxa))))) (m1 := w) rfl ((ve_redg (w := w) (m := w) hWW hHH hWH h6660 h6661 (I := jxa) (J := jxb) (by omega) (by omega) (fun i hi => (hpc i hi).2.1)).deep (by decide)) ?_
              refine mz_goP 1 (c' := (if (vq_ed (w 21) WW HH jxa jxb (w 21 ((jxb * 6) + jxa))) = 0 then 43 else 39, [some (.ref 65), some (.int (nI jxa)), some (.int (nI jxb))], [], w)) rfl ?_
              refine mz_ifTP q6 ?_
              refine mz_goP 1 (c' := (44, [some (.ref 65), some (.int (nI jxa)), some (.int (nI jxb))], [.int 0], w)) rfl ?_
              refine mz_retP (r := (some (.int (0)), w)) rfl ⟨0, rfl, ?_, rfl⟩
              show sm_I (n + 1) (w)
              exact sm_I_scr hn hI2 (fun _ _ => rfl) rfl rfl
            · refine mz_ifFP q6 ?_
              refine mz_goP 2 (c' := (60, [some (.ref 0), some (.int (nI jxa)), some (.int (nI jxb))], [.int 1], w)) rfl ?_
              refine mz_retP (r := (some (.int (1)), w)) rfl ⟨1, rfl, ?_⟩
              refine mz_goP 1 (c' := (1, [some (.ref 65), some (.int (nI jxa)), some (.int (nI jxb))], [.ref 65], w)) rfl ?_
              refine mz_doP (R := mz_r185) (as := [.ref 65]) (rest := []) (r1 := some (.int 1)) (m1 := w) rfl ⟨?_, rfl⟩ ?_
              · refine mz_go 1 (c' := (1, [some (.ref 65)], [.ref 65], w)) rfl ?_
                refine mz_do (R := mz_r183) (as := [.ref 65]) (rest := []) (r1 := some (.int (nI WW))) (m1 := w) rfl ⟨?_, rfl⟩ ?_
                · refine mz_go 4 (c' := (7, [some (.ref 65)], [.int (w 66 60)], w)) rfl ?_
                  rw [h6660]
                  exact mz_ret rfl
                refine mz_go 1 (c' := (if (nI WW) ≤ 0 then 11 else 7, [some (.ref 65)], [], w)) rfl ?_
                refine mz_ifF (show ¬ ((nI WW) ≤ 0) from (sm_nleN rfl rfl (show 0 < WW by omega) (show WW < 2 ^ 31 by omega))) ?_
                refine mz_go 2 (c' := (12, [some (.ref 65)], [.int 1], w)) rfl ?_
                exact mz_ret rfl
              refine mz_goP 4 (c' := (16, [some (.ref 65), some (.int (nI jxa)), some (.int (nI jxb))], [.int (nI jxb), .int (nI jxa), .ref 65], w)) rfl ?_
              refine mz_doP (R := mz_r187) (as := [.ref 65, .int (nI jxa), .int (nI jxb)]) (rest := []) (r1 := some (.int 1)) (m1 := w) rfl ⟨?_, rfl⟩ ?_
              · refine mz_go 3 (c' := (3, [some (.ref 65), some (.int (nI jxa)), some (.int (nI jxb))], [.ref 65, .int 0, .int (nI jxa)], w)) rfl ?_
                refine mz_do (R := mz_r183) (as := [.ref 65]) (rest := [.int 0, .int (nI jxa)]) (r1 := some (.int (nI WW))) (m1 := w) rfl ⟨?_, rfl⟩ ?_
                · refine mz_go 4 (c' := (7, [some (.ref 65)], [.int (w 66 60)], w)) rfl ?_
                  rw [h6660]
                  exact mz_ret rfl
                refine mz_go 2 (c' := (8, [some (.ref 65), some (.int (nI jxa)), some (.int (nI jxb))], [.int ((nI WW) - 1), .int 0, .int (nI jxa)], w)) rfl ?_
                refine mz_do (R := mz_r128) (as := [.int (nI jxa), .int 0, .int ((nI WW) - 1)]) (rest := []) (r1 := some (.int 1)) (m1 := w) rfl ((ct_in1 (m := w) (v := nI jxa) (a := 0) (b := (nI WW) - 1) q2 (show ¬ (((nI WW) - 1) < (nI jxa)) from (sm_nltN (sm_subN (a := WW) (b := 1) rfl rfl (by omega)) rfl (show jxa ≤ (WW - 1) by omega) (show (WW - 1) < 2 ^ 31 by omega)))).deep (by decide)) ?_
                refine mz_go 4 (c' := (17, [some (.ref 65), some (.int (nI jxa)), some (.int (nI jxb))], [.ref 65, .int 0, .int (nI jxb)], w)) rfl ?_
                refine mz_do (R := mz_r184) (as := [.ref 65]) (rest := [.int 0, .int (nI jxb)]) (r1 := some (.int (nI HH))) (m1 := w) rfl ⟨?_, rfl⟩ ?_
                · refine mz_go 4 (c' := (7, [some (.ref 65)], [.int (w 66 61)], w)) rfl ?_
                  rw [h6661]
                  exact mz_ret rfl
                refine mz_go 2 (c' := (22, [some (.ref 65), some (.int (nI jxa)), some (.int (nI jxb))], [.int ((nI HH) - 1), .int 0, .int (nI jxb)], w)) rfl ?_
                refine mz_do (R := mz_r128) (as := [.int (nI jxb), .int 0, .int ((nI HH) - 1)]) (rest := []) (r1 := some (.int 1)) (m1 := w) rfl ((ct_in1 (m := w) (v := nI jxb) (a := 0) (b := (nI HH) - 1) q4 (show ¬ (((nI HH) - 1) < (nI jxb)) from (sm_nltN (sm_subN (a := HH) (b := 1) rfl rfl (by omega)) rfl (show jxb ≤ (HH - 1) by omega) (show (HH - 1) < 2 ^ 31 by omega)))).deep (by decide)) ?_
                refine mz_go 3 (c' := (33, [some (.ref 65), some (.int (nI jxa)), some (.int (nI jxb))], [.int 1], w)) rfl ?_
                exact mz_ret rfl
              refine mz_goP 4 (c' := (33, [some (.ref 65), some (.int (nI jxa)), some (.int (nI jxb))], [.int (nI jxb), .int (nI jxa), .ref 65], w)) rfl ?_
              refine mz_doP (R := mz_r196) (as := [.ref 65, .int (nI jxa), .int (nI jxb)]) (rest := []) (r1 := some (.int (vq_ed (w 21) WW HH jxa jxb (w 21 ((jxb * 6) + jxa))))) (m1 := w) rfl ((ve_redg (w := w) (m := w) hWW hHH hWH h6660 h6661 (I := jxa) (J := jxb) (by omega) (by omega) (fun i hi => (hpc i hi).2.1)).deep (by decide)) ?_
              refine mz_goP 1 (c' := (if (vq_ed (w 21) WW HH jxa jxb (w 21 ((jxb * 6) + jxa))) = 0 then 43 else 39, [some (.ref 65), some (.int (nI jxa)), some (.int (nI jxb))], [], w)) rfl ?_
              refine mz_ifFP q6 ?_
              refine mz_goP 2 (c' := (44, [some (.ref 65), some (.int (nI jxa)), some (.int (nI jxb))], [.int 1], w)) rfl ?_
              refine mz_retP (r := (some (.int (1)), w)) rfl ⟨1, rfl, ?_, rfl⟩
              show sm_I (n + 1) (w)
              exact sm_I_scr hn hI2 (fun _ _ => rfl) rfl rfl
