/-! cells of a picture: another colour, an edge -/
noncomputable def vq_ot (f : Nat → Int32) (W H : Nat) (a b c : Int32) : Int32 := if 0 ≤ a.toInt ∧ a.toInt < (W : Int) ∧ 0 ≤ b.toInt ∧ b.toInt < (H : Int) then (if f (b.toInt.toNat * 6 + a.toInt.toNat) = c then 0 else 1) else 0
theorem vq_o0 {f : Nat → Int32} {W H : Nat} {a b c : Int32} (h : W = 0) : 0 = vq_ot f W H a b c := by
  unfold vq_ot
  rw [if_neg (by omega)]
theorem vq_o1 {f : Nat → Int32} {W H : Nat} {a b c : Int32} (h : a < 0) : 0 = vq_ot f W H a b c := by
  have h2 : a.toInt < 0 := Int32.lt_iff_toInt_lt.mp h
  unfold vq_ot
  rw [if_neg (by omega)]
theorem vq_o2 {f : Nat → Int32} {W H A : Nat} {b c : Int32} (hA : A < 2 ^ 31) (h : W ≤ A) : 0 = vq_ot f W H (nI A) b c := by
  unfold vq_ot
  rw [nI_toInt hA, if_neg (by omega)]
theorem vq_o3 {f : Nat → Int32} {W H : Nat} {a b c : Int32} (h : b < 0) : 0 = vq_ot f W H a b c := by
  have h2 : b.toInt < 0 := Int32.lt_iff_toInt_lt.mp h
  unfold vq_ot
  rw [if_neg (by omega)]
theorem vq_o4 {f : Nat → Int32} {W H B : Nat} {a c : Int32} (hB : B < 2 ^ 31) (h : H ≤ B) : 0 = vq_ot f W H a (nI B) c := by
  unfold vq_ot
  rw [nI_toInt hB, if_neg (by omega)]
theorem vq_o {f : Nat → Int32} {W H A B : Nat} {c : Int32} (hA : A < W) (hB : B < H) (hW : W ≤ 6) (hH : H ≤ 6) : vq_ot f W H (nI A) (nI B) c = if f (B * 6 + A) = c then 0 else 1 := by
  unfold vq_ot
  rw [nI_toInt (show A < 2 ^ 31 by omega), nI_toInt (show B < 2 ^ 31 by omega), if_pos (by omega)]
  rfl
theorem vq_o5 {f : Nat → Int32} {W H A B : Nat} {c : Int32} (hA : A < W) (hB : B < H) (hW : W ≤ 6) (hH : H ≤ 6) (h : f (B * 6 + A) = c) : 0 = vq_ot f W H (nI A) (nI B) c := by
  rw [vq_o hA hB hW hH, if_pos h]
theorem vq_o6 {f : Nat → Int32} {W H A B : Nat} {c : Int32} (hA : A < W) (hB : B < H) (hW : W ≤ 6) (hH : H ≤ 6) (h : ¬ f (B * 6 + A) = c) : 1 = vq_ot f W H (nI A) (nI B) c := by
  rw [vq_o hA hB hW hH, if_neg h]
theorem vq_ot_eq {f g : Nat → Int32} {W H : Nat} (hW : W ≤ 6) (hH : H ≤ 6) (h : ∀ i, i < 36 → f i = g i) (a b c : Int32) : vq_ot f W H a b c = vq_ot g W H a b c := by
  unfold vq_ot
  by_cases q : 0 ≤ a.toInt ∧ a.toInt < (W : Int) ∧ 0 ≤ b.toInt ∧ b.toInt < (H : Int)
  · rw [if_pos q, if_pos q, h (b.toInt.toNat * 6 + a.toInt.toNat) (by omega)]
  · rw [if_neg q, if_neg q]
noncomputable def vq_ed (f : Nat → Int32) (W H I J : Nat) (c : Int32) : Int32 := if vq_ot f W H (nI I - 1) (nI J) c = 0 then (if vq_ot f W H (nI I + 1) (nI J) c = 0 then (if vq_ot f W H (nI I) (nI J - 1) c = 0 then (if vq_ot f W H (nI I) (nI J + 1) c = 0 then 0 else 1) else 1) else 1) else 1
theorem vq_ed_eq {f g : Nat → Int32} {W H : Nat} (hW : W ≤ 6) (hH : H ≤ 6) (h : ∀ i, i < 36 → f i = g i) (I J : Nat) (c : Int32) : vq_ed f W H I J c = vq_ed g W H I J c := by
  unfold vq_ed
  rw [vq_ot_eq hW hH h, vq_ot_eq hW hH h, vq_ot_eq hW hH h, vq_ot_eq hW hH h]
theorem vq_m1 {I : Nat} (h : I = 0) : nI I - 1 = -1 := by
  subst h
  decide
/-! folds and sums -/
noncomputable def vq_fold {α : Type} (g : Int32 → α → α) (o : Int32 → Prop) [DecidablePred o] : Nat → Int32 → α → α
  | 0, _, s => s
  | n + 1, x, s => if o x then s else vq_fold g o n (x + 1) (g x s)
theorem vq_fold_out {α : Type} {g : Int32 → α → α} {o : Int32 → Prop} [DecidablePred o] {n : Nat} {x : Int32} {s : α} (h : o x) : vq_fold g o n x s = s := by
  cases n with
  | zero => rfl
  | succ n => exact if_pos h
theorem vq_fold_in {α : Type} {g : Int32 → α → α} {o : Int32 → Prop} [DecidablePred o] {n : Nat} {x : Int32} {s s' : α} (h : ¬ o x) (e : g x s = s') : vq_fold g o (n + 1) x s = vq_fold g o n (x + 1) s' := by
  rw [← e]
  exact if_neg h
noncomputable def vq_fn {α : Type} (g : Nat → α → α) : Nat → Nat → α → α
  | 0, _, s => s
  | n + 1, k, s => vq_fn g n (k + 1) (g k s)
theorem vq_fn_in {α : Type} {g : Nat → α → α} {n k : Nat} {s s' : α} (e : g k s = s') : vq_fn g (n + 1) k s = vq_fn g n (k + 1) s' := by
  rw [← e]
  rfl
noncomputable def vq_sum : Nat → (Nat → Int32) → Int32
  | 0, _ => 0
  | n + 1, f => f 0 + vq_sum n (fun k => f (k + 1))
theorem vq_alc (a b c : Int32) : a + (b + c) = b + (a + c) := by rw [← Int32.add_assoc, Int32.add_comm a b, Int32.add_assoc]
theorem vq_sum_add : ∀ (n : Nat) (f g : Nat → Int32), vq_sum n (fun k => f k + g k) = vq_sum n f + vq_sum n g := by
  intro n
  induction n with
  | zero =>
    intro f g
    rfl
  | succ n ih =>
    intro f g
    show f 0 + g 0 + vq_sum n (fun k => f (k + 1) + g (k + 1)) = f 0 + vq_sum n (fun k => f (k + 1)) + (g 0 + vq_sum n (fun k => g (k + 1)))
    rw [ih (fun k => f (k + 1)) (fun k => g (k + 1)), Int32.add_assoc, Int32.add_assoc, vq_alc (g 0)]
theorem vq_sum_0 : ∀ n : Nat, vq_sum n (fun _ => 0) = 0 := by
  intro n
  induction n with
  | zero => rfl
  | succ n ih =>
    show 0 + vq_sum n (fun _ => 0) = 0
    rw [ih]
    rfl
theorem vq_sum_comm : ∀ (n m : Nat) (F : Nat → Nat → Int32), vq_sum n (fun i => vq_sum m (fun j => F i j)) = vq_sum m (fun j => vq_sum n (fun i => F i j)) := by
  intro n
  induction n with
  | zero =>
    intro m F
    exact (vq_sum_0 m).symm
  | succ n ih =>
    intro m F
    show vq_sum m (fun j => F 0 j) + vq_sum n (fun i => vq_sum m (fun j => F (i + 1) j)) = vq_sum m (fun j => F 0 j + vq_sum n (fun i => F (i + 1) j))
    rw [ih m (fun i j => F (i + 1) j), vq_sum_add]
theorem vq_sum_ex {n : Nat} {f g : Nat → Int32} (h : ∀ k, f k = g k) : vq_sum n f = vq_sum n g := by
  rw [show f = g from funext h]
theorem vq_x0 (x : Int32) : x + nI 0 = x := by
  rw [show nI 0 = 0 from rfl, Int32.add_zero]
theorem vq_x1 (x : Int32) (k : Nat) : x + 1 + nI k = x + nI (k + 1) := by
  rw [nI_succ k, Int32.add_assoc, Int32.add_comm 1]
theorem vq_fold_sum (h : Int32 → Int32) {e : Int32} (he : e.toInt < 2147483647) : ∀ (n : Nat) (x s : Int32), x.toInt + (n : Int) ≤ e.toInt + 1 → vq_fold (fun y t => t + h y) (fun y => e < y) n x s = s + vq_sum n (fun k => h (x + nI k)) := by
  intro n
  induction n with
  | zero =>
    intro x s _
    show s = s + 0
    rw [Int32.add_zero]
  | succ n ih =>
    intro x s hx
    have h1 : ¬ e < x := fun q => by
      have := Int32.lt_iff_toInt_lt.mp q
      omega
    have h2 : (x + 1).toInt = x.toInt + 1 := by
      have hl := Int32.le_toInt x
      have e1 : (1 : Int32).toInt = 1 := by decide
      rw [sm_add (by rw [e1]; omega) (by rw [e1]; omega), e1]
    rw [vq_fold_in (g := fun y t => t + h y) (o := fun y => e < y) (s' := s + h x) h1 rfl, ih (x + 1) (s + h x) (by omega)]
    show s + h x + vq_sum n (fun k => h (x + 1 + nI k)) = s + (h (x + nI 0) + vq_sum n (fun k => h (x + nI (k + 1))))
    rw [vq_x0, Int32.add_assoc, vq_sum_ex (fun k => by rw [vq_x1])]
/-! cells of a colour around one -/
noncomputable def vq_is (f : Nat → Int32) (W H : Nat) (a b c : Int32) : Int32 := if 0 ≤ a.toInt ∧ a.toInt < (W : Int) ∧ 0 ≤ b.toInt ∧ b.toInt < (H : Int) then (if f (b.toInt.toNat * 6 + a.toInt.toNat) = c then 1 else 0) else 0
theorem vq_s {f : Nat → Int32} {W H : Nat} {a b c s : Int32} (h : ¬ (0 ≤ a.toInt ∧ a.toInt < (W : Int) ∧ 0 ≤ b.toInt ∧ b.toInt < (H : Int))) : s + vq_is f W H a b c = s := by
  unfold vq_is
  rw [if_neg h, Int32.add_zero]
theorem vq_s0 {f : Nat → Int32} {W H : Nat} {a b c s : Int32} (h : W = 0) : s + vq_is f W H a b c = s := vq_s (by omega)
theorem vq_s1 {f : Nat → Int32} {W H : Nat} {a b c s : Int32} (h : a < 0) : s + vq_is f W H a b c = s := by
  have h2 : a.toInt < 0 := Int32.lt_iff_toInt_lt.mp h
  exact vq_s (by omega)
theorem vq_s2 {f : Nat → Int32} {W H A : Nat} {b c s : Int32} (hA : A < 2 ^ 31) (h : W ≤ A) : s + vq_is f W H (nI A) b c = s := by
  have h2 := nI_toInt hA
  exact vq_s (by omega)
theorem vq_s3 {f : Nat → Int32} {W H : Nat} {a b c s : Int32} (h : b < 0) : s + vq_is f W H a b c = s := by
  have h2 : b.toInt < 0 := Int32.lt_iff_toInt_lt.mp h
  exact vq_s (by omega)
theorem vq_s4 {f : Nat → Int32} {W H B : Nat} {a c s : Int32} (hB : B < 2 ^ 31) (h : H ≤ B) : s + vq_is f W H a (nI B) c = s := by
  have h2 := nI_toInt hB
  exact vq_s (by omega)
theorem vq_i {f : Nat → Int32} {W H A B : Nat} {c : Int32} (hA : A < W) (hB : B < H) (hW : W ≤ 6) (hH : H ≤ 6) : vq_is f W H (nI A) (nI B) c = if f (B * 6 + A) = c then 1 else 0 := by
  unfold vq_is
  rw [nI_toInt (show A < 2 ^ 31 by omega), nI_toInt (show B < 2 ^ 31 by omega), if_pos (by omega)]
  rfl
theorem vq_s5 {f : Nat → Int32} {W H A B : Nat} {c s : Int32} (hA : A < W) (hB : B < H) (hW : W ≤ 6) (hH : H ≤ 6) (h : f (B * 6 + A) = c) : s + vq_is f W H (nI A) (nI B) c = s + 1 := by
  rw [vq_i hA hB hW hH, if_pos h]
theorem vq_s6 {f : Nat → Int32} {W H A B : Nat} {c s : Int32} (hA : A < W) (hB : B < H) (hW : W ≤ 6) (hH : H ≤ 6) (h : ¬ f (B * 6 + A) = c) : s + vq_is f W H (nI A) (nI B) c = s := by
  rw [vq_i hA hB hW hH, if_neg h, Int32.add_zero]
theorem vq_is_eq {f g : Nat → Int32} {W H : Nat} (hW : W ≤ 6) (hH : H ≤ 6) (h : ∀ i, i < 36 → f i = g i) (a b c : Int32) : vq_is f W H a b c = vq_is g W H a b c := by
  unfold vq_is
  by_cases q : 0 ≤ a.toInt ∧ a.toInt < (W : Int) ∧ 0 ≤ b.toInt ∧ b.toInt < (H : Int)
  · rw [if_pos q, if_pos q, h (b.toInt.toNat * 6 + a.toInt.toNat) (by omega)]
  · rw [if_neg q, if_neg q]
noncomputable def vq_fu (x d : Int32) : Nat := ((x + d).toInt - (x - d).toInt + 1).toNat
/-- row by row, and column by column -/
noncomputable def vq_ac (f : Nat → Int32) (W H : Nat) (i j d c : Int32) : Int32 := vq_fold (fun b s => vq_fold (fun a s => s + vq_is f W H a b c) (fun a => i + d < a) (vq_fu i d) (i - d) s) (fun b => j + d < b) (vq_fu j d) (j - d) 0
noncomputable def vq_ar (f : Nat → Int32) (W H : Nat) (i j d c : Int32) : Int32 := vq_fold (fun a s => vq_fold (fun b s => s + vq_is f W H a b c) (fun b => j + d < b) (vq_fu j d) (j - d) s) (fun a => i + d < a) (vq_fu i d) (i - d) 0
theorem vq_fu_le {x d : Int32} (hx : sm_B 1000 x) (hd : sm_B 1000 d) (h0 : 0 ≤ d.toInt) : (x - d).toInt + (vq_fu x d : Int) ≤ (x + d).toInt + 1 ∧ (x + d).toInt < 2147483647 := by
  obtain ⟨x1, x2⟩ := hx
  obtain ⟨d1, d2⟩ := hd
  have e1 : (x + d).toInt = x.toInt + d.toInt := sm_add (by omega) (by omega)
  have e2 : (x - d).toInt = x.toInt - d.toInt := sm_sub (by omega) (by omega)
  unfold vq_fu
  omega
theorem vq_ac_ar {f : Nat → Int32} {W H : Nat} {i j d c : Int32} (hi : sm_B 1000 i) (hj : sm_B 1000 j) (hd : sm_B 1000 d) (h0 : 0 ≤ d.toInt) : vq_ac f W H i j d c = vq_ar f W H i j d c := by
  obtain ⟨i1, i2⟩ := vq_fu_le hi hd h0
  obtain ⟨j1, j2⟩ := vq_fu_le hj hd h0
  unfold vq_ac vq_ar
  rw [show (fun b s => vq_fold (fun a s => s + vq_is f W H a b c) (fun a => i + d < a) (vq_fu i d) (i - d) s) = fun b s => s + vq_sum (vq_fu i d) (fun k => vq_is f W H (i - d + nI k) b c) from funext fun b => funext fun s => vq_fold_sum (fun a => vq_is f W H a b c) i2 _ _ _ i1]
  rw [show (fun a s => vq_fold (fun b s => s + vq_is f W H a b c) (fun b => j + d < b) (vq_fu j d) (j - d) s) = fun a s => s + vq_sum (vq_fu j d) (fun k => vq_is f W H a (j - d + nI k) c) from funext fun a => funext fun s => vq_fold_sum (fun b => vq_is f W H a b c) j2 _ _ _ j1]
  rw [vq_fold_sum (fun b => vq_sum (vq_fu i d) (fun k => vq_is f W H (i - d + nI k) b c)) j2 _ _ _ j1, vq_fold_sum (fun a => vq_sum (vq_fu j d) (fun k => vq_is f W H a (j - d + nI k) c)) i2 _ _ _ i1]
  rw [vq_sum_comm]
theorem vq_ar_eq {f g : Nat → Int32} {W H : Nat} (hW : W ≤ 6) (hH : H ≤ 6) (h : ∀ i, i < 36 → f i = g i) (i j d c : Int32) : vq_ar f W H i j d c = vq_ar g W H i j d c := by
  unfold vq_ar
  have e : ∀ a b, vq_is f W H a b c = vq_is g W H a b c := fun a b => vq_is_eq hW hH h a b c
  simp only [e]
/-! the best -/
noncomputable def vq_su (n p : Int32) (s : Int32 × Int32) : Int32 × Int32 := if s.1 < n then (n, p) else s
theorem vq_su0 {n p a b : Int32} (h : ¬ a < n) : vq_su n p (a, b) = (a, b) := if_neg h
theorem vq_su1 {n p a b : Int32} (h : a < n) : vq_su n p (a, b) = (n, p) := if_pos h
/-! fair: the most and the fewest, the greatest in both -/
noncomputable def vq_mm (n : Int32) (s : Int32 × Int32) : Int32 × Int32 := (sm_max s.1 n, sm_min s.2 n)
theorem vq_mm1 {n x y x' y' : Int32} (h1 : sm_max x n = x') (h2 : sm_min y n = y') : vq_mm n (x, y) = (x', y') := by
  unfold vq_mm
  rw [← h1, ← h2]
theorem vq_max1 {x n : Int32} (h : x < n) : sm_max x n = n := if_pos h
theorem vq_max0 {x n : Int32} (h : ¬ x < n) : sm_max x n = x := if_neg h
theorem vq_min1 {x n : Int32} (h : n < x) : sm_min x n = n := if_pos h
theorem vq_min0 {x n : Int32} (h : ¬ n < x) : sm_min x n = x := if_neg h
theorem vq_sum_split : ∀ (p q : Nat) (g : Nat → Int32), vq_sum (p + q) g = vq_sum p g + vq_sum q (fun k => g (p + k)) := by
  intro p
  induction p with
  | zero =>
    intro q g
    rw [Nat.zero_add, show (fun k => g (0 + k)) = g from funext fun k => by rw [Nat.zero_add]]
    exact (Int32.zero_add _).symm
  | succ p ih =>
    intro q g
    rw [show p + 1 + q = (p + q) + 1 by omega]
    show g 0 + vq_sum (p + q) (fun k => g (k + 1)) = g 0 + vq_sum p (fun k => g (k + 1)) + vq_sum q (fun k => g (p + 1 + k))
    rw [ih q (fun k => g (k + 1)), Int32.add_assoc, show (fun k => g (p + k + 1)) = fun k => g (p + 1 + k) from funext fun k => by rw [show p + k + 1 = p + 1 + k by omega]]
theorem vq_sum_z : ∀ (n : Nat) (g : Nat → Int32), (∀ k, k < n → g k = 0) → vq_sum n g = 0 := by
  intro n
  induction n with
  | zero =>
    intro g _
    rfl
  | succ n ih =>
    intro g h
    show g 0 + vq_sum n (fun k => g (k + 1)) = 0
    rw [h 0 (by omega), ih (fun k => g (k + 1)) (fun k hk => h (k + 1) (by omega))]
    rfl
theorem vq_sum_le {M : Nat} (hM : M ≤ 6) : ∀ (n : Nat) (g : Nat → Int32), n ≤ 20 → (∀ k, k < n → 0 ≤ (g k).toInt ∧ (g k).toInt ≤ (M : Int)) → 0 ≤ (vq_sum n g).toInt ∧ (vq_sum n g).toInt ≤ ((n * M : Nat) : Int) := by
  intro n
  induction n with
  | zero =>
    intro g _ _
    have e : (vq_sum 0 g).toInt = 0 := by
      show (0 : Int32).toInt = 0
      decide
    rw [e]
    omega
  | succ n ih =>
    intro g hn h
    obtain ⟨i1, i2⟩ := ih (fun k => g (k + 1)) (by omega) (fun k hk => h (k + 1) (by omega))
    obtain ⟨h1, h2⟩ := h 0 (by omega)
    have h3 : n * M ≤ 20 * 6 := Nat.mul_le_mul (by omega) hM
    have h4 : (n + 1) * M = n * M + M := Nat.succ_mul n M
    have e : (vq_sum (n + 1) g).toInt = (g 0).toInt + (vq_sum n (fun k => g (k + 1))).toInt := by
      show (g 0 + vq_sum n (fun k => g (k + 1))).toInt = _
      exact sm_add (by omega) (by omega)
    rw [e, h4]
    omega
theorem vq_sum13 {M : Nat} (hM : M ≤ 6) (g : Nat → Int32) (h : ∀ k, k < 13 → 0 ≤ (g k).toInt ∧ (g k).toInt ≤ (M : Int)) (hz : ∀ k, k < 6 ∨ k = 12 → g k = 0) : 0 ≤ (vq_sum 13 g).toInt ∧ (vq_sum 13 g).toInt ≤ ((6 * M : Nat) : Int) := by
  have e : vq_sum 13 g = vq_sum 6 (fun k => g (6 + k)) := by
    rw [show (13 : Nat) = 6 + (6 + 1) from rfl, vq_sum_split 6 (6 + 1) g, vq_sum_split 6 1 (fun k => g (6 + k)), vq_sum_z 6 g (fun k hk => hz k (Or.inl hk)), vq_sum_z 1 (fun k => g (6 + (6 + k))) (fun k hk => hz _ (Or.inr (by omega))), Int32.zero_add, Int32.add_zero]
  rw [e]
  exact vq_sum_le hM 6 _ (by decide) (fun k hk => h (6 + k) (by omega))
theorem vq_c6 {k : Nat} (hk : k < 13) : ((0 : Int32) - 6 + nI k).toInt = (k : Int) - 6 := by
  have e1 : ((0 : Int32) - 6).toInt = -6 := by decide
  have e2 := nI_toInt (show k < 2 ^ 31 by omega)
  rw [sm_add (by omega) (by omega), e1, e2]
  omega
theorem vq_is01 {f : Nat → Int32} {W H : Nat} {x y c : Int32} : 0 ≤ (vq_is f W H x y c).toInt ∧ (vq_is f W H x y c).toInt ≤ ((1 : Nat) : Int) := by
  have e0 : (0 : Int32).toInt = 0 := by decide
  have e1 : (1 : Int32).toInt = 1 := by decide
  unfold vq_is
  split
  · split
    · rw [e1]
      omega
    · rw [e0]
      omega
  · rw [e0]
    omega
theorem vq_isz {f : Nat → Int32} {W H : Nat} {x y c : Int32} (h : ¬ (0 ≤ x.toInt ∧ x.toInt < (W : Int) ∧ 0 ≤ y.toInt ∧ y.toInt < (H : Int))) : vq_is f W H x y c = 0 := if_neg h
theorem vq_fu6 : vq_fu 0 6 = 13 := by decide
theorem vq_ar36 {f : Nat → Int32} {W H : Nat} (hW : W ≤ 6) (hH : H ≤ 6) (c : Int32) : 0 ≤ (vq_ar f W H 0 0 6 c).toInt ∧ (vq_ar f W H 0 0 6 c).toInt ≤ 36 := by
  have hB0 : sm_B 1000 (0 : Int32) := by
    unfold sm_B
    decide
  have hB6 : sm_B 1000 (6 : Int32) := by
    unfold sm_B
    decide
  obtain ⟨i1, i2⟩ := vq_fu_le hB0 hB6 (by decide)
  have e : vq_ar f W H 0 0 6 c = 0 + vq_sum 13 (fun k => vq_sum 13 (fun l => vq_is f W H (0 - 6 + nI k) (0 - 6 + nI l) c)) := by
    unfold vq_ar
    rw [show (fun x s => vq_fold (fun y s => s + vq_is f W H x y c) (fun y => 0 + 6 < y) (vq_fu 0 6) (0 - 6) s) = fun x s => s + vq_sum (vq_fu 0 6) (fun k => vq_is f W H x (0 - 6 + nI k) c) from funext fun x => funext fun s => vq_fold_sum (fun y => vq_is f W H x y c) i2 _ _ _ i1]
    rw [vq_fold_sum (fun x => vq_sum (vq_fu 0 6) (fun k => vq_is f W H x (0 - 6 + nI k) c)) i2 _ _ _ i1, vq_fu6]
  rw [e, Int32.zero_add]
  have hin : ∀ x, 0 ≤ (vq_sum 13 (fun l => vq_is f W H x (0 - 6 + nI l) c)).toInt ∧ (vq_sum 13 (fun l => vq_is f W H x (0 - 6 + nI l) c)).toInt ≤ ((6 * 1 : Nat) : Int) := fun x => vq_sum13 (by decide) _ (fun k _ => vq_is01) (fun k hk => vq_isz (by rw [vq_c6 (show k < 13 by omega)]; omega))
  have h := vq_sum13 (M := 6) (by decide) (fun k => vq_sum 13 (fun l => vq_is f W H (0 - 6 + nI k) (0 - 6 + nI l) c)) (fun k _ => hin _) (fun k hk => vq_sum_z 13 _ (fun l _ => vq_isz (by rw [vq_c6 (show k < 13 by omega)]; omega)))
  omega
theorem vq_min36 {n : Int32} (h : n.toInt ≤ 36) : sm_min 99 n = sm_min 36 n := by
  have e1 : (99 : Int32).toInt = 99 := by decide
  have e2 : (36 : Int32).toInt = 36 := by decide
  have q1 : sm_min 99 n = n := vq_min1 (Int32.lt_iff_toInt_lt.mpr (by omega))
  rw [q1]
  by_cases q : n < 36
  · rw [vq_min1 q]
  · rw [vq_min0 q]
    have q2 : ¬ n.toInt < (36 : Int32).toInt := fun z => q (Int32.lt_iff_toInt_lt.mpr z)
    exact Int32.toInt_inj.mp (by omega)
theorem vq_fair0 {f : Nat → Int32} {W H N : Nat} (hW : W ≤ 6) (hH : H ≤ 6) (hN : 0 < N) : vq_fn (fun ii s => vq_mm (vq_ar f W H 0 0 6 (nI ii)) s) N 0 (0, 99) = vq_fn (fun ii s => vq_mm (vq_ar f W H 0 0 6 (nI ii)) s) N 0 (0, 36) := by
  obtain ⟨M, rfl⟩ : ∃ M, N = M + 1 := ⟨N - 1, by omega⟩
  show vq_fn _ M (0 + 1) (vq_mm (vq_ar f W H 0 0 6 (nI 0)) (0, 99)) = vq_fn _ M (0 + 1) (vq_mm (vq_ar f W H 0 0 6 (nI 0)) (0, 36))
  rw [show vq_mm (vq_ar f W H 0 0 6 (nI 0)) (0, 99) = vq_mm (vq_ar f W H 0 0 6 (nI 0)) (0, 36) from vq_mm1 rfl (vq_min36 (vq_ar36 hW hH _).2)]
noncomputable def vq_gl : Nat → Int32 → Int32 → Int32
  | 0, x, _ => x
  | n + 1, x, y => if y = 0 then x else vq_gl n y (x - x / y * y)
theorem vq_gl0 {n : Nat} {x y : Int32} (h : y = 0) : vq_gl n x y = x := by
  cases n with
  | zero => rfl
  | succ n => exact if_pos h
theorem vq_gl1 {n : Nat} {x y : Int32} (h : ¬ y = 0) : vq_gl (n + 1) x y = vq_gl n y (x - x / y * y) := if_neg h
theorem vq_gl_nz : ∀ (n : Nat) (x y : Int32), ¬ x = 0 → ¬ vq_gl n x y = 0 := by
  intro n
  induction n with
  | zero =>
    intro x y h
    exact h
  | succ n ih =>
    intro x y h
    by_cases q : y = 0
    · rw [vq_gl0 q]
      exact h
    · rw [vq_gl1 q]
      exact ih _ _ q
theorem vq_gl_nz2 {n : Nat} {x y : Int32} (h : ¬ y = 0) : ¬ vq_gl (n + 1) x y = 0 := by
  rw [vq_gl1 h]
  exact vq_gl_nz n _ _ h
/-! seen: sums of cells -/
theorem vq_e0 {s e : Int32} (h : e = 0) : s + e = s := by rw [h, Int32.add_zero]
theorem vq_ed01 {f : Nat → Int32} {W H I J : Nat} {c : Int32} (h : ¬ vq_ed f W H I J c = 0) : vq_ed f W H I J c = 1 := by
  unfold vq_ed at h ⊢
  split
  · rename_i h1
    rw [if_pos h1] at h
    split
    · rename_i h2
      rw [if_pos h2] at h
      split
      · rename_i h3
        rw [if_pos h3] at h
        split
        · rename_i h4
          rw [if_pos h4] at h
          exact absurd rfl h
        · rfl
      · rfl
    · rfl
  · rfl
theorem vq_e1 {f : Nat → Int32} {W H I J : Nat} {c s : Int32} (h : ¬ vq_ed f W H I J c = 0) : s + vq_ed f W H I J c = s + 1 := by rw [vq_ed01 h]
theorem vq_fn_sum (h : Nat → Int32) : ∀ (n k : Nat) (s : Int32), vq_fn (fun k s => s + h k) n k s = s + vq_sum n (fun i => h (k + i)) := by
  intro n
  induction n with
  | zero =>
    intro k s
    exact (Int32.add_zero s).symm
  | succ n ih =>
    intro k s
    show vq_fn (fun k s => s + h k) n (k + 1) (s + h k) = s + (h k + vq_sum n (fun i => h (k + (i + 1))))
    rw [ih (k + 1) (s + h k), Int32.add_assoc, show (fun i => h (k + 1 + i)) = fun i => h (k + (i + 1)) from funext fun i => by rw [show k + 1 + i = k + (i + 1) by omega]]
theorem vq_fn_sum0 (h : Nat → Int32) (n : Nat) (s : Int32) : vq_fn (fun k s => s + h k) n 0 s = s + vq_sum n h := by
  rw [vq_fn_sum h n 0 s, show (fun i => h (0 + i)) = h from funext fun i => by rw [Nat.zero_add]]
theorem vq_dbl (E : Nat → Nat → Int32) (W H : Nat) (s : Int32) : vq_fn (fun j s => vq_fn (fun i s => s + E i j) W 0 s) H 0 s = s + vq_sum H (fun j => vq_sum W (fun i => E i j)) := by
  rw [show (fun j s => vq_fn (fun i s => s + E i j) W 0 s) = fun j s => s + vq_sum W (fun i => E i j) from funext fun j => funext fun s => vq_fn_sum0 (fun i => E i j) W s]
  exact vq_fn_sum0 (fun j => vq_sum W (fun i => E i j)) H s
theorem vq_sum_eq : ∀ (n : Nat) (f g : Nat → Int32), (∀ k, k < n → f k = g k) → vq_sum n f = vq_sum n g := by
  intro n
  induction n with
  | zero =>
    intro f g _
    rfl
  | succ n ih =>
    intro f g h
    show f 0 + vq_sum n (fun k => f (k + 1)) = g 0 + vq_sum n (fun k => g (k + 1))
    rw [h 0 (Nat.succ_pos n), ih (fun k => f (k + 1)) (fun k => g (k + 1)) (fun k hk => h (k + 1) (Nat.succ_lt_succ hk))]
theorem vq_sum_last : ∀ (n : Nat) (f : Nat → Int32), vq_sum (n + 1) f = vq_sum n f + f n := by
  intro n
  induction n with
  | zero =>
    intro f
    show f 0 + 0 = 0 + f 0
    rw [Int32.add_zero, Int32.zero_add]
  | succ n ih =>
    intro f
    show f 0 + vq_sum (n + 1) (fun k => f (k + 1)) = f 0 + vq_sum n (fun k => f (k + 1)) + f (n + 1)
    rw [ih (fun k => f (k + 1)), Int32.add_assoc]
/-- rows then columns, the other way round -/
theorem vq_swap {E E' : Nat → Nat → Int32} {W H : Nat} (h : ∀ i j, i < W → j < H → E' i j = E i j) : vq_fn (fun i s => vq_fn (fun j s => s + E' i j) H 0 s) W 0 0 = vq_fn (fun j s => vq_fn (fun i s => s + E i j) W 0 s) H 0 0 := by
  rw [vq_dbl E W H 0, vq_dbl (fun j i => E' i j) H W 0, vq_sum_comm W H E',
    vq_sum_eq H (fun j => vq_sum W (fun i => E' i j)) (fun j => vq_sum W (fun i => E i j)) (fun j hj => vq_sum_eq W (fun i => E' i j) (fun i => E i j) (fun i hi => h i j hi hj))]
/-- squares: one row and one column less -/
theorem vq_less {f : Nat → Int32} {W : Nat} (hW : 1 ≤ W) (h : ∀ i, W ≤ i + 1 → f i = 0) : vq_sum W f = vq_sum (W - 1) f := by
  obtain ⟨n, rfl⟩ : ∃ n, W = n + 1 := ⟨W - 1, by omega⟩
  rw [vq_sum_last n f, h n (by omega), Int32.add_zero]
  rfl
theorem vq_swap1 {E E' : Nat → Nat → Int32} {W H : Nat} (hW : 1 ≤ W) (hH : 1 ≤ H) (h : ∀ i j, i + 1 < W → j + 1 < H → E' i j = E i j) (h0 : ∀ i j, W ≤ i + 1 ∨ H ≤ j + 1 → E' i j = 0) : vq_fn (fun i s => vq_fn (fun j s => s + E' i j) H 0 s) W 0 0 = vq_fn (fun j s => vq_fn (fun i s => s + E i j) (W - 1) 0 s) (H - 1) 0 0 := by
  rw [vq_dbl E (W - 1) (H - 1) 0, vq_dbl (fun j i => E' i j) H W 0, vq_sum_comm W H E']
  rw [vq_less hH (fun j hj => vq_sum_z W _ (fun i _ => h0 i j (Or.inr hj)))]
  rw [vq_sum_eq (H - 1) (fun j => vq_sum W (fun i => E' i j)) (fun j => vq_sum (W - 1) (fun i => E i j)) (fun j hj => (vq_less hW (fun i hi => h0 i j (Or.inl hi))).trans (vq_sum_eq (W - 1) (fun i => E' i j) (fun i => E i j) (fun i hi => h i j (by omega) (by omega))))]
/-! finer -/
noncomputable def vq_pt (w : mz_M) (x y c : Int32) : Int32 := if sm_bI (sm_plc x y) = 0 then 0 else if sm_end w (w 7 5) x y 0 0 = c then 0 else 1
theorem vq_pt1 {w : mz_M} {x y c s : Int32} (h : sm_bI (sm_plc x y) = 0) : s + vq_pt w x y c = s := by
  unfold vq_pt
  rw [if_pos h, Int32.add_zero]
theorem vq_pt2 {w : mz_M} {x y c s : Int32} (h1 : ¬ sm_bI (sm_plc x y) = 0) (h : sm_end w (w 7 5) x y 0 0 = c) : s + vq_pt w x y c = s := by
  unfold vq_pt
  rw [if_neg h1, if_pos h, Int32.add_zero]
theorem vq_pt3 {w : mz_M} {x y c s : Int32} (h1 : ¬ sm_bI (sm_plc x y) = 0) (h : ¬ sm_end w (w 7 5) x y 0 0 = c) : s + vq_pt w x y c = s + 1 := by
  unfold vq_pt
  rw [if_neg h1, if_neg h]
/-- the three places of a cell -/
noncomputable def vq_f3 (w : mz_M) (x y h c : Int32) : Int32 := vq_pt w (x + h) (y + 0) c + (vq_pt w (x + 0) (y + h) c + vq_pt w (x + h) (y + h) c)
theorem vq_f3a {w : mz_M} {x y h c s : Int32} : s + vq_f3 w x y h c = s + vq_pt w (x + h) (y + 0) c + vq_pt w (x + 0) (y + h) c + vq_pt w (x + h) (y + h) c := by
  unfold vq_f3
  rw [Int32.add_assoc, Int32.add_assoc]
noncomputable def vq_fc (w : mz_M) (W H I J : Nat) : Int32 := if vq_ed (w 21) W H I J (w 21 ((J * 6) + I)) = 0 then 0 else vq_f3 w ((w 20 0) + ((nI I) * (w 20 4))) ((w 20 1) + ((nI J) * (w 20 4))) ((w 20 4) / 2) (w 21 ((J * 6) + I))
theorem vq_fc0 {w : mz_M} {W H I J : Nat} {s : Int32} (h : vq_ed (w 21) W H I J (w 21 ((J * 6) + I)) = 0) : s + vq_fc w W H I J = s := by
  unfold vq_fc
  rw [if_pos h, Int32.add_zero]
theorem vq_fc1 {w : mz_M} {W H I J : Nat} {s : Int32} (h : ¬ vq_ed (w 21) W H I J (w 21 ((J * 6) + I)) = 0) : s + vq_fc w W H I J = s + vq_f3 w ((w 20 0) + ((nI I) * (w 20 4))) ((w 20 1) + ((nI J) * (w 20 4))) ((w 20 4) / 2) (w 21 ((J * 6) + I)) := by
  unfold vq_fc
  rw [if_neg h]
/-! squares of two by two, and sets of colours -/
noncomputable def vq_n1 (x a : Int32) : Int32 := if x = a then 0 else 1
noncomputable def vq_n2 (x a b : Int32) : Int32 := if x = a then 0 else vq_n1 x b
noncomputable def vq_n3 (x a b c : Int32) : Int32 := if x = a then 0 else vq_n2 x b c
theorem vq_n1t {x a : Int32} (h : x = a) : vq_n1 x a = 0 := if_pos h
theorem vq_n1f {x a : Int32} (h : ¬ x = a) : vq_n1 x a = 1 := if_neg h
theorem vq_n2t {x a b : Int32} (h : x = a) : vq_n2 x a b = 0 := if_pos h
theorem vq_n2f {x a b z : Int32} (h : ¬ x = a) (e : vq_n1 x b = z) : vq_n2 x a b = z := (if_neg h).trans e
theorem vq_n3t {x a b c : Int32} (h : x = a) : vq_n3 x a b c = 0 := if_pos h
theorem vq_n3f {x a b c z : Int32} (h : ¬ x = a) (e : vq_n2 x b c = z) : vq_n3 x a b c = z := (if_neg h).trans e
noncomputable def vq_sq (a b c d : Int32) : Int32 := 1 + vq_n1 b a + vq_n2 c a b + vq_n3 d a b c
theorem vq_sqE {a b c d x y z v : Int32} (h1 : vq_n1 b a = x) (h2 : vq_n2 c a b = y) (h3 : vq_n3 d a b c = z) (e : 1 + x + y + z = v) : vq_sq a b c d = v := by
  unfold vq_sq
  rw [h1, h2, h3]
  exact e
noncomputable def vq_t3 (v : Int32) : Int32 := if v < 3 then 0 else 1
theorem vq_t3a {v s : Int32} (h : v < 3) : s + vq_t3 v = s := by
  unfold vq_t3
  rw [if_pos h, Int32.add_zero]
theorem vq_t3b {v s : Int32} (h : ¬ v < 3) : s + vq_t3 v = s + 1 := by
  unfold vq_t3
  rw [if_neg h]
theorem nI_or (x y : Nat) : nI x ||| nI y = nI (x ||| y) := Int32.toBitVec_inj.mp (BitVec.ofNat_or (w := 32) (x := x) (y := y)).symm
theorem nI_and (x y : Nat) : nI x &&& nI y = nI (x &&& y) := Int32.toBitVec_inj.mp (BitVec.ofNat_and (w := 32) (x := x) (y := y)).symm
theorem nI_bit {k : Nat} (h : k ≤ 9) : (1 : Int32) <<< (nI k &&& 31) = nI (2 ^ k) := by
  rcases (show k = 0 ∨ k = 1 ∨ k = 2 ∨ k = 3 ∨ k = 4 ∨ k = 5 ∨ k = 6 ∨ k = 7 ∨ k = 8 ∨ k = 9 by omega) with rfl | rfl | rfl | rfl | rfl | rfl | rfl | rfl | rfl | rfl <;> decide
/-- how many bits are set, one after the other -/
noncomputable def vq_pl : Nat → Int32 → Int32 → Int32
  | 0, _, n => n
  | f + 1, x, n => if x = 0 then n else vq_pl f (x &&& (x - 1)) (n + 1)
theorem vq_pl0 {f : Nat} {x n : Int32} (h : x = 0) : vq_pl f x n = n := by
  cases f with
  | zero => rfl
  | succ f => exact if_pos h
theorem vq_pl1 {f : Nat} {x n : Int32} (h : ¬ x = 0) : vq_pl (f + 1) x n = vq_pl f (x &&& (x - 1)) (n + 1) := if_neg h
noncomputable def vq_pn : Nat → Nat → Nat → Nat
  | 0, _, n => n
  | f + 1, x, n => if x = 0 then n else vq_pn f (x &&& (x - 1)) (n + 1)
theorem vq_pl_pn : ∀ (f x n : Nat), x < 2 ^ 31 → vq_pl f (nI x) (nI n) = nI (vq_pn f x n) := by
  intro f
  induction f with
  | zero =>
    intro x n _
    rfl
  | succ f ih =>
    intro x n hx
    show (if nI x = 0 then nI n else vq_pl f (nI x &&& (nI x - 1)) (nI n + 1)) = nI (if x = 0 then n else vq_pn f (x &&& (x - 1)) (n + 1))
    by_cases e : x = 0
    · rw [if_pos e, if_pos (show nI x = 0 by rw [e]; rfl)]
    · rw [if_neg e, if_neg (sm_nz (k := x) (by omega)), show nI x - 1 = nI (x - 1) from sm_subN (a := x) (b := 1) rfl rfl (by omega), nI_and, ← nI_succ n]
      exact ih (x &&& (x - 1)) (n + 1) (Nat.lt_of_le_of_lt Nat.and_le_left hx)
/-- how many of ten bits are set -/
noncomputable def vq_tb (x k : Nat) : Nat := if x.testBit k then 1 else 0
noncomputable def vq_ct (x : Nat) : Nat := vq_tb x 0 + vq_tb x 1 + vq_tb x 2 + vq_tb x 3 + vq_tb x 4 + vq_tb x 5 + vq_tb x 6 + vq_tb x 7 + vq_tb x 8 + vq_tb x 9
set_option maxRecDepth 100000 in
theorem vq_pn_ct : ∀ x, x < 1024 → vq_pn 1024 x 0 = vq_ct x := by decide +kernel
/-- bits of cells -/
noncomputable def vq_orr (F : Nat → Nat → Int32) (P Q : Nat) : Int32 := vq_fn (fun a s => vq_fn (fun b s => s ||| (1 <<< (F a b &&& 31))) Q 0 s) P 0 0
theorem vq_or1 {g : Nat → Int32} {B : Nat} (hg : ∀ b, b < B → ∃ V, V ≤ 9 ∧ g b = nI V) : ∀ n k M0 : Nat, k + n ≤ B → M0 < 1024 → ∃ M, M < 1024 ∧ vq_fn (fun b s => s ||| (1 <<< (g b &&& 31))) n k (nI M0) = nI M ∧ ∀ c, c ≤ 9 → (M.testBit c = true ↔ M0.testBit c = true ∨ ∃ b, k ≤ b ∧ b < k + n ∧ g b = nI c) := by
  intro n
  induction n with
  | zero =>
    intro k M0 hk hM
    refine ⟨M0, hM, rfl, fun c hc => ⟨Or.inl, fun h => h.elim id ?_⟩⟩
    rintro ⟨b, h1, h2, -⟩
    omega
  | succ n ih =>
    intro k M0 hk hM
    obtain ⟨V, hV, eV⟩ := hg k (by omega)
    have h2 : 2 ^ V < 2 ^ 10 := Nat.pow_lt_pow_right (by decide) (by omega)
    have h3 : M0 ||| 2 ^ V < 2 ^ 10 := Nat.or_lt_two_pow (show M0 < 2 ^ 10 from hM) h2
    obtain ⟨M, hM2, e, hb⟩ := ih (k + 1) (M0 ||| 2 ^ V) (by omega) h3
    refine ⟨M, hM2, ?_, fun c hc => ?_⟩
    · show vq_fn (fun b s => s ||| (1 <<< (g b &&& 31))) n (k + 1) (nI M0 ||| (1 <<< (g k &&& 31))) = nI M
      rw [eV, nI_bit hV, nI_or]
      exact e
    · rw [hb c hc, Nat.testBit_or, Nat.testBit_two_pow, Bool.or_eq_true, decide_eq_true_eq]
      constructor
      · rintro ((h | h) | ⟨b, h1, h4, h5⟩)
        · exact Or.inl h
        · exact Or.inr ⟨k, by omega, by omega, by rw [eV, h]⟩
        · exact Or.inr ⟨b, by omega, by omega, h5⟩
      · rintro (h | ⟨b, h1, h4, h5⟩)
        · exact Or.inl (Or.inl h)
        · rcases Nat.eq_or_lt_of_le h1 with e1 | e1
          · refine Or.inl (Or.inr ?_)
            rw [← e1, eV] at h5
            exact (nI_eq (show V < 2 ^ 31 by omega) (show c < 2 ^ 31 by omega)).mp h5
          · exact Or.inr ⟨b, by omega, by omega, h5⟩
theorem vq_or2 {F : Nat → Nat → Int32} {P Q : Nat} (hF : ∀ a b, a < P → b < Q → ∃ V, V ≤ 9 ∧ F a b = nI V) : ∀ n k M0 : Nat, k + n ≤ P → M0 < 1024 → ∃ M, M < 1024 ∧ vq_fn (fun a s => vq_fn (fun b s => s ||| (1 <<< (F a b &&& 31))) Q 0 s) n k (nI M0) = nI M ∧ ∀ c, c ≤ 9 → (M.testBit c = true ↔ M0.testBit c = true ∨ ∃ a b, k ≤ a ∧ a < k + n ∧ b < Q ∧ F a b = nI c) := by
  intro n
  induction n with
  | zero =>
    intro k M0 hk hM
    refine ⟨M0, hM, rfl, fun c hc => ⟨Or.inl, fun h => h.elim id ?_⟩⟩
    rintro ⟨a, b, h1, h2, -⟩
    omega
  | succ n ih =>
    intro k M0 hk hM
    obtain ⟨M1, hM1, e1, hb1⟩ := vq_or1 (g := F k) (B := Q) (fun b hb => hF k b (by omega) hb) Q 0 M0 (by omega) hM
    obtain ⟨M, hM2, e, hb⟩ := ih (k + 1) M1 (by omega) hM1
    refine ⟨M, hM2, ?_, fun c hc => ?_⟩
    · show vq_fn (fun a s => vq_fn (fun b s => s ||| (1 <<< (F a b &&& 31))) Q 0 s) n (k + 1) (vq_fn (fun b s => s ||| (1 <<< (F k b &&& 31))) Q 0 (nI M0)) = nI M
      rw [e1]
      exact e
    · rw [hb c hc, hb1 c hc]
      constructor
      · rintro ((h | ⟨b, h1, h4, h5⟩) | ⟨a, b, h1, h4, h5, h6⟩)
        · exact Or.inl h
        · exact Or.inr ⟨k, b, by omega, by omega, by omega, h5⟩
        · exact Or.inr ⟨a, b, by omega, by omega, h5, h6⟩
      · rintro (h | ⟨a, b, h1, h4, h5, h6⟩)
        · exact Or.inl (Or.inl h)
        · rcases Nat.eq_or_lt_of_le h1 with e1 | e1
          · refine Or.inl (Or.inr ⟨b, by omega, by omega, ?_⟩)
            rw [e1]
            exact h6
          · exact Or.inr ⟨a, b, by omega, by omega, h5, h6⟩
theorem vq_orrN {F : Nat → Nat → Int32} {P Q : Nat} (hF : ∀ a b, a < P → b < Q → ∃ V, V ≤ 9 ∧ F a b = nI V) : ∃ M, M < 1024 ∧ vq_orr F P Q = nI M ∧ ∀ c, c ≤ 9 → (M.testBit c = true ↔ ∃ a b, a < P ∧ b < Q ∧ F a b = nI c) := by
  obtain ⟨M, h1, h2, h3⟩ := vq_or2 hF P 0 0 (by omega) (by decide)
  refine ⟨M, h1, h2, fun c hc => ?_⟩
  rw [h3 c hc, Nat.zero_testBit]
  constructor
  · rintro (h | ⟨a, b, -, h4, h5, h6⟩)
    · cases h
    · exact ⟨a, b, by omega, h5, h6⟩
  · rintro ⟨a, b, h4, h5, h6⟩
    exact Or.inr ⟨a, b, by omega, by omega, h5, h6⟩
theorem vq_pl_ct {M : Nat} (h : M < 1024) : vq_pl 1024 (nI M) 0 = nI (vq_ct M) := (vq_pl_pn 1024 M 0 (by omega)).trans (congrArg nI (vq_pn_ct M h))
theorem nI_bv {M : Nat} (h : M < 1024) : (nI M).toBitVec.toNat < 1024 := by
  show M % 2 ^ 32 < 1024
  rw [Nat.mod_eq_of_lt (by omega)]
  exact h
noncomputable def vq_k1 (x a : Nat) : Nat := if x = a then 0 else 1
noncomputable def vq_k2 (x a b : Nat) : Nat := if x = a then 0 else vq_k1 x b
noncomputable def vq_k3 (x a b c : Nat) : Nat := if x = a then 0 else vq_k2 x b c
theorem vq_n1N {x a : Nat} (hx : x ≤ 9) (ha : a ≤ 9) : vq_n1 (nI x) (nI a) = nI (vq_k1 x a) := by
  unfold vq_n1 vq_k1
  by_cases e : x = a
  · rw [if_pos e, if_pos (by rw [e])]
    rfl
  · rw [if_neg e, if_neg (fun h => e ((nI_eq (by omega) (by omega)).mp h))]
    rfl
theorem vq_n2N {x a b : Nat} (hx : x ≤ 9) (ha : a ≤ 9) (hb : b ≤ 9) : vq_n2 (nI x) (nI a) (nI b) = nI (vq_k2 x a b) := by
  unfold vq_n2 vq_k2
  by_cases e : x = a
  · rw [if_pos e, if_pos (by rw [e])]
    rfl
  · rw [if_neg e, if_neg (fun h => e ((nI_eq (by omega) (by omega)).mp h)), vq_n1N hx hb]
theorem vq_n3N {x a b c : Nat} (hx : x ≤ 9) (ha : a ≤ 9) (hb : b ≤ 9) (hc : c ≤ 9) : vq_n3 (nI x) (nI a) (nI b) (nI c) = nI (vq_k3 x a b c) := by
  unfold vq_n3 vq_k3
  by_cases e : x = a
  · rw [if_pos e, if_pos (by rw [e])]
    rfl
  · rw [if_neg e, if_neg (fun h => e ((nI_eq (by omega) (by omega)).mp h)), vq_n2N hx hb hc]
set_option maxRecDepth 100000 in
theorem vq_sq10 : ∀ a, a < 10 → ∀ b, b < 10 → ∀ c, c < 10 → ∀ d, d < 10 → vq_ct (((2 ^ a ||| 2 ^ c) ||| 2 ^ b) ||| 2 ^ d) = 1 + vq_k1 b a + vq_k2 c a b + vq_k3 d a b c := by decide +kernel
theorem vq_sq4 {F : Nat → Nat → Int32} {a b c d : Nat} (ha : a ≤ 9) (hb : b ≤ 9) (hc : c ≤ 9) (hd : d ≤ 9) (e1 : F 0 0 = nI a) (e2 : F 1 0 = nI b) (e3 : F 0 1 = nI c) (e4 : F 1 1 = nI d) : vq_pl 1024 (vq_orr F 2 2) 0 = vq_sq (nI a) (nI b) (nI c) (nI d) := by
  have e : vq_orr F 2 2 = nI (((2 ^ a ||| 2 ^ c) ||| 2 ^ b) ||| 2 ^ d) := by
    show (((nI 0 ||| (1 <<< (F 0 0 &&& 31))) ||| (1 <<< (F 0 1 &&& 31))) ||| (1 <<< (F 1 0 &&& 31))) ||| (1 <<< (F 1 1 &&& 31)) = _
    rw [e1, e2, e3, e4, nI_bit ha, nI_bit hb, nI_bit hc, nI_bit hd, nI_or, nI_or, nI_or, nI_or, Nat.zero_or]
  have p : ∀ k, k ≤ 9 → 2 ^ k < 2 ^ 10 := fun k hk => Nat.pow_lt_pow_right (by decide) (by omega)
  have hM : ((2 ^ a ||| 2 ^ c) ||| 2 ^ b) ||| 2 ^ d < 2 ^ 10 := Nat.or_lt_two_pow (Nat.or_lt_two_pow (Nat.or_lt_two_pow (p a ha) (p c hc)) (p b hb)) (p d hd)
  rw [e, vq_pl_ct hM, vq_sq10 a (by omega) b (by omega) c (by omega) d (by omega)]
  unfold vq_sq
  rw [vq_n1N hb ha, vq_n2N hc ha hb, vq_n3N hd ha hb hc, show (1 : Int32) = nI 1 from rfl, nI_add, nI_add, nI_add]
noncomputable def vq_t2 (v : Int32) : Int32 := if v ≤ 2 then 0 else 1
theorem vq_t2a {v s : Int32} (h : v ≤ 2) : s + vq_t2 v = s := by
  unfold vq_t2
  rw [if_pos h, Int32.add_zero]
theorem vq_t2b {v s : Int32} (h : ¬ v ≤ 2) : s + vq_t2 v = s + 1 := by
  unfold vq_t2
  rw [if_neg h]
theorem vq_t23 (v : Int32) : vq_t2 v = vq_t3 v := by
  have e2 : (2 : Int32).toInt = 2 := by decide
  have e3 : (3 : Int32).toInt = 3 := by decide
  unfold vq_t2 vq_t3
  by_cases h : v ≤ 2
  · rw [if_pos h, if_pos]
    rw [Int32.le_iff_toInt_le, e2] at h
    rw [Int32.lt_iff_toInt_lt, e3]
    omega
  · rw [if_neg h, if_neg]
    rw [Int32.le_iff_toInt_le, e2] at h
    rw [Int32.lt_iff_toInt_lt, e3]
    omega
noncomputable def vq_q1 (f : Nat → Int32) (W H i j : Nat) : Int32 := if i + 1 < W then (if j + 1 < H then vq_t2 (vq_pl 1024 (vq_orr (fun a b => f (((j + b) * 6) + (i + a))) 2 2) 0) else 0) else 0
theorem vq_q1a {f : Nat → Int32} {W H i j : Nat} {s : Int32} (h : ¬ i + 1 < W) : s + vq_q1 f W H i j = s := by
  unfold vq_q1
  rw [if_neg h, Int32.add_zero]
theorem vq_q1b {f : Nat → Int32} {W H i j : Nat} {s : Int32} (h : ¬ j + 1 < H) : s + vq_q1 f W H i j = s := by
  unfold vq_q1
  rw [if_neg h, ite_self, Int32.add_zero]
theorem vq_q1c {f : Nat → Int32} {W H i j : Nat} {s z : Int32} (h1 : i + 1 < W) (h2 : j + 1 < H) (h : s + vq_t2 (vq_pl 1024 (vq_orr (fun a b => f (((j + b) * 6) + (i + a))) 2 2) 0) = z) : s + vq_q1 f W H i j = z := by
  unfold vq_q1
  rw [if_pos h1, if_pos h2]
  exact h
theorem vq_q1z {f : Nat → Int32} {W H i j : Nat} (h : W ≤ i + 1 ∨ H ≤ j + 1) : vq_q1 f W H i j = 0 := by
  unfold vq_q1
  by_cases h1 : i + 1 < W
  · rw [if_pos h1, if_neg (by omega)]
  · rw [if_neg h1]
theorem vq_q1q {f : Nat → Int32} {W H i j : Nat} (hc : ∀ i, i < 36 → sm_colB (f i)) (hW : W ≤ 6) (hH : H ≤ 6) (h1 : i + 1 < W) (h2 : j + 1 < H) : vq_q1 f W H i j = vq_t3 (vq_sq (f ((j * 6) + i)) (f ((j * 6) + (i + 1))) (f (((j + 1) * 6) + i)) (f (((j + 1) * 6) + (i + 1)))) := by
  obtain ⟨a, ha, ea⟩ := sm_colN (hc ((j * 6) + i) (by omega))
  obtain ⟨b, hb, eb⟩ := sm_colN (hc ((j * 6) + (i + 1)) (by omega))
  obtain ⟨c, hcc, ec⟩ := sm_colN (hc (((j + 1) * 6) + i) (by omega))
  obtain ⟨d, hd, ed⟩ := sm_colN (hc (((j + 1) * 6) + (i + 1)) (by omega))
  unfold vq_q1
  rw [if_pos h1, if_pos h2, vq_sq4 (F := fun a b => f (((j + b) * 6) + (i + a))) ha hb hcc hd ea eb ec ed, vq_t23, ea, eb, ec, ed]
/-! turned: cells that come to cells -/
noncomputable def vq_rA : Nat → Nat → Nat → Nat → Nat
  | 0, _, i, _ => i
  | 1, W, _, j => W - 1 - j
  | 2, W, i, _ => W - 1 - i
  | _, W, _, j => W - 1 - (W - 1 - j)
noncomputable def vq_rB : Nat → Nat → Nat → Nat → Nat
  | 0, _, _, j => j
  | 1, _, i, _ => i
  | 2, W, _, j => W - 1 - j
  | _, W, i, _ => W - 1 - i
noncomputable def vq_tP (c : Nat → Nat → Nat) (q W : Nat) : Prop := ∀ i, i < W → ∀ j, j < W → ∀ k, k < W → ∀ l, l < W → (c i j = c k l ↔ c (vq_rA q W i j) (vq_rB q W i j) = c (vq_rA q W k l) (vq_rB q W k l))
noncomputable def vq_tv (c : Nat → Nat → Nat) (q W : Nat) : Int32 := @ite Int32 (vq_tP c q W) (Classical.propDecidable _) 1 0
theorem vq_tvT {c : Nat → Nat → Nat} {q W : Nat} (h : vq_tP c q W) : vq_tv c q W = 1 := @if_pos _ (Classical.propDecidable _) h _ _ _
theorem vq_tvF {c : Nat → Nat → Nat} {q W : Nat} (h : ¬ vq_tP c q W) : vq_tv c q W = 0 := @if_neg _ (Classical.propDecidable _) h _ _ _
theorem vq_tv01 {c : Nat → Nat → Nat} {q W : Nat} : vq_tv c q W = 0 ∨ vq_tv c q W = 1 := by
  by_cases h : vq_tP c q W
  · exact Or.inr (vq_tvT h)
  · exact Or.inl (vq_tvF h)
theorem vq_divlt {a W : Nat} (h : a < W * W) : a / W < W := Nat.div_lt_of_lt_mul h
theorem vq_pos {a W : Nat} (h : a < W * W) : 0 < W := by
  rcases Nat.eq_zero_or_pos W with e | e
  · rw [e] at h
    omega
  · exact e
theorem vq_num {i j W : Nat} (hi : i < W) (hj : j < W) : j * W + i < W * W := by
  have h1 : (j + 1) * W ≤ W * W := Nat.mul_le_mul_right W (by omega)
  rw [Nat.add_mul, Nat.one_mul] at h1
  omega
noncomputable def vq_pp (c : Nat → Nat → Nat) (q W a b : Nat) : Prop := c (a % W) (a / W) = c (b % W) (b / W) ↔ c (vq_rA q W (a % W) (a / W)) (vq_rB q W (a % W) (a / W)) = c (vq_rA q W (b % W) (b / W)) (vq_rB q W (b % W) (b / W))
/-- all cells in rows, each against those ahead of it -/
theorem vq_tp1 {c : Nat → Nat → Nat} {q W : Nat} (h : ∀ a, a < W * W → ∀ b, b < a → vq_pp c q W a b) : vq_tP c q W := by
  intro i hi j hj k hk l hl
  obtain ⟨d1, d2⟩ := sm_dm (W := W) (J := j) (K := i) hi
  obtain ⟨d3, d4⟩ := sm_dm (W := W) (J := l) (K := k) hk
  rcases Nat.lt_trichotomy (j * W + i) (l * W + k) with z | z | z
  · have h2 := h (l * W + k) (vq_num hk hl) (j * W + i) z
    unfold vq_pp at h2
    rw [d1, d2, d3, d4] at h2
    exact ⟨fun e => (h2.mp e.symm).symm, fun e => (h2.mpr e.symm).symm⟩
  · have e1 : i = k := by rw [← d2, ← d4, z]
    have e2 : j = l := by rw [← d1, ← d3, z]
    rw [e1, e2]
    exact ⟨fun _ => rfl, fun _ => rfl⟩
  · have h2 := h (j * W + i) (vq_num hi hj) (l * W + k) z
    unfold vq_pp at h2
    rw [d1, d2, d3, d4] at h2
    exact h2
theorem vq_tp2 {c : Nat → Nat → Nat} {q W a b : Nat} (ha : a < W * W) (hb : b < W * W) (h : ¬ vq_pp c q W a b) : ¬ vq_tP c q W :=
  fun z => h (z _ (Nat.mod_lt _ (vq_pos ha)) _ (vq_divlt ha) _ (Nat.mod_lt _ (vq_pos ha)) _ (vq_divlt hb))
/-- what is known behind t cells: colours cc, where they come to dd -/
noncomputable def vq_tc (cc dd : Nat → Nat) (t : Nat) : Prop := ∀ p, p < t → ∀ r, r < t → (cc p = cc r ↔ dd p = dd r)
noncomputable def vq_tm (cc dd : Nat → Nat) (t : Nat) (f : Nat → Int32) : Prop := ∀ v, v ≤ 9 → (f v = -1 ∧ ∀ p, p < t → cc p ≠ v) ∨ ∃ p, p < t ∧ cc p = v ∧ f v = nI (dd p)
noncomputable def vq_ti (cc dd : Nat → Nat) (t : Nat) (is : Int32) (f g : Nat → Int32) : Prop := (is = 1 ∧ vq_tc cc dd t ∧ vq_tm cc dd t f ∧ vq_tm dd cc t g) ∨ (is = 0 ∧ ¬ vq_tc cc dd t)
theorem vq_ti0 {cc dd : Nat → Nat} {f g : Nat → Int32} (h : ∀ v, v < 10 → f v = -1 ∧ g v = -1) : vq_ti cc dd 0 1 f g :=
  Or.inl ⟨rfl, fun p hp => absurd hp (Nat.not_lt_zero p), fun v hv => Or.inl ⟨(h v (by omega)).1, fun p hp => absurd hp (Nat.not_lt_zero p)⟩, fun v hv => Or.inl ⟨(h v (by omega)).2, fun p hp => absurd hp (Nat.not_lt_zero p)⟩⟩
theorem vq_m1n {k : Nat} (h : k ≤ 9) : ¬ nI k < 0 := by
  rw [Int32.lt_iff_toInt_lt, nI_toInt (by omega), Int32.toInt_zero]
  omega
theorem vq_m1l : (-1 : Int32) < 0 := by decide
theorem vq_tc_mono {cc dd : Nat → Nat} {t : Nat} (h : vq_tc cc dd (t + 1)) : vq_tc cc dd t := fun p hp r hr => h p (by omega) r (by omega)
theorem vq_tsA {cc dd : Nat → Nat} {t : Nat} {is : Int32} {f g f' g' : Nat → Int32} (h : vq_ti cc dd t is f g) (e : is = 0) : vq_ti cc dd (t + 1) 0 f' g' := by
  rcases h with ⟨h1, -⟩ | ⟨-, h2⟩
  · rw [e] at h1
    exact absurd h1 (by decide)
  · exact Or.inr ⟨rfl, fun z => h2 (vq_tc_mono z)⟩
theorem vq_tsB {cc dd : Nat → Nat} {t : Nat} {is : Int32} {f g f' g' : Nat → Int32} (hc : cc t ≤ 9) (hd : ∀ p, p ≤ t → dd p ≤ 9) (h : vq_ti cc dd t is f g) (e : ¬ is = 0) (e1 : ¬ f (cc t) < 0) (e2 : ¬ f (cc t) = nI (dd t)) : vq_ti cc dd (t + 1) 0 f' g' := by
  rcases h with ⟨-, h1, h2, h3⟩ | ⟨h1, -⟩
  · rcases h2 (cc t) hc with ⟨a, -⟩ | ⟨p, hp, ep, fp⟩
    · rw [a] at e1
      exact absurd vq_m1l e1
    · refine Or.inr ⟨rfl, fun z => e2 ?_⟩
      rw [fp, (z p (by omega) t (by omega)).mp ep]
  · exact absurd h1 e
theorem vq_tsC {cc dd : Nat → Nat} {t : Nat} {is : Int32} {f g f' g' : Nat → Int32} (hd : dd t ≤ 9) (h : vq_ti cc dd t is f g) (e : ¬ is = 0) (e1 : ¬ g (dd t) < 0) (e2 : ¬ g (dd t) = nI (cc t)) : vq_ti cc dd (t + 1) 0 f' g' := by
  rcases h with ⟨-, h1, h2, h3⟩ | ⟨h1, -⟩
  · rcases h3 (dd t) hd with ⟨a, -⟩ | ⟨p, hp, ep, fp⟩
    · rw [a] at e1
      exact absurd vq_m1l e1
    · refine Or.inr ⟨rfl, fun z => e2 ?_⟩
      rw [fp, (z p (by omega) t (by omega)).mpr ep]
  · exact absurd h1 e
theorem vq_tm_step {cc dd : Nat → Nat} {t : Nat} {f f' : Nat → Int32} (h : vq_tm cc dd t f) (hf : ∀ v, f' v = if v = cc t then nI (dd t) else f v) : vq_tm cc dd (t + 1) f' := by
  intro v hv
  rw [hf]
  by_cases q : v = cc t
  · rw [if_pos q]
    exact Or.inr ⟨t, by omega, q.symm, rfl⟩
  · rw [if_neg q]
    rcases h v hv with ⟨a, b⟩ | ⟨p, hp, ep, fp⟩
    · refine Or.inl ⟨a, fun p hp => ?_⟩
      rcases Nat.lt_or_ge p t with z | z
      · exact b p z
      · rw [show p = t by omega]
        exact fun z => q z.symm
    · exact Or.inr ⟨p, by omega, ep, fp⟩
theorem vq_tm_of {cc dd : Nat → Nat} {t : Nat} {f : Nat → Int32} (hc : cc t ≤ 9) (hd : ∀ p, p ≤ t → dd p ≤ 9) (h : vq_tm cc dd t f) (e : f (cc t) < 0 ∨ f (cc t) = nI (dd t)) : (∀ p, p < t → cc p ≠ cc t) ∨ ∃ p, p < t ∧ cc p = cc t ∧ dd p = dd t := by
  rcases h (cc t) hc with ⟨a, b⟩ | ⟨p, hp, ep, fp⟩
  · exact Or.inl b
  · refine Or.inr ⟨p, hp, ep, ?_⟩
    rcases e with e | e
    · rw [fp] at e
      exact absurd e (vq_m1n (hd p (by omega)))
    · rw [fp] at e
      have h1 := hd p (by omega)
      have h2 := hd t (by omega)
      exact (nI_eq (by omega) (by omega)).mp e
theorem vq_tsD {cc dd : Nat → Nat} {t : Nat} {is : Int32} {f g f' g' : Nat → Int32} (hc : ∀ p, p ≤ t → cc p ≤ 9) (hd : ∀ p, p ≤ t → dd p ≤ 9) (h : vq_ti cc dd t is f g) (e : ¬ is = 0) (e1 : f (cc t) < 0 ∨ f (cc t) = nI (dd t)) (e2 : g (dd t) < 0 ∨ g (dd t) = nI (cc t)) (hf : ∀ v, f' v = if v = cc t then nI (dd t) else f v) (hg : ∀ v, g' v = if v = dd t then nI (cc t) else g v) : vq_ti cc dd (t + 1) 1 f' g' := by
  rcases h with ⟨-, h1, h2, h3⟩ | ⟨h1, -⟩
  · have a := vq_tm_of (hc t (Nat.le_refl t)) hd h2 e1
    have b := vq_tm_of (hd t (Nat.le_refl t)) hc h3 e2
    have key : ∀ p, p < t → (cc p = cc t ↔ dd p = dd t) := by
      intro p hp
      constructor
      · intro z
        rcases a with a | ⟨r, hr, x, y⟩
        · exact absurd z (a p hp)
        · rw [← y]
          exact (h1 p hp r hr).mp (z.trans x.symm)
      · intro z
        rcases b with b | ⟨r, hr, x, y⟩
        · exact absurd z (b p hp)
        · rw [← y]
          exact (h1 p hp r hr).mpr (z.trans x.symm)
    refine Or.inl ⟨rfl, fun p hp r hr => ?_, vq_tm_step h2 hf, vq_tm_step h3 hg⟩
    rcases Nat.lt_or_ge p t with x | x
    · rcases Nat.lt_or_ge r t with y | y
      · exact h1 p x r y
      · rw [show r = t by omega]
        exact key p x
    · rw [show p = t by omega]
      rcases Nat.lt_or_ge r t with y | y
      · exact ⟨fun z => ((key r y).mp z.symm).symm, fun z => ((key r y).mpr z.symm).symm⟩
      · rw [show r = t by omega]
        exact ⟨fun _ => rfl, fun _ => rfl⟩
  · exact absurd h1 e
/-- cells column by column -/
theorem vq_tend {c : Nat → Nat → Nat} {q W : Nat} {is : Int32} {f g : Nat → Int32} (h : vq_ti (fun t => c (t / W) (t % W)) (fun t => c (vq_rA q W (t / W) (t % W)) (vq_rB q W (t / W) (t % W))) (W * W) is f g) : is = vq_tv c q W := by
  have key : vq_tc (fun t => c (t / W) (t % W)) (fun t => c (vq_rA q W (t / W) (t % W)) (vq_rB q W (t / W) (t % W))) (W * W) ↔ vq_tP c q W := by
    constructor
    · intro z i hi j hj k hk l hl
      obtain ⟨d1, d2⟩ := sm_dm (W := W) (J := i) (K := j) hj
      obtain ⟨d3, d4⟩ := sm_dm (W := W) (J := k) (K := l) hl
      have h2 := z (i * W + j) (vq_num hj hi) (k * W + l) (vq_num hl hk)
      have h3 : c ((i * W + j) / W) ((i * W + j) % W) = c ((k * W + l) / W) ((k * W + l) % W) ↔ c (vq_rA q W ((i * W + j) / W) ((i * W + j) % W)) (vq_rB q W ((i * W + j) / W) ((i * W + j) % W)) = c (vq_rA q W ((k * W + l) / W) ((k * W + l) % W)) (vq_rB q W ((k * W + l) / W) ((k * W + l) % W)) := h2
      rw [d1, d2, d3, d4] at h3
      exact h3
    · intro z p hp r hr
      exact z _ (vq_divlt hp) _ (Nat.mod_lt _ (vq_pos hp)) _ (vq_divlt hr) _ (Nat.mod_lt _ (vq_pos hr))
  rcases h with ⟨h1, h2, -⟩ | ⟨h1, h2⟩
  · rw [vq_tvT (key.mp h2), h1]
  · rw [vq_tvF (fun z => h2 (key.mpr z)), h1]
/-- colours as numbers -/
noncomputable def vq_cn (f : Nat → Int32) (i j : Nat) : Nat := (f (j * 6 + i)).toInt.toNat
theorem vq_cnE {f : Nat → Int32} (hc : ∀ i, i < 36 → sm_colB (f i)) {i j : Nat} (hi : i < 6) (hj : j < 6) : f (j * 6 + i) = nI (vq_cn f i j) ∧ vq_cn f i j ≤ 9 := by
  obtain ⟨V, hV, e⟩ := sm_colN (hc (j * 6 + i) (by omega))
  unfold vq_cn
  rw [e, nI_toInt (by omega)]
  exact ⟨rfl, by omega⟩
theorem vq_rlt {q W i j : Nat} (hi : i < W) (hj : j < W) : vq_rA q W i j < W ∧ vq_rB q W i j < W := by
  rcases q with _ | _ | _ | q
  · exact ⟨hi, hj⟩
  · exact ⟨by show W - 1 - j < W; omega, hi⟩
  · exact ⟨by show W - 1 - i < W; omega, by show W - 1 - j < W; omega⟩
  · exact ⟨by show W - 1 - (W - 1 - j) < W; omega, by show W - 1 - i < W; omega⟩
noncomputable def vq_tI (c : Nat → Nat → Nat) (q W t : Nat) (is : Int32) (f g : Nat → Int32) : Prop := vq_ti (fun t => c (t / W) (t % W)) (fun t => c (vq_rA q W (t / W) (t % W)) (vq_rB q W (t / W) (t % W))) t is f g
theorem vq_ccE {c : Nat → Nat → Nat} {W I k : Nat} (hk : k < W) : c ((I * W + k) / W) ((I * W + k) % W) = c I k := by
  obtain ⟨d1, d2⟩ := sm_dm (W := W) (J := I) (K := k) hk
  rw [d1, d2]
theorem vq_ddE {c : Nat → Nat → Nat} {q W I k : Nat} (hk : k < W) : c (vq_rA q W ((I * W + k) / W) ((I * W + k) % W)) (vq_rB q W ((I * W + k) / W) ((I * W + k) % W)) = c (vq_rA q W I k) (vq_rB q W I k) := by
  obtain ⟨d1, d2⟩ := sm_dm (W := W) (J := I) (K := k) hk
  rw [d1, d2]
theorem vq_c9 {c : Nat → Nat → Nat} {W t : Nat} (h9 : ∀ i j, i < W → j < W → c i j ≤ 9) (ht : t < W * W) : ∀ p, p ≤ t → c (p / W) (p % W) ≤ 9 := fun p hp => h9 _ _ (vq_divlt (Nat.lt_of_le_of_lt hp ht)) (Nat.mod_lt _ (vq_pos ht))
theorem vq_d9 {c : Nat → Nat → Nat} {q W t : Nat} (h9 : ∀ i j, i < W → j < W → c i j ≤ 9) (ht : t < W * W) : ∀ p, p ≤ t → c (vq_rA q W (p / W) (p % W)) (vq_rB q W (p / W) (p % W)) ≤ 9 := fun p hp => by
  obtain ⟨h1, h2⟩ := vq_rlt (q := q) (vq_divlt (Nat.lt_of_le_of_lt hp ht)) (Nat.mod_lt p (vq_pos ht))
  exact h9 _ _ h1 h2
theorem vq_tuA {c : Nat → Nat → Nat} {q W I k : Nat} {is : Int32} {f g f' g' : Nat → Int32} (h : vq_tI c q W (I * W + k) is f g) (e : is = 0) : vq_tI c q W (I * W + (k + 1)) 0 f' g' := vq_tsA h e
theorem vq_tuB {c : Nat → Nat → Nat} {q W I k : Nat} {is : Int32} {f g f' g' : Nat → Int32} (h9 : ∀ i j, i < W → j < W → c i j ≤ 9) (hI : I < W) (hk : k < W) (h : vq_tI c q W (I * W + k) is f g) (e : ¬ is = 0) (e1 : ¬ f (c I k) < 0) (e2 : ¬ f (c I k) = nI (c (vq_rA q W I k) (vq_rB q W I k))) : vq_tI c q W (I * W + (k + 1)) 0 f' g' := by
  refine vq_tsB (t := I * W + k) (vq_c9 h9 (vq_num hk hI) _ (Nat.le_refl _)) (vq_d9 h9 (vq_num hk hI)) h e ?_ ?_
  · show ¬ f (c ((I * W + k) / W) ((I * W + k) % W)) < 0
    rw [vq_ccE (c := c) (W := W) (I := I) hk]
    exact e1
  · show ¬ f (c ((I * W + k) / W) ((I * W + k) % W)) = nI (c (vq_rA q W ((I * W + k) / W) ((I * W + k) % W)) (vq_rB q W ((I * W + k) / W) ((I * W + k) % W)))
    rw [vq_ccE (c := c) (W := W) (I := I) hk, vq_ddE (c := c) (q := q) (W := W) (I := I) hk]
    exact e2
theorem vq_tuC {c : Nat → Nat → Nat} {q W I k : Nat} {is : Int32} {f g f' g' : Nat → Int32} (h9 : ∀ i j, i < W → j < W → c i j ≤ 9) (hI : I < W) (hk : k < W) (h : vq_tI c q W (I * W + k) is f g) (e : ¬ is = 0) (e1 : ¬ g (c (vq_rA q W I k) (vq_rB q W I k)) < 0) (e2 : ¬ g (c (vq_rA q W I k) (vq_rB q W I k)) = nI (c I k)) : vq_tI c q W (I * W + (k + 1)) 0 f' g' := by
  refine vq_tsC (t := I * W + k) (vq_d9 h9 (vq_num hk hI) _ (Nat.le_refl _)) h e ?_ ?_
  · show ¬ g (c (vq_rA q W ((I * W + k) / W) ((I * W + k) % W)) (vq_rB q W ((I * W + k) / W) ((I * W + k) % W))) < 0
    rw [vq_ddE (c := c) (q := q) (W := W) (I := I) hk]
    exact e1
  · show ¬ g (c (vq_rA q W ((I * W + k) / W) ((I * W + k) % W)) (vq_rB q W ((I * W + k) / W) ((I * W + k) % W))) = nI (c ((I * W + k) / W) ((I * W + k) % W))
    rw [vq_ccE (c := c) (W := W) (I := I) hk, vq_ddE (c := c) (q := q) (W := W) (I := I) hk]
    exact e2
theorem vq_tuD {c : Nat → Nat → Nat} {q W I k : Nat} {is : Int32} {f g f' g' : Nat → Int32} (h9 : ∀ i j, i < W → j < W → c i j ≤ 9) (hI : I < W) (hk : k < W) (h : vq_tI c q W (I * W + k) is f g) (e : ¬ is = 0) (e1 : f (c I k) < 0 ∨ f (c I k) = nI (c (vq_rA q W I k) (vq_rB q W I k))) (e2 : g (c (vq_rA q W I k) (vq_rB q W I k)) < 0 ∨ g (c (vq_rA q W I k) (vq_rB q W I k)) = nI (c I k)) (hf : ∀ v, f' v = if v = c I k then nI (c (vq_rA q W I k) (vq_rB q W I k)) else f v) (hg : ∀ v, g' v = if v = c (vq_rA q W I k) (vq_rB q W I k) then nI (c I k) else g v) : vq_tI c q W (I * W + (k + 1)) 1 f' g' := by
  rw [← vq_ccE (c := c) (W := W) (I := I) hk, ← vq_ddE (c := c) (q := q) (W := W) (I := I) hk] at e1 e2 hf hg
  exact vq_tsD (t := I * W + k) (vq_c9 h9 (vq_num hk hI)) (vq_d9 h9 (vq_num hk hI)) h e e1 e2 hf hg
set_option maxHeartbeats 4000000 in
set_option maxRecDepth 100000 in
theorem vr_col {m : mz_M} {A B : Nat} (hA : A < 6) (hB : B < 6) {a b : Int32} (ea : a = nI A) (eb : b = nI B) : mz_Me 3 mz_r186 [.ref 65, .int a, .int b] m (some (.int (m 66 ((70 + (6 * B)) + A)))) m := by
  subst ea
  subst eb
  refine ⟨?_, rfl⟩
  refine mz_go 9 (c' := (13, [some (.ref 65), some (.int (nI A)), some (.int (nI B))], [.int ((70 + (6 * (nI B))) + (nI A)), .ref 66], m)) rfl ?_
  refine mz_arr (c' := (14, [some (.ref 65), some (.int (nI A)), some (.int (nI B))], [.int (m 66 (((70 + (6 * (nI B))) + (nI A)).toNatClampNeg))], m)) rfl (show mz_in ((70 + (6 * (nI B))) + (nI A)) 650 = true from sm_inN (sm_addN (sm_addN rfl (sm_mulN rfl rfl)) rfl) (show ((70 + (6 * B)) + A) < 650 by omega) (by decide)) ?_
  rw [show ((70 + (6 * (nI B))) + (nI A) : Int32).toNatClampNeg = ((70 + (6 * B)) + A) from sm_clN (sm_addN (sm_addN rfl (sm_mulN rfl rfl)) rfl) (show ((70 + (6 * B)) + A) < 2 ^ 31 by omega)]
  exact mz_ret rfl
theorem vr_colw {w m : mz_M} (hbc : ∀ i, i < 36 → m 66 (70 + i) = w 21 i) {A B : Nat} (hA : A < 6) (hB : B < 6) {a b : Int32} (ea : a = nI A) (eb : b = nI B) : mz_Me 3 mz_r186 [.ref 65, .int a, .int b] m (some (.int (w 21 ((B * 6) + A)))) m := by
  rw [← hbc ((B * 6) + A) (by omega), show 70 + ((B * 6) + A) = (70 + (6 * B)) + A by omega]
  exact vr_col hA hB ea eb
set_option maxHeartbeats 4000000 in
set_option maxRecDepth 100000 in
theorem vc_tuc0 {w : mz_M} {WW : Nat} (hWW : WW ≤ 6) (h1W : 1 ≤ WW) (h202 : w 20 2 = nI WW) (h203 : w 20 3 = nI WW) {c : Nat → Nat → Nat} (hcn : ∀ i j, i < WW → j < WW → w 21 ((j * 6) + i) = nI (c i j)) (h9 : ∀ i j, i < WW → j < WW → c i j ≤ 9) {K I J : Nat} (hK : K < 2 ^ 31) (hI : I < WW) (hJ : J < WW) (eI : K % WW = I) (eJ : K / WW = J) : mz_Me 10 mz_r19 [.ref 20, .int (nI K), .int 0] w (some (.int (nI (c (vq_rA 0 WW I J) (vq_rB 0 WW I J))))) w := by
  have hdv : nI K / nI WW = nI J := by rw [sm_divN (by omega) (by omega), eJ]
  have hmd : nI K - nI K / nI WW * nI WW = nI I := by rw [sm_modN (by omega) (by omega), eI]
  rw [show nI (c (vq_rA 0 WW I J) (vq_rB 0 WW I J)) = w 21 ((J * 6) + I) from (hcn _ _ (vq_rlt hI hJ).1 (vq_rlt hI hJ).2).symm]
  refine ⟨?_, rfl⟩
  refine mz_go 2 (c' := (4, [some (.ref 20), some (.int (nI K)), some (.int 0), none, none, none, none], [.int (w 20 2)], w)) rfl ?_
  rw [h202]
  refine mz_go 1 (c' := (if (nI WW) ≤ 0 then 16 else 7, [some (.ref 20), some (.int (nI K)), some (.int 0), none, none, none, none], [], w)) rfl ?_
  refine mz_ifF (show ¬ ((nI WW) ≤ 0) from (sm_nleN rfl rfl (show 0 < WW by omega) (show WW < 2 ^ 31 by omega))) ?_
  refine mz_go 3 (c' := (12, [some (.ref 20), some (.int (nI K)), some (.int 0), none, none, none, none], [.int (w 20 2), .int (nI K)], w)) rfl ?_
  rw [h202]
  refine mz_div (c' := (13, [some (.ref 20), some (.int (nI K)), some (.int 0), none, none, none, none], [.int ((nI K) - (nI K) / (nI WW) * (nI WW))], w)) rfl (sm_nz (k := WW) (by omega)) ?_
  rw [hmd]
  refine mz_go 4 (c' := (22, [some (.ref 20), some (.int (nI K)), some (.int 0), some (.int (nI I)), none, none, none], [.int (w 20 2)], w)) rfl ?_
  rw [h202]
  refine mz_go 1 (c' := (if (nI WW) ≤ 0 then 34 else 25, [some (.ref 20), some (.int (nI K)), some (.int 0), some (.int (nI I)), none, none, none], [], w)) rfl ?_
  refine mz_ifF (show ¬ ((nI WW) ≤ 0) from (sm_nleN rfl rfl (show 0 < WW by omega) (show WW < 2 ^ 31 by omega))) ?_
  refine mz_go 3 (c' := (30, [some (.ref 20), some (.int (nI K)), some (.int 0), some (.int (nI I)), none, none, none], [.int (w 20 2), .int (nI K)], w)) rfl ?_
  rw [h202]
  refine mz_div (c' := (31, [some (.ref 20), some (.int (nI K)), some (.int 0), some (.int (nI I)), none, none, none], [.int ((nI K) / (nI WW))], w)) rfl (sm_nz (k := WW) (by omega)) ?_
  rw [hdv]
  refine mz_go 10 (c' := (73, [some (.ref 20), some (.int (nI K)), some (.int 0), some (.int (nI I)), some (.int (nI J)), some (.int 0), none], [.int (nI J), .int (nI I), .ref 20], w)) rfl ?_
  refine mz_doQ (R := mz_r7) (as := [.ref 20, .int (nI I), .int (nI J)]) (rest := []) (r1 := some (.int (w 21 ((J * 6) + I)))) (m1 := w) mz_t7 mz_v7_20 rfl rfl rfl rfl rfl ⟨?_, rfl⟩ ?_
  · refine mz_go 3 (c' := (3, [some (.ref 20), some (.int (nI I)), some (.int (nI J))], [.int (nI J), .int (nI I), .ref 20], w)) rfl ?_
    refine mz_doQ (R := mz_r4) (as := [.ref 20, .int (nI I), .int (nI J)]) (rest := []) (r1 := some (.int 1)) (m1 := w) mz_t4 mz_v4_20 rfl rfl rfl rfl rfl ⟨?_, rfl⟩ ?_
    · refine mz_go 2 (c' := (if (nI I) < 0 then 40 else 4, [some (.ref 20), some (.int (nI I)), some (.int (nI J))], [], w)) rfl ?_
      refine mz_ifF (show ¬ ((nI I) < 0) from (sm_nltN rfl rfl (show 0 ≤ I by omega) (show I < 2 ^ 31 by omega))) ?_
      refine mz_go 3 (c' := (9, [some (.ref 20), some (.int (nI I)), some (.int (nI J))], [.int (w 20 2), .int (nI I)], w)) rfl ?_
      rw [h202]
      refine mz_go 1 (c' := (if (nI WW) ≤ (nI I) then 40 else 12, [some (.ref 20), some (.int (nI I)), some (.int (nI J))], [], w)) rfl ?_
      refine mz_ifF (show ¬ ((nI WW) ≤ (nI I)) from (sm_nleN rfl rfl (show I < WW by omega) (show WW < 2 ^ 31 by omega))) ?_
      refine mz_go 3 (c' := (if 6 ≤ (nI I) then 40 else 18, [some (.ref 20), some (.int (nI I)), some (.int (nI J))], [], w)) rfl ?_
      refine mz_ifF (show ¬ (6 ≤ (nI I)) from (sm_nleN rfl rfl (show I < 6 by omega) (show 6 < 2 ^ 31 by omega))) ?_
      refine mz_go 2 (c' := (if (nI J) < 0 then 40 else 22, [some (.ref 20), some (.int (nI I)), some (.int (nI J))], [], w)) rfl ?_
      refine mz_ifF (show ¬ ((nI J) < 0) from (sm_nltN rfl rfl (show 0 ≤ J by omega) (show J < 2 ^ 31 by omega))) ?_
      refine mz_go 3 (c' := (27, [some (.ref 20), some (.int (nI I)), some (.int (nI J))], [.int (w 20 3), .int (nI J)], w)) rfl ?_
      rw [h203]
      refine mz_go 1 (c' := (if (nI WW) ≤ (nI J) then 40 else 30, [some (.ref 20), some (.int (nI I)), some (.int (nI J))], [], w)) rfl ?_
      refine mz_ifF (show ¬ ((nI WW) ≤ (nI J)) from (sm_nleN rfl rfl (show J < WW by omega) (show WW < 2 ^ 31 by omega))) ?_
      refine mz_go 3 (c' := (if 6 ≤ (nI J) then 40 else 36, [some (.ref 20), some (.int (nI I)), some (.int (nI J))], [], w)) rfl ?_
      refine mz_ifF (show ¬ (6 ≤ (nI J)) from (sm_nleN rfl rfl (show J < 6 by omega) (show 6 < 2 ^ 31 by omega))) ?_
      refine mz_go 2 (c' := (41, [some (.ref 20), some (.int (nI I)), some (.int (nI J))], [.int 1], w)) rfl ?_
      exact mz_ret rfl
    refine mz_go 8 (c' := (19, [some (.ref 20), some (.int (nI I)), some (.int (nI J))], [.int (((nI J) * 6) + (nI I)), .ref 21], w)) rfl ?_
    refine mz_arr (c' := (20, [some (.ref 20), some (.int (nI I)), some (.int (nI J))], [.int (w 21 ((((nI J) * 6) + (nI I)).toNatClampNeg))], w)) rfl (show mz_in (((nI J) * 6) + (nI I)) 36 = true from sm_inN (sm_addN (sm_mulN rfl rfl) rfl) (show ((J * 6) + I) < 36 by omega) (by decide)) ?_
    rw [show (((nI J) * 6) + (nI I) : Int32).toNatClampNeg = ((J * 6) + I) from sm_clN (sm_addN (sm_mulN rfl rfl) rfl) (show ((J * 6) + I) < 2 ^ 31 by omega)]
    refine mz_go 1 (c' := (25, [some (.ref 20), some (.int (nI I)), some (.int (nI J))], [.int (w 21 ((J * 6) + I))], w)) rfl ?_
    exact mz_ret rfl
  exact mz_ret rfl
set_option maxHeartbeats 4000000 in
set_option maxRecDepth 100000 in
theorem vc_tuc1 {w : mz_M} {WW : Nat} (hWW : WW ≤ 6) (h1W : 1 ≤ WW) (h202 : w 20 2 = nI WW) (h203 : w 20 3 = nI WW) {c : Nat → Nat → Nat} (hcn : ∀ i j, i < WW → j < WW → w 21 ((j * 6) + i) = nI (c i j)) (h9 : ∀ i j, i < WW → j < WW → c i j ≤ 9) {K I J : Nat} (hK : K < 2 ^ 31) (hI : I < WW) (hJ : J < WW) (eI : K % WW = I) (eJ : K / WW = J) : mz_Me 10 mz_r19 [.ref 20, .int (nI K), .int 1] w (some (.int (nI (c (vq_rA 1 WW I J) (vq_rB 1 WW I J))))) w := by
  have hdv : nI K / nI WW = nI J := by rw [sm_divN (by omega) (by omega), eJ]
  have hmd : nI K - nI K / nI WW * nI WW = nI I := by rw [sm_modN (by omega) (by omega), eI]
  rw [show nI (c (vq_rA 1 WW I J) (vq_rB 1 WW I J)) = w 21 ((I * 6) + ((WW - 1) - J)) from (hcn _ _ (vq_rlt hI hJ).1 (vq_rlt hI hJ).2).symm]
  refine ⟨?_, rfl⟩
  refine mz_go 2 (c' := (4, [some (.ref 20), some (.int (nI K)), some (.int 1), none, none, none, none], [.int (w 20 2)], w)) rfl ?_
  rw [h202]
  refine mz_go 1 (c' := (if (nI WW) ≤ 0 then 16 else 7, [some (.ref 20), some (.int (nI K)), some (.int 1), none, none, none, none], [], w)) rfl ?_
  refine mz_ifF (show ¬ ((nI WW) ≤ 0) from (sm_nleN rfl rfl (show 0 < WW by omega) (show WW < 2 ^ 31 by omega))) ?_
  refine mz_go 3 (c' := (12, [some (.ref 20), some (.int (nI K)), some (.int 1), none, none, none, none], [.int (w 20 2), .int (nI K)], w)) rfl ?_
  rw [h202]
  refine mz_div (c' := (13, [some (.ref 20), some (.int (nI K)), some (.int 1), none, none, none, none], [.int ((nI K) - (nI K) / (nI WW) * (nI WW))], w)) rfl (sm_nz (k := WW) (by omega)) ?_
  rw [hmd]
  refine mz_go 4 (c' := (22, [some (.ref 20), some (.int (nI K)), some (.int 1), some (.int (nI I)), none, none, none], [.int (w 20 2)], w)) rfl ?_
  rw [h202]
  refine mz_go 1 (c' := (if (nI WW) ≤ 0 then 34 else 25, [some (.ref 20), some (.int (nI K)), some (.int 1), some (.int (nI I)), none, none, none], [], w)) rfl ?_
  refine mz_ifF (show ¬ ((nI WW) ≤ 0) from (sm_nleN rfl rfl (show 0 < WW by omega) (show WW < 2 ^ 31 by omega))) ?_
  refine mz_go 3 (c' := (30, [some (.ref 20), some (.int (nI K)), some (.int 1), some (.int (nI I)), none, none, none], [.int (w 20 2), .int (nI K)], w)) rfl ?_
  rw [h202]
  refine mz_div (c' := (31, [some (.ref 20), some (.int (nI K)), some (.int 1), some (.int (nI I)), none, none, none], [.int ((nI K) / (nI WW))], w)) rfl (sm_nz (k := WW) (by omega)) ?_
  rw [hdv]
  refine mz_go 11 (c' := (53, [some (.ref 20), some (.int (nI K)), some (.int 1), some (.int (nI I)), some (.int (nI J)), some (.int 0), some (.int (nI I))], [.int (w 20 2)], w)) rfl ?_
  rw [h202]
  refine mz_go 15 (c' := (73, [some (.ref 20), some (.int (nI K)), some (.int 1), some (.int (((nI WW) - 1) - (nI J))), some (.int (nI I)), some (.int 1), some (.int (nI I))], [.int (nI I), .int (((nI WW) - 1) - (nI J)), .ref 20], w)) rfl ?_
  refine mz_doQ (R := mz_r7) (as := [.ref 20, .int (((nI WW) - 1) - (nI J)), .int (nI I)]) (rest := []) (r1 := some (.int (w 21 ((I * 6) + ((WW - 1) - J))))) (m1 := w) mz_t7 mz_v7_20 rfl rfl rfl rfl rfl ⟨?_, rfl⟩ ?_
  · refine mz_go 3 (c' := (3, [some (.ref 20), some (.int (((nI WW) - 1) - (nI J))), some (.int (nI I))], [.int (nI I), .int (((nI WW) - 1) - (nI J)), .ref 20], w)) rfl ?_
    refine mz_doQ (R := mz_r4) (as := [.ref 20, .int (((nI WW) - 1) - (nI J)), .int (nI I)]) (rest := []) (r1 := some (.int 1)) (m1 := w) mz_t4 mz_v4_20 rfl rfl rfl rfl rfl ⟨?_, rfl⟩ ?_
    · refine mz_go 2 (c' := (if (((nI WW) - 1) - (nI J)) < 0 then 40 else 4, [some (.ref 20), some (.int (((nI WW) - 1) - (nI J))), some (.int (nI I))], [], w)) rfl ?_
      refine mz_ifF (show ¬ ((((nI WW) - 1) - (nI J)) < 0) from (sm_nltN (sm_subN (a := (WW - 1)) (b := J) (sm_subN (a := WW) (b := 1) rfl rfl (by omega)) rfl (by omega)) rfl (show 0 ≤ ((WW - 1) - J) by omega) (show ((WW - 1) - J) < 2 ^ 31 by omega))) ?_
      refine mz_go 3 (c' := (9, [some (.ref 20), some (.int (((nI WW) - 1) - (nI J))), some (.int (nI I))], [.int (w 20 2), .int (((nI WW) - 1) - (nI J))], w)) rfl ?_
      rw [h202]
      refine mz_go 1 (c' := (if (nI WW) ≤ (((nI WW) - 1) - (nI J)) then 40 else 12, [some (.ref 20), some (.int (((nI WW) - 1) - (nI J))), some (.int (nI I))], [], w)) rfl ?_
      refine mz_ifF (show ¬ ((nI WW) ≤ (((nI WW) - 1) - (nI J))) from (sm_nleN rfl (sm_subN (a := (WW - 1)) (b := J) (sm_subN (a := WW) (b := 1) rfl rfl (by omega)) rfl (by omega)) (show ((WW - 1) - J) < WW by omega) (show WW < 2 ^ 31 by omega))) ?_
      refine mz_go 3 (c' := (if 6 ≤ (((nI WW) - 1) - (nI J)) then 40 else 18, [some (.ref 20), some (.int (((nI WW) - 1) - (nI J))), some (.int (nI I))], [], w)) rfl ?_
      refine mz_ifF (show ¬ (6 ≤ (((nI WW) - 1) - (nI J))) from (sm_nleN rfl (sm_subN (a := (WW - 1)) (b := J) (sm_subN (a := WW) (b := 1) rfl rfl (by omega)) rfl (by omega)) (show ((WW - 1) - J) < 6 by omega) (show 6 < 2 ^ 31 by omega))) ?_
      refine mz_go 2 (c' := (if (nI I) < 0 then 40 else 22, [some (.ref 20), some (.int (((nI WW) - 1) - (nI J))), some (.int (nI I))], [], w)) rfl ?_
      refine mz_ifF (show ¬ ((nI I) < 0) from (sm_nltN rfl rfl (show 0 ≤ I by omega) (show I < 2 ^ 31 by omega))) ?_
      refine mz_go 3 (c' := (27, [some (.ref 20), some (.int (((nI WW) - 1) - (nI J))), some (.int (nI I))], [.int (w 20 3), .int (nI I)], w)) rfl ?_
      rw [h203]
      refine mz_go 1 (c' := (if (nI WW) ≤ (nI I) then 40 else 30, [some (.ref 20), some (.int (((nI WW) - 1) - (nI J))), some (.int (nI I))], [], w)) rfl ?_
      refine mz_ifF (show ¬ ((nI WW) ≤ (nI I)) from (sm_nleN rfl rfl (show I < WW by omega) (show WW < 2 ^ 31 by omega))) ?_
      refine mz_go 3 (c' := (if 6 ≤ (nI I) then 40 else 36, [some (.ref 20), some (.int (((nI WW) - 1) - (nI J))), some (.int (nI I))], [], w)) rfl ?_
      refine mz_ifF (show ¬ (6 ≤ (nI I)) from (sm_nleN rfl rfl (show I < 6 by omega) (show 6 < 2 ^ 31 by omega))) ?_
      refine mz_go 2 (c' := (41, [some (.ref 20), some (.int (((nI WW) - 1) - (nI J))), some (.int (nI I))], [.int 1], w)) rfl ?_
      exact mz_ret rfl
    refine mz_go 8 (c' := (19, [some (.ref 20), some (.int (((nI WW) - 1) - (nI J))), some (.int (nI I))], [.int (((nI I) * 6) + (((nI WW) - 1) - (nI J))), .ref 21], w)) rfl ?_
    refine mz_arr (c' := (20, [some (.ref 20), some (.int (((nI WW) - 1) - (nI J))), some (.int (nI I))], [.int (w 21 ((((nI I) * 6) + (((nI WW) - 1) - (nI J))).toNatClampNeg))], w)) rfl (show mz_in (((nI I) * 6) + (((nI WW) - 1) - (nI J))) 36 = true from sm_inN (sm_addN (sm_mulN rfl rfl) (sm_subN (a := (WW - 1)) (b := J) (sm_subN (a := WW) (b := 1) rfl rfl (by omega)) rfl (by omega))) (show ((I * 6) + ((WW - 1) - J)) < 36 by omega) (by decide)) ?_
    rw [show (((nI I) * 6) + (((nI WW) - 1) - (nI J)) : Int32).toNatClampNeg = ((I * 6) + ((WW - 1) - J)) from sm_clN (sm_addN (sm_mulN rfl rfl) (sm_subN (a := (WW - 1)) (b := J) (sm_subN (a := WW) (b := 1) rfl rfl (by omega)) rfl (by omega))) (show ((I * 6) + ((WW - 1) - J)) < 2 ^ 31 by omega)]
    refine mz_go 1 (c' := (25, [some (.ref 20), some (.int (((nI WW) - 1) - (nI J))), some (.int (nI I))], [.int (w 21 ((I * 6) + ((WW - 1) - J)))], w)) rfl ?_
    exact mz_ret rfl
  exact mz_ret rfl
set_option maxHeartbeats 4000000 in
set_option maxRecDepth 100000 in
theorem vc_tuc2 {w : mz_M} {WW : Nat} (hWW : WW ≤ 6) (h1W : 1 ≤ WW) (h202 : w 20 2 = nI WW) (h203 : w 20 3 = nI WW) {c : Nat → Nat → Nat} (hcn : ∀ i j, i < WW → j < WW → w 21 ((j * 6) + i) = nI (c i j)) (h9 : ∀ i j, i < WW → j < WW → c i j ≤ 9) {K I J : Nat} (hK : K < 2 ^ 31) (hI : I < WW) (hJ : J < WW) (eI : K % WW = I) (eJ : K / WW = J) : mz_Me 10 mz_r19 [.ref 20, .int (nI K), .int 2] w (some (.int (nI (c (vq_rA 2 WW I J) (vq_rB 2 WW I J))))) w := by
  have hdv : nI K / nI WW = nI J := by rw [sm_divN (by omega) (by omega), eJ]
  have hmd : nI K - nI K / nI WW * nI WW = nI I := by rw [sm_modN (by omega) (by omega), eI]
  rw [show nI (c (vq_rA 2 WW I J) (vq_rB 2 WW I J)) = w 21 ((((WW - 1) - J) * 6) + ((WW - 1) - I)) from (hcn _ _ (vq_rlt hI hJ).1 (vq_rlt hI hJ).2).symm]
  refine ⟨?_, rfl⟩
  refine mz_go 2 (c' := (4, [some (.ref 20), some (.int (nI K)), some (.int 2), none, none, none, none], [.int (w 20 2)], w)) rfl ?_
  rw [h202]
  refine mz_go 1 (c' := (if (nI WW) ≤ 0 then 16 else 7, [some (.ref 20), some (.int (nI K)), some (.int 2), none, none, none, none], [], w)) rfl ?_
  refine mz_ifF (show ¬ ((nI WW) ≤ 0) from (sm_nleN rfl rfl (show 0 < WW by omega) (show WW < 2 ^ 31 by omega))) ?_
  refine mz_go 3 (c' := (12, [some (.ref 20), some (.int (nI K)), some (.int 2), none, none, none, none], [.int (w 20 2), .int (nI K)], w)) rfl ?_
  rw [h202]
  refine mz_div (c' := (13, [some (.ref 20), some (.int (nI K)), some (.int 2), none, none, none, none], [.int ((nI K) - (nI K) / (nI WW) * (nI WW))], w)) rfl (sm_nz (k := WW) (by omega)) ?_
  rw [hmd]
  refine mz_go 4 (c' := (22, [some (.ref 20), some (.int (nI K)), some (.int 2), some (.int (nI I)), none, none, none], [.int (w 20 2)], w)) rfl ?_
  rw [h202]
  refine mz_go 1 (c' := (if (nI WW) ≤ 0 then 34 else 25, [some (.ref 20), some (.int (nI K)), some (.int 2), some (.int (nI I)), none, none, none], [], w)) rfl ?_
  refine mz_ifF (show ¬ ((nI WW) ≤ 0) from (sm_nleN rfl rfl (show 0 < WW by omega) (show WW < 2 ^ 31 by omega))) ?_
  refine mz_go 3 (c' := (30, [some (.ref 20), some (.int (nI K)), some (.int 2), some (.int (nI I)), none, none, none], [.int (w 20 2), .int (nI K)], w)) rfl ?_
  rw [h202]
  refine mz_div (c' := (31, [some (.ref 20), some (.int (nI K)), some (.int 2), some (.int (nI I)), none, none, none], [.int ((nI K) / (nI WW))], w)) rfl (sm_nz (k := WW) (by omega)) ?_
  rw [hdv]
  refine mz_go 11 (c' := (53, [some (.ref 20), some (.int (nI K)), some (.int 2), some (.int (nI I)), some (.int (nI J)), some (.int 0), some (.int (nI I))], [.int (w 20 2)], w)) rfl ?_
  rw [h202]
  refine mz_go 16 (c' := (53, [some (.ref 20), some (.int (nI K)), some (.int 2), some (.int (((nI WW) - 1) - (nI J))), some (.int (nI I)), some (.int 1), some (.int (((nI WW) - 1) - (nI J)))], [.int (w 20 2)], w)) rfl ?_
  rw [h202]
  refine mz_go 15 (c' := (73, [some (.ref 20), some (.int (nI K)), some (.int 2), some (.int (((nI WW) - 1) - (nI I))), some (.int (((nI WW) - 1) - (nI J))), some (.int 2), some (.int (((nI WW) - 1) - (nI J)))], [.int (((nI WW) - 1) - (nI J)), .int (((nI WW) - 1) - (nI I)), .ref 20], w)) rfl ?_
  refine mz_doQ (R := mz_r7) (as := [.ref 20, .int (((nI WW) - 1) - (nI I)), .int (((nI WW) - 1) - (nI J))]) (rest := []) (r1 := some (.int (w 21 ((((WW - 1) - J) * 6) + ((WW - 1) - I))))) (m1 := w) mz_t7 mz_v7_20 rfl rfl rfl rfl rfl ⟨?_, rfl⟩ ?_
  · refine mz_go 3 (c' := (3, [some (.ref 20), some (.int (((nI WW) - 1) - (nI I))), some (.int (((nI WW) - 1) - (nI J)))], [.int (((nI WW) - 1) - (nI J)), .int (((nI WW) - 1) - (nI I)), .ref 20], w)) rfl ?_
    refine mz_doQ (R := mz_r4) (as := [.ref 20, .int (((nI WW) - 1) - (nI I)), .int (((nI WW) - 1) - (nI J))]) (rest := []) (r1 := some (.int 1)) (m1 := w) mz_t4 mz_v4_20 rfl rfl rfl rfl rfl ⟨?_, rfl⟩ ?_
    · refine mz_go 2 (c' := (if (((nI WW) - 1) - (nI I)) < 0 then 40 else 4, [some (.ref 20), some (.int (((nI WW) - 1) - (nI I))), some (.int (((nI WW) - 1) - (nI J)))], [], w)) rfl ?_
      refine mz_ifF (show ¬ ((((nI WW) - 1) - (nI I)) < 0) from (sm_nltN (sm_subN (a := (WW - 1)) (b := I) (sm_subN (a := WW) (b := 1) rfl rfl (by omega)) rfl (by omega)) rfl (show 0 ≤ ((WW - 1) - I) by omega) (show ((WW - 1) - I) < 2 ^ 31 by omega))) ?_
      refine mz_go 3 (c' := (9, [some (.ref 20), some (.int (((nI WW) - 1) - (nI I))), some (.int (((nI WW) - 1) - (nI J)))], [.int (w 20 2), .int (((nI WW) - 1) - (nI I))], w)) rfl ?_
      rw [h202]
      refine mz_go 1 (c' := (if (nI WW) ≤ (((nI WW) - 1) - (nI I)) then 40 else 12, [some (.ref 20), some (.int (((nI WW) - 1) - (nI I))), some (.int (((nI WW) - 1) - (nI J)))], [], w)) rfl ?_
      refine mz_ifF (show ¬ ((nI WW) ≤ (((nI WW) - 1) - (nI I))) from (sm_nleN rfl (sm_subN (a := (WW - 1)) (b := I) (sm_subN (a := WW) (b := 1) rfl rfl (by omega)) rfl (by omega)) (show ((WW - 1) - I) < WW by omega) (show WW < 2 ^ 31 by omega))) ?_
      refine mz_go 3 (c' := (if 6 ≤ (((nI WW) - 1) - (nI I)) then 40 else 18, [some (.ref 20), some (.int (((nI WW) - 1) - (nI I))), some (.int (((nI WW) - 1) - (nI J)))], [], w)) rfl ?_
      refine mz_ifF (show ¬ (6 ≤ (((nI WW) - 1) - (nI I))) from (sm_nleN rfl (sm_subN (a := (WW - 1)) (b := I) (sm_subN (a := WW) (b := 1) rfl rfl (by omega)) rfl (by omega)) (show ((WW - 1) - I) < 6 by omega) (show 6 < 2 ^ 31 by omega))) ?_
      refine mz_go 2 (c' := (if (((nI WW) - 1) - (nI J)) < 0 then 40 else 22, [some (.ref 20), some (.int (((nI WW) - 1) - (nI I))), some (.int (((nI WW) - 1) - (nI J)))], [], w)) rfl ?_
      refine mz_ifF (show ¬ ((((nI WW) - 1) - (nI J)) < 0) from (sm_nltN (sm_subN (a := (WW - 1)) (b := J) (sm_subN (a := WW) (b := 1) rfl rfl (by omega)) rfl (by omega)) rfl (show 0 ≤ ((WW - 1) - J) by omega) (show ((WW - 1) - J) < 2 ^ 31 by omega))) ?_
      refine mz_go 3 (c' := (27, [some (.ref 20), some (.int (((nI WW) - 1) - (nI I))), some (.int (((nI WW) - 1) - (nI J)))], [.int (w 20 3), .int (((nI WW) - 1) - (nI J))], w)) rfl ?_
      rw [h203]
      refine mz_go 1 (c' := (if (nI WW) ≤ (((nI WW) - 1) - (nI J)) then 40 else 30, [some (.ref 20), some (.int (((nI WW) - 1) - (nI I))), some (.int (((nI WW) - 1) - (nI J)))], [], w)) rfl ?_
      refine mz_ifF (show ¬ ((nI WW) ≤ (((nI WW) - 1) - (nI J))) from (sm_nleN rfl (sm_subN (a := (WW - 1)) (b := J) (sm_subN (a := WW) (b := 1) rfl rfl (by omega)) rfl (by omega)) (show ((WW - 1) - J) < WW by omega) (show WW < 2 ^ 31 by omega))) ?_
      refine mz_go 3 (c' := (if 6 ≤ (((nI WW) - 1) - (nI J)) then 40 else 36, [some (.ref 20), some (.int (((nI WW) - 1) - (nI I))), some (.int (((nI WW) - 1) - (nI J)))], [], w)) rfl ?_
      refine mz_ifF (show ¬ (6 ≤ (((nI WW) - 1) - (nI J))) from (sm_nleN rfl (sm_subN (a := (WW - 1)) (b := J) (sm_subN (a := WW) (b := 1) rfl rfl (by omega)) rfl (by omega)) (show ((WW - 1) - J) < 6 by omega) (show 6 < 2 ^ 31 by omega))) ?_
      refine mz_go 2 (c' := (41, [some (.ref 20), some (.int (((nI WW) - 1) - (nI I))), some (.int (((nI WW) - 1) - (nI J)))], [.int 1], w)) rfl ?_
      exact mz_ret rfl
    refine mz_go 8 (c' := (19, [some (.ref 20), some (.int (((nI WW) - 1) - (nI I))), some (.int (((nI WW) - 1) - (nI J)))], [.int (((((nI WW) - 1) - (nI J)) * 6) + (((nI WW) - 1) - (nI I))), .ref 21], w)) rfl ?_
    refine mz_arr (c' := (20, [some (.ref 20), some (.int (((nI WW) - 1) - (nI I))), some (.int (((nI WW) - 1) - (nI J)))], [.int (w 21 ((((((nI WW) - 1) - (nI J)) * 6) + (((nI WW) - 1) - (nI I))).toNatClampNeg))], w)) rfl (show mz_in (((((nI WW) - 1) - (nI J)) * 6) + (((nI WW) - 1) - (nI I))) 36 = true from sm_inN (sm_addN (sm_mulN (sm_subN (a := (WW - 1)) (b := J) (sm_subN (a := WW) (b := 1) rfl rfl (by omega)) rfl (by omega)) rfl) (sm_subN (a := (WW - 1)) (b := I) (sm_subN (a := WW) (b := 1) rfl rfl (by omega)) rfl (by omega))) (show ((((WW - 1) - J) * 6) + ((WW - 1) - I)) < 36 by omega) (by decide)) ?_
    rw [show (((((nI WW) - 1) - (nI J)) * 6) + (((nI WW) - 1) - (nI I)) : Int32).toNatClampNeg = ((((WW - 1) - J) * 6) + ((WW - 1) - I)) from sm_clN (sm_addN (sm_mulN (sm_subN (a := (WW - 1)) (b := J) (sm_subN (a := WW) (b := 1) rfl rfl (by omega)) rfl (by omega)) rfl) (sm_subN (a := (WW - 1)) (b := I) (sm_subN (a := WW) (b := 1) rfl rfl (by omega)) rfl (by omega))) (show ((((WW - 1) - J) * 6) + ((WW - 1) - I)) < 2 ^ 31 by omega)]
    refine mz_go 1 (c' := (25, [some (.ref 20), some (.int (((nI WW) - 1) - (nI I))), some (.int (((nI WW) - 1) - (nI J)))], [.int (w 21 ((((WW - 1) - J) * 6) + ((WW - 1) - I)))], w)) rfl ?_
    exact mz_ret rfl
  exact mz_ret rfl
set_option maxHeartbeats 4000000 in
set_option maxRecDepth 100000 in
theorem vc_tuc3 {w : mz_M} {WW : Nat} (hWW : WW ≤ 6) (h1W : 1 ≤ WW) (h202 : w 20 2 = nI WW) (h203 : w 20 3 = nI WW) {c : Nat → Nat → Nat} (hcn : ∀ i j, i < WW → j < WW → w 21 ((j * 6) + i) = nI (c i j)) (h9 : ∀ i j, i < WW → j < WW → c i j ≤ 9) {K I J : Nat} (hK : K < 2 ^ 31) (hI : I < WW) (hJ : J < WW) (eI : K % WW = I) (eJ : K / WW = J) : mz_Me 10 mz_r19 [.ref 20, .int (nI K), .int 3] w (some (.int (nI (c (vq_rA 3 WW I J) (vq_rB 3 WW I J))))) w := by
  have hdv : nI K / nI WW = nI J := by rw [sm_divN (by omega) (by omega), eJ]
  have hmd : nI K - nI K / nI WW * nI WW = nI I := by rw [sm_modN (by omega) (by omega), eI]
  rw [show nI (c (vq_rA 3 WW I J) (vq_rB 3 WW I J)) = w 21 ((((WW - 1) - I) * 6) + ((WW - 1) - ((WW - 1) - J))) from (hcn _ _ (vq_rlt hI hJ).1 (vq_rlt hI hJ).2).symm]
  refine ⟨?_, rfl⟩
  refine mz_go 2 (c' := (4, [some (.ref 20), some (.int (nI K)), some (.int 3), none, none, none, none], [.int (w 20 2)], w)) rfl ?_
  rw [h202]
  refine mz_go 1 (c' := (if (nI WW) ≤ 0 then 16 else 7, [some (.ref 20), some (.int (nI K)), some (.int 3), none, none, none, none], [], w)) rfl ?_
  refine mz_ifF (show ¬ ((nI WW) ≤ 0) from (sm_nleN rfl rfl (show 0 < WW by omega) (show WW < 2 ^ 31 by omega))) ?_
  refine mz_go 3 (c' := (12, [some (.ref 20), some (.int (nI K)), some (.int 3), none, none, none, none], [.int (w 20 2), .int (nI K)], w)) rfl ?_
  rw [h202]
  refine mz_div (c' := (13, [some (.ref 20), some (.int (nI K)), some (.int 3), none, none, none, none], [.int ((nI K) - (nI K) / (nI WW) * (nI WW))], w)) rfl (sm_nz (k := WW) (by omega)) ?_
  rw [hmd]
  refine mz_go 4 (c' := (22, [some (.ref 20), some (.int (nI K)), some (.int 3), some (.int (nI I)), none, none, none], [.int (w 20 2)], w)) rfl ?_
  rw [h202]
  refine mz_go 1 (c' := (if (nI WW) ≤ 0 then 34 else 25, [some (.ref 20), some (.int (nI K)), some (.int 3), some (.int (nI I)), none, none, none], [], w)) rfl ?_
  refine mz_ifF (show ¬ ((nI WW) ≤ 0) from (sm_nleN rfl rfl (show 0 < WW by omega) (show WW < 2 ^ 31 by omega))) ?_
  refine mz_go 3 (c' := (30, [some (.ref 20), some (.int (nI K)), some (.int 3), some (.int (nI I)), none, none, none], [.int (w 20 2), .int (nI K)], w)) rfl ?_
  rw [h202]
  refine mz_div (c' := (31, [some (.ref 20), some (.int (nI K)), some (.int 3), some (.int (nI I)), none, none, none], [.int ((nI K) / (nI WW))], w)) rfl (sm_nz (k := WW) (by omega)) ?_
  rw [hdv]
  refine mz_go 11 (c' := (53, [some (.ref 20), some (.int (nI K)), some (.int 3), some (.int (nI I)), some (.int (nI J)), some (.int 0), some (.int (nI I))], [.int (w 20 2)], w)) rfl ?_
  rw [h202]
  refine mz_go 16 (c' := (53, [some (.ref 20), some (.int (nI K)), some (.int 3), some (.int (((nI WW) - 1) - (nI J))), some (.int (nI I)), some (.int 1), some (.int (((nI WW) - 1) - (nI J)))], [.int (w 20 2)], w)) rfl ?_
  rw [h202]
  refine mz_go 16 (c' := (53, [some (.ref 20), some (.int (nI K)), some (.int 3), some (.int (((nI WW) - 1) - (nI I))), some (.int (((nI WW) - 1) - (nI J))), some (.int 2), some (.int (((nI WW) - 1) - (nI I)))], [.int (w 20 2)], w)) rfl ?_
  rw [h202]
  refine mz_go 15 (c' := (73, [some (.ref 20), some (.int (nI K)), some (.int 3), some (.int (((nI WW) - 1) - (((nI WW) - 1) - (nI J)))), some (.int (((nI WW) - 1) - (nI I))), some (.int 3), some (.int (((nI WW) - 1) - (nI I)))], [.int (((nI WW) - 1) - (nI I)), .int (((nI WW) - 1) - (((nI WW) - 1) - (nI J))), .ref 20], w)) rfl ?_
  refine mz_doQ (R := mz_r7) (as := [.ref 20, .int (((nI WW) - 1) - (((nI WW) - 1) - (nI J))), .int (((nI WW) - 1) - (nI I))]) (rest := []) (r1 := some (.int (w 21 ((((WW - 1) - I) * 6) + ((WW - 1) - ((WW - 1) - J)))))) (m1 := w) mz_t7 mz_v7_20 rfl rfl rfl rfl rfl ⟨?_, rfl⟩ ?_
  · refine mz_go 3 (c' := (3, [some (.ref 20), some (.int (((nI WW) - 1) - (((nI WW) - 1) - (nI J)))), some (.int (((nI WW) - 1) - (nI I)))], [.int (((nI WW) - 1) - (nI I)), .int (((nI WW) - 1) - (((nI WW) - 1) - (nI J))), .ref 20], w)) rfl ?_
    refine mz_doQ (R := mz_r4) (as := [.ref 20, .int (((nI WW) - 1) - (((nI WW) - 1) - (nI J))), .int (((nI WW) - 1) - (nI I))]) (rest := []) (r1 := some (.int 1)) (m1 := w) mz_t4 mz_v4_20 rfl rfl rfl rfl rfl ⟨?_, rfl⟩ ?_
    · refine mz_go 2 (c' := (if (((nI WW) - 1) - (((nI WW) - 1) - (nI J))) < 0 then 40 else 4, [some (.ref 20), some (.int (((nI WW) - 1) - (((nI WW) - 1) - (nI J)))), some (.int (((nI WW) - 1) - (nI I)))], [], w)) rfl ?_
      refine mz_ifF (show ¬ ((((nI WW) - 1) - (((nI WW) - 1) - (nI J))) < 0) from (sm_nltN (sm_subN (a := (WW - 1)) (b := ((WW - 1) - J)) (sm_subN (a := WW) (b := 1) rfl rfl (by omega)) (sm_subN (a := (WW - 1)) (b := J) (sm_subN (a := WW) (b := 1) rfl rfl (by omega)) rfl (by omega)) (by omega)) rfl (show 0 ≤ ((WW - 1) - ((WW - 1) - J)) by omega) (show ((WW - 1) - ((WW - 1) - J)) < 2 ^ 31 by omega))) ?_
      refine mz_go 3 (c' := (9, [some (.ref 20), some (.int (((nI WW) - 1) - (((nI WW) - 1) - (nI J)))), some (.int (((nI WW) - 1) - (nI I)))], [.int (w 20 2), .int (((nI WW) - 1) - (((nI WW) - 1) - (nI J)))], w)) rfl ?_
      rw [h202]
      refine mz_go 1 (c' := (if (nI WW) ≤ (((nI WW) - 1) - (((nI WW) - 1) - (nI J))) then 40 else 12, [some (.ref 20), some (.int (((nI WW) - 1) - (((nI WW) - 1) - (nI J)))), some (.int (((nI WW) - 1) - (nI I)))], [], w)) rfl ?_
      refine mz_ifF (show ¬ ((nI WW) ≤ (((nI WW) - 1) - (((nI WW) - 1) - (nI J)))) from (sm_nleN rfl (sm_subN (a := (WW - 1)) (b := ((WW - 1) - J)) (sm_subN (a := WW) (b := 1) rfl rfl (by omega)) (sm_subN (a := (WW - 1)) (b := J) (sm_subN (a := WW) (b := 1) rfl rfl (by omega)) rfl (by omega)) (by omega)) (show ((WW - 1) - ((WW - 1) - J)) < WW by omega) (show WW < 2 ^ 31 by omega))) ?_
      refine mz_go 3 (c' := (if 6 ≤ (((nI WW) - 1) - (((nI WW) - 1) - (nI J))) then 40 else 18, [some (.ref 20), some (.int (((nI WW) - 1) - (((nI WW) - 1) - (nI J)))), some (.int (((nI WW) - 1) - (nI I)))], [], w)) rfl ?_
      refine mz_ifF (show ¬ (6 ≤ (((nI WW) - 1) - (((nI WW) - 1) - (nI J)))) from (sm_nleN rfl (sm_subN (a := (WW - 1)) (b := ((WW - 1) - J)) (sm_subN (a := WW) (b := 1) rfl rfl (by omega)) (sm_subN (a := (WW - 1)) (b := J) (sm_subN (a := WW) (b := 1) rfl rfl (by omega)) rfl (by omega)) (by omega)) (show ((WW - 1) - ((WW - 1) - J)) < 6 by omega) (show 6 < 2 ^ 31 by omega))) ?_
      refine mz_go 2 (c' := (if (((nI WW) - 1) - (nI I)) < 0 then 40 else 22, [some (.ref 20), some (.int (((nI WW) - 1) - (((nI WW) - 1) - (nI J)))), some (.int (((nI WW) - 1) - (nI I)))], [], w)) rfl ?_
      refine mz_ifF (show ¬ ((((nI WW) - 1) - (nI I)) < 0) from (sm_nltN (sm_subN (a := (WW - 1)) (b := I) (sm_subN (a := WW) (b := 1) rfl rfl (by omega)) rfl (by omega)) rfl (show 0 ≤ ((WW - 1) - I) by omega) (show ((WW - 1) - I) < 2 ^ 31 by omega))) ?_
      refine mz_go 3 (c' := (27, [some (.ref 20), some (.int (((nI WW) - 1) - (((nI WW) - 1) - (nI J)))), some (.int (((nI WW) - 1) - (nI I)))], [.int (w 20 3), .int (((nI WW) - 1) - (nI I))], w)) rfl ?_
      rw [h203]
      refine mz_go 1 (c' := (if (nI WW) ≤ (((nI WW) - 1) - (nI I)) then 40 else 30, [some (.ref 20), some (.int (((nI WW) - 1) - (((nI WW) - 1) - (nI J)))), some (.int (((nI WW) - 1) - (nI I)))], [], w)) rfl ?_
      refine mz_ifF (show ¬ ((nI WW) ≤ (((nI WW) - 1) - (nI I))) from (sm_nleN rfl (sm_subN (a := (WW - 1)) (b := I) (sm_subN (a := WW) (b := 1) rfl rfl (by omega)) rfl (by omega)) (show ((WW - 1) - I) < WW by omega) (show WW < 2 ^ 31 by omega))) ?_
      refine mz_go 3 (c' := (if 6 ≤ (((nI WW) - 1) - (nI I)) then 40 else 36, [some (.ref 20), some (.int (((nI WW) - 1) - (((nI WW) - 1) - (nI J)))), some (.int (((nI WW) - 1) - (nI I)))], [], w)) rfl ?_
      refine mz_ifF (show ¬ (6 ≤ (((nI WW) - 1) - (nI I))) from (sm_nleN rfl (sm_subN (a := (WW - 1)) (b := I) (sm_subN (a := WW) (b := 1) rfl rfl (by omega)) rfl (by omega)) (show ((WW - 1) - I) < 6 by omega) (show 6 < 2 ^ 31 by omega))) ?_
      refine mz_go 2 (c' := (41, [some (.ref 20), some (.int (((nI WW) - 1) - (((nI WW) - 1) - (nI J)))), some (.int (((nI WW) - 1) - (nI I)))], [.int 1], w)) rfl ?_
      exact mz_ret rfl
    refine mz_go 8 (c' := (19, [some (.ref 20), some (.int (((nI WW) - 1) - (((nI WW) - 1) - (nI J)))), some (.int (((nI WW) - 1) - (nI I)))], [.int (((((nI WW) - 1) - (nI I)) * 6) + (((nI WW) - 1) - (((nI WW) - 1) - (nI J)))), .ref 21], w)) rfl ?_
    refine mz_arr (c' := (20, [some (.ref 20), some (.int (((nI WW) - 1) - (((nI WW) - 1) - (nI J)))), some (.int (((nI WW) - 1) - (nI I)))], [.int (w 21 ((((((nI WW) - 1) - (nI I)) * 6) + (((nI WW) - 1) - (((nI WW) - 1) - (nI J)))).toNatClampNeg))], w)) rfl (show mz_in (((((nI WW) - 1) - (nI I)) * 6) + (((nI WW) - 1) - (((nI WW) - 1) - (nI J)))) 36 = true from sm_inN (sm_addN (sm_mulN (sm_subN (a := (WW - 1)) (b := I) (sm_subN (a := WW) (b := 1) rfl rfl (by omega)) rfl (by omega)) rfl) (sm_subN (a := (WW - 1)) (b := ((WW - 1) - J)) (sm_subN (a := WW) (b := 1) rfl rfl (by omega)) (sm_subN (a := (WW - 1)) (b := J) (sm_subN (a := WW) (b := 1) rfl rfl (by omega)) rfl (by omega)) (by omega))) (show ((((WW - 1) - I) * 6) + ((WW - 1) - ((WW - 1) - J))) < 36 by omega) (by decide)) ?_
    rw [show (((((nI WW) - 1) - (nI I)) * 6) + (((nI WW) - 1) - (((nI WW) - 1) - (nI J))) : Int32).toNatClampNeg = ((((WW - 1) - I) * 6) + ((WW - 1) - ((WW - 1) - J))) from sm_clN (sm_addN (sm_mulN (sm_subN (a := (WW - 1)) (b := I) (sm_subN (a := WW) (b := 1) rfl rfl (by omega)) rfl (by omega)) rfl) (sm_subN (a := (WW - 1)) (b := ((WW - 1) - J)) (sm_subN (a := WW) (b := 1) rfl rfl (by omega)) (sm_subN (a := (WW - 1)) (b := J) (sm_subN (a := WW) (b := 1) rfl rfl (by omega)) rfl (by omega)) (by omega))) (show ((((WW - 1) - I) * 6) + ((WW - 1) - ((WW - 1) - J))) < 2 ^ 31 by omega)]
    refine mz_go 1 (c' := (25, [some (.ref 20), some (.int (((nI WW) - 1) - (((nI WW) - 1) - (nI J)))), some (.int (((nI WW) - 1) - (nI I)))], [.int (w 21 ((((WW - 1) - I) * 6) + ((WW - 1) - ((WW - 1) - J))))], w)) rfl ?_
    exact mz_ret rfl
  exact mz_ret rfl
set_option maxHeartbeats 4000000 in
set_option maxRecDepth 100000 in
theorem vc_alb0 {w : mz_M} {WW : Nat} (hWW : WW ≤ 6) (h1W : 1 ≤ WW) (h202 : w 20 2 = nI WW) (h203 : w 20 3 = nI WW) {c : Nat → Nat → Nat} (hcn : ∀ i j, i < WW → j < WW → w 21 ((j * 6) + i) = nI (c i j)) (h9 : ∀ i j, i < WW → j < WW → c i j ≤ 9) {A : Nat} (hA : A < WW * WW) : ∀ j k : Nat, k + j = A → ∀ (o4 o5 : Option Value), ((∃ b, k ≤ b ∧ b < A ∧ ¬ vq_pp c 0 WW A b) ∧ mz_Ex 16 mz_k18 (12, [some (.ref 20), some (.int 0), some (.int (nI A)), some (.int (nI k)), o4, o5], [], w) (some (.int 0), w)) ∨ ((∀ b, k ≤ b → b < A → vq_pp c 0 WW A b) ∧ ∃ (p4 p5 : Option Value), ∀ r, mz_Ex 16 mz_k18 (76, [some (.ref 20), some (.int 0), some (.int (nI A)), some (.int (nI A)), p4, p5], [], w) r → mz_Ex 16 mz_k18 (12, [some (.ref 20), some (.int 0), some (.int (nI A)), some (.int (nI k)), o4, o5], [], w) r) := by
  have hWm : WW * WW ≤ 6 * 6 := Nat.mul_le_mul hWW hWW
  intro j
  induction j with
  | zero =>
    intro k hk o4 o5
    rw [show k = A by omega]
    refine Or.inr ⟨fun b h1 h2 => by omega, o4, o5, fun r hr => ?_⟩
    refine mz_go 3 (c' := (if (nI A) ≤ (nI A) then 76 else 17, [some (.ref 20), some (.int 0), some (.int (nI A)), some (.int (nI A)), o4, o5], [], w)) rfl ?_
    refine mz_ifT (show ((nI A) ≤ (nI A)) from (sm_leN rfl rfl (show A ≤ A by omega) (show A < 2 ^ 31 by omega))) ?_
    exact hr
  | succ j ih =>
    intro k hk o4 o5
    have hmz1 : A % WW < WW := Nat.mod_lt _ (by omega)
    have hdz1 : A / WW < WW := vq_divlt (by omega)
    have h9z1 : c (vq_rA 0 WW (A % WW) (A / WW)) (vq_rB 0 WW (A % WW) (A / WW)) ≤ 9 := h9 _ _ (vq_rlt hmz1 hdz1).1 (vq_rlt hmz1 hdz1).2
    have hmz2 : k % WW < WW := Nat.mod_lt _ (by omega)
    have hdz2 : k / WW < WW := vq_divlt (by omega)
    have h9z2 : c (vq_rA 0 WW (k % WW) (k / WW)) (vq_rB 0 WW (k % WW) (k / WW)) ≤ 9 := h9 _ _ (vq_rlt hmz2 hdz2).1 (vq_rlt hmz2 hdz2).2
    by_cases q1 : (c (vq_rA 0 WW (A % WW) (A / WW)) (vq_rB 0 WW (A % WW) (A / WW))) = (c (vq_rA 0 WW (k % WW) (k / WW)) (vq_rB 0 WW (k % WW) (k / WW)))
    · have hmz3 : A % WW < WW := Nat.mod_lt _ (by omega)
      have hdz3 : A / WW < WW := vq_divlt (by omega)
      have h9z3 : c (vq_rA 0 WW (A % WW) (A / WW)) (vq_rB 0 WW (A % WW) (A / WW)) ≤ 9 := h9 _ _ (vq_rlt hmz3 hdz3).1 (vq_rlt hmz3 hdz3).2
      have hmz4 : k % WW < WW := Nat.mod_lt _ (by omega)
      have hdz4 : k / WW < WW := vq_divlt (by omega)
      have h9z4 : c (vq_rA 0 WW (k % WW) (k / WW)) (vq_rB 0 WW (k % WW) (k / WW)) ≤ 9 := h9 _ _ (vq_rlt hmz4 hdz4).1 (vq_rlt hmz4 hdz4).2
      have hok : vq_pp c 0 WW A k := ⟨fun _ => q1, fun _ => q1⟩
      rcases ih (k + 1) (by omega) (some (.int 1)) (some (.int 1)) with ⟨⟨b, h1, h2, h3⟩, E⟩ | ⟨hall, p4, p5, E⟩
      · refine Or.inl ⟨⟨b, by omega, h2, h3⟩, ?_⟩
        have hr := E
        rw [nI_succ k] at hr
        refine mz_go 3 (c' := (if (nI A) ≤ (nI k) then 76 else 17, [some (.ref 20), some (.int 0), some (.int (nI A)), some (.int (nI k)), o4, o5], [], w)) rfl ?_
        refine mz_ifF (show ¬ ((nI A) ≤ (nI k)) from (sm_nleN rfl rfl (show k < A by omega) (show A < 2 ^ 31 by omega))) ?_
        refine mz_go 3 (c' := (20, [some (.ref 20), some (.int 0), some (.int (nI A)), some (.int (nI k)), o4, o5], [.int 0, .int (nI A), .ref 20], w)) rfl ?_
        refine mz_doQ (R := mz_r19) (as := [.ref 20, .int (nI A), .int 0]) (rest := []) (r1 := some (.int (nI (c (vq_rA 0 WW (A % WW) (A / WW)) (vq_rB 0 WW (A % WW) (A / WW)))))) (m1 := w) mz_t19 mz_v19_20 rfl rfl rfl rfl rfl ((vc_tuc0 hWW h1W h202 h203 hcn h9 (K := A) (I := (A % WW)) (J := (A / WW)) (by omega) hmz1 hdz1 rfl rfl).deep (by decide)) ?_
        refine mz_go 3 (c' := (26, [some (.ref 20), some (.int 0), some (.int (nI A)), some (.int (nI k)), o4, o5], [.int 0, .int (nI k), .ref 20, .int (nI (c (vq_rA 0 WW (A % WW) (A / WW)) (vq_rB 0 WW (A % WW) (A / WW))))], w)) rfl ?_
        refine mz_doQ (R := mz_r19) (as := [.ref 20, .int (nI k), .int 0]) (rest := [.int (nI (c (vq_rA 0 WW (A % WW) (A / WW)) (vq_rB 0 WW (A % WW) (A / WW))))]) (r1 := some (.int (nI (c (vq_rA 0 WW (k % WW) (k / WW)) (vq_rB 0 WW (k % WW) (k / WW)))))) (m1 := w) mz_t19 mz_v19_20 rfl rfl rfl rfl rfl ((vc_tuc0 hWW h1W h202 h203 hcn h9 (K := k) (I := (k % WW)) (J := (k / WW)) (by omega) hmz2 hdz2 rfl rfl).deep (by decide)) ?_
        refine mz_go 1 (c' := (if (nI (c (vq_rA 0 WW (A % WW) (A / WW)) (vq_rB 0 WW (A % WW) (A / WW)))) = (nI (c (vq_rA 0 WW (k % WW) (k / WW)) (vq_rB 0 WW (k % WW) (k / WW)))) then 32 else 36, [some (.ref 20), some (.int 0), some (.int (nI A)), some (.int (nI k)), o4, o5], [], w)) rfl ?_
        refine mz_ifT (show ((nI (c (vq_rA 0 WW (A % WW) (A / WW)) (vq_rB 0 WW (A % WW) (A / WW)))) = (nI (c (vq_rA 0 WW (k % WW) (k / WW)) (vq_rB 0 WW (k % WW) (k / WW))))) from (sm_eqN rfl rfl (show (c (vq_rA 0 WW (A % WW) (A / WW)) (vq_rB 0 WW (A % WW) (A / WW))) = (c (vq_rA 0 WW (k % WW) (k / WW)) (vq_rB 0 WW (k % WW) (k / WW))) by omega))) ?_
        refine mz_go 6 (c' := (42, [some (.ref 20), some (.int 0), some (.int (nI A)), some (.int (nI k)), some (.int 1), o5], [.int 0, .int (nI A), .ref 20], w)) rfl ?_
        refine mz_doQ (R := mz_r19) (as := [.ref 20, .int (nI A), .int 0]) (rest := []) (r1 := some (.int (nI (c (vq_rA 0 WW (A % WW) (A / WW)) (vq_rB 0 WW (A % WW) (A / WW)))))) (m1 := w) mz_t19 mz_v19_20 rfl rfl rfl rfl rfl ((vc_tuc0 hWW h1W h202 h203 hcn h9 (K := A) (I := (A % WW)) (J := (A / WW)) (by omega) hmz3 hdz3 rfl rfl).deep (by decide)) ?_
        refine mz_go 3 (c' := (48, [some (.ref 20), some (.int 0), some (.int (nI A)), some (.int (nI k)), some (.int 1), o5], [.int 0, .int (nI k), .ref 20, .int (nI (c (vq_rA 0 WW (A % WW) (A / WW)) (vq_rB 0 WW (A % WW) (A / WW))))], w)) rfl ?_
        refine mz_doQ (R := mz_r19) (as := [.ref 20, .int (nI k), .int 0]) (rest := [.int (nI (c (vq_rA 0 WW (A % WW) (A / WW)) (vq_rB 0 WW (A % WW) (A / WW))))]) (r1 := some (.int (nI (c (vq_rA 0 WW (k % WW) (k / WW)) (vq_rB 0 WW (k % WW) (k / WW)))))) (m1 := w) mz_t19 mz_v19_20 rfl rfl rfl rfl rfl ((vc_tuc0 hWW h1W h202 h203 hcn h9 (K := k) (I := (k % WW)) (J := (k / WW)) (by omega) hmz4 hdz4 rfl rfl).deep (by decide)) ?_
        refine mz_go 1 (c' := (if (nI (c (vq_rA 0 WW (A % WW) (A / WW)) (vq_rB 0 WW (A % WW) (A / WW)))) = (nI (c (vq_rA 0 WW (k % WW) (k / WW)) (vq_rB 0 WW (k % WW) (k / WW)))) then 54 else 58, [some (.ref 20), some (.int 0), some (.int (nI A)), some (.int (nI k)), some (.int 1), o5], [], w)) rfl ?_
        refine mz_ifT (show ((nI (c (vq_rA 0 WW (A % WW) (A / WW)) (vq_rB 0 WW (A % WW) (A / WW)))) = (nI (c (vq_rA 0 WW (k % WW) (k / WW)) (vq_rB 0 WW (k % WW) (k / WW))))) from (sm_eqN rfl rfl (show (c (vq_rA 0 WW (A % WW) (A / WW)) (vq_rB 0 WW (A % WW) (A / WW))) = (c (vq_rA 0 WW (k % WW) (k / WW)) (vq_rB 0 WW (k % WW) (k / WW))) by omega))) ?_
        refine mz_go 8 (c' := (12, [some (.ref 20), some (.int 0), some (.int (nI A)), some (.int ((nI k) + 1)), some (.int 1), some (.int 1)], [], w)) rfl ?_
        exact hr
      · refine Or.inr ⟨fun b hb1 hb2 => ?_, p4, p5, fun r hr0 => ?_⟩
        · rcases Nat.eq_or_lt_of_le hb1 with e | e
          · rw [← e]
            exact hok
          · exact hall b e hb2
        · have hr := E r hr0
          rw [nI_succ k] at hr
          refine mz_go 3 (c' := (if (nI A) ≤ (nI k) then 76 else 17, [some (.ref 20), some (.int 0), some (.int (nI A)), some (.int (nI k)), o4, o5], [], w)) rfl ?_
          refine mz_ifF (show ¬ ((nI A) ≤ (nI k)) from (sm_nleN rfl rfl (show k < A by omega) (show A < 2 ^ 31 by omega))) ?_
          refine mz_go 3 (c' := (20, [some (.ref 20), some (.int 0), some (.int (nI A)), some (.int (nI k)), o4, o5], [.int 0, .int (nI A), .ref 20], w)) rfl ?_
          refine mz_doQ (R := mz_r19) (as := [.ref 20, .int (nI A), .int 0]) (rest := []) (r1 := some (.int (nI (c (vq_rA 0 WW (A % WW) (A / WW)) (vq_rB 0 WW (A % WW) (A / WW)))))) (m1 := w) mz_t19 mz_v19_20 rfl rfl rfl rfl rfl ((vc_tuc0 hWW h1W h202 h203 hcn h9 (K := A) (I := (A % WW)) (J := (A / WW)) (by omega) hmz1 hdz1 rfl rfl).deep (by decide)) ?_
          refine mz_go 3 (c' := (26, [some (.ref 20), some (.int 0), some (.int (nI A)), some (.int (nI k)), o4, o5], [.int 0, .int (nI k), .ref 20, .int (nI (c (vq_rA 0 WW (A % WW) (A / WW)) (vq_rB 0 WW (A % WW) (A / WW))))], w)) rfl ?_
          refine mz_doQ (R := mz_r19) (as := [.ref 20, .int (nI k), .int 0]) (rest := [.int (nI (c (vq_rA 0 WW (A % WW) (A / WW)) (vq_rB 0 WW (A % WW) (A / WW))))]) (r1 := some (.int (nI (c (vq_rA 0 WW (k % WW) (k / WW)) (vq_rB 0 WW (k % WW) (k / WW)))))) (m1 := w) mz_t19 mz_v19_20 rfl rfl rfl rfl rfl ((vc_tuc0 hWW h1W h202 h203 hcn h9 (K := k) (I := (k % WW)) (J := (k / WW)) (by omega) hmz2 hdz2 rfl rfl).deep (by decide)) ?_
          refine mz_go 1 (c' := (if (nI (c (vq_rA 0 WW (A % WW) (A / WW)) (vq_rB 0 WW (A % WW) (A / WW)))) = (nI (c (vq_rA 0 WW (k % WW) (k / WW)) (vq_rB 0 WW (k % WW) (k / WW)))) then 32 else 36, [some (.ref 20), some (.int 0), some (.int (nI A)), some (.int (nI k)), o4, o5], [], w)) rfl ?_
          refine mz_ifT (show ((nI (c (vq_rA 0 WW (A % WW) (A / WW)) (vq_rB 0 WW (A % WW) (A / WW)))) = (nI (c (vq_rA 0 WW (k % WW) (k / WW)) (vq_rB 0 WW (k % WW) (k / WW))))) from (sm_eqN rfl rfl (show (c (vq_rA 0 WW (A % WW) (A / WW)) (vq_rB 0 WW (A % WW) (A / WW))) = (c (vq_rA 0 WW (k % WW) (k / WW)) (vq_rB 0 WW (k % WW) (k / WW))) by omega))) ?_
          refine mz_go 6 (c' := (42, [some (.ref 20), some (.int 0), some (.int (nI A)), some (.int (nI k)), some (.int 1), o5], [.int 0, .int (nI A), .ref 20], w)) rfl ?_
          refine mz_doQ (R := mz_r19) (as := [.ref 20, .int (nI A), .int 0]) (rest := []) (r1 := some (.int (nI (c (vq_rA 0 WW (A % WW) (A / WW)) (vq_rB 0 WW (A % WW) (A / WW)))))) (m1 := w) mz_t19 mz_v19_20 rfl rfl rfl rfl rfl ((vc_tuc0 hWW h1W h202 h203 hcn h9 (K := A) (I := (A % WW)) (J := (A / WW)) (by omega) hmz3 hdz3 rfl rfl).deep (by decide)) ?_
          refine mz_go 3 (c' := (48, [some (.ref 20), some (.int 0), some (.int (nI A)), some (.int (nI k)), some (.int 1), o5], [.int 0, .int (nI k), .ref 20, .int (nI (c (vq_rA 0 WW (A % WW) (A / WW)) (vq_rB 0 WW (A % WW) (A / WW))))], w)) rfl ?_
          refine mz_doQ (R := mz_r19) (as := [.ref 20, .int (nI k), .int 0]) (rest := [.int (nI (c (vq_rA 0 WW (A % WW) (A / WW)) (vq_rB 0 WW (A % WW) (A / WW))))]) (r1 := some (.int (nI (c (vq_rA 0 WW (k % WW) (k / WW)) (vq_rB 0 WW (k % WW) (k / WW)))))) (m1 := w) mz_t19 mz_v19_20 rfl rfl rfl rfl rfl ((vc_tuc0 hWW h1W h202 h203 hcn h9 (K := k) (I := (k % WW)) (J := (k / WW)) (by omega) hmz4 hdz4 rfl rfl).deep (by decide)) ?_
          refine mz_go 1 (c' := (if (nI (c (vq_rA 0 WW (A % WW) (A / WW)) (vq_rB 0 WW (A % WW) (A / WW)))) = (nI (c (vq_rA 0 WW (k % WW) (k / WW)) (vq_rB 0 WW (k % WW) (k / WW)))) then 54 else 58, [some (.ref 20), some (.int 0), some (.int (nI A)), some (.int (nI k)), some (.int 1), o5], [], w)) rfl ?_
          refine mz_ifT (show ((nI (c (vq_rA 0 WW (A % WW) (A / WW)) (vq_rB 0 WW (A % WW) (A / WW)))) = (nI (c (vq_rA 0 WW (k % WW) (k / WW)) (vq_rB 0 WW (k % WW) (k / WW))))) from (sm_eqN rfl rfl (show (c (vq_rA 0 WW (A % WW) (A / WW)) (vq_rB 0 WW (A % WW) (A / WW))) = (c (vq_rA 0 WW (k % WW) (k / WW)) (vq_rB 0 WW (k % WW) (k / WW))) by omega))) ?_
          refine mz_go 8 (c' := (12, [some (.ref 20), some (.int 0), some (.int (nI A)), some (.int ((nI k) + 1)), some (.int 1), some (.int 1)], [], w)) rfl ?_
          exact hr
    · have hmz3 : A % WW < WW := Nat.mod_lt _ (by omega)
      have hdz3 : A / WW < WW := vq_divlt (by omega)
      have h9z3 : c (vq_rA 0 WW (A % WW) (A / WW)) (vq_rB 0 WW (A % WW) (A / WW)) ≤ 9 := h9 _ _ (vq_rlt hmz3 hdz3).1 (vq_rlt hmz3 hdz3).2
      have hmz4 : k % WW < WW := Nat.mod_lt _ (by omega)
      have hdz4 : k / WW < WW := vq_divlt (by omega)
      have h9z4 : c (vq_rA 0 WW (k % WW) (k / WW)) (vq_rB 0 WW (k % WW) (k / WW)) ≤ 9 := h9 _ _ (vq_rlt hmz4 hdz4).1 (vq_rlt hmz4 hdz4).2
      have hok : vq_pp c 0 WW A k := ⟨fun z => absurd z q1, fun z => absurd z q1⟩
      rcases ih (k + 1) (by omega) (some (.int 0)) (some (.int 0)) with ⟨⟨b, h1, h2, h3⟩, E⟩ | ⟨hall, p4, p5, E⟩
      · refine Or.inl ⟨⟨b, by omega, h2, h3⟩, ?_⟩
        have hr := E
        rw [nI_succ k] at hr
        refine mz_go 3 (c' := (if (nI A) ≤ (nI k) then 76 else 17, [some (.ref 20), some (.int 0), some (.int (nI A)), some (.int (nI k)), o4, o5], [], w)) rfl ?_
        refine mz_ifF (show ¬ ((nI A) ≤ (nI k)) from (sm_nleN rfl rfl (show k < A by omega) (show A < 2 ^ 31 by omega))) ?_
        refine mz_go 3 (c' := (20, [some (.ref 20), some (.int 0), some (.int (nI A)), some (.int (nI k)), o4, o5], [.int 0, .int (nI A), .ref 20], w)) rfl ?_
        refine mz_doQ (R := mz_r19) (as := [.ref 20, .int (nI A), .int 0]) (rest := []) (r1 := some (.int (nI (c (vq_rA 0 WW (A % WW) (A / WW)) (vq_rB 0 WW (A % WW) (A / WW)))))) (m1 := w) mz_t19 mz_v19_20 rfl rfl rfl rfl rfl ((vc_tuc0 hWW h1W h202 h203 hcn h9 (K := A) (I := (A % WW)) (J := (A / WW)) (by omega) hmz1 hdz1 rfl rfl).deep (by decide)) ?_
        refine mz_go 3 (c' := (26, [some (.ref 20), some (.int 0), some (.int (nI A)), some (.int (nI k)), o4, o5], [.int 0, .int (nI k), .ref 20, .int (nI (c (vq_rA 0 WW (A % WW) (A / WW)) (vq_rB 0 WW (A % WW) (A / WW))))], w)) rfl ?_
        refine mz_doQ (R := mz_r19) (as := [.ref 20, .int (nI k), .int 0]) (rest := [.int (nI (c (vq_rA 0 WW (A % WW) (A / WW)) (vq_rB 0 WW (A % WW) (A / WW))))]) (r1 := some (.int (nI (c (vq_rA 0 WW (k % WW) (k / WW)) (vq_rB 0 WW (k % WW) (k / WW)))))) (m1 := w) mz_t19 mz_v19_20 rfl rfl rfl rfl rfl ((vc_tuc0 hWW h1W h202 h203 hcn h9 (K := k) (I := (k % WW)) (J := (k / WW)) (by omega) hmz2 hdz2 rfl rfl).deep (by decide)) ?_
        refine mz_go 1 (c' := (if (nI (c (vq_rA 0 WW (A % WW) (A / WW)) (vq_rB 0 WW (A % WW) (A / WW)))) = (nI (c (vq_rA 0 WW (k % WW) (k / WW)) (vq_rB 0 WW (k % WW) (k / WW)))) then 32 else 36, [some (.ref 20), some (.int 0), some (.int (nI A)), some (.int (nI k)), o4, o5], [], w)) rfl ?_
        refine mz_ifF (show ¬ ((nI (c (vq_rA 0 WW (A % WW) (A / WW)) (vq_rB 0 WW (A % WW) (A / WW)))) = (nI (c (vq_rA 0 WW (k % WW) (k / WW)) (vq_rB 0 WW (k % WW) (k / WW))))) from (sm_neN rfl rfl (show (c (vq_rA 0 WW (A % WW) (A / WW)) (vq_rB 0 WW (A % WW) (A / WW))) ≠ (c (vq_rA 0 WW (k % WW) (k / WW)) (vq_rB 0 WW (k % WW) (k / WW))) by omega) (show (c (vq_rA 0 WW (A % WW) (A / WW)) (vq_rB 0 WW (A % WW) (A / WW))) < 2 ^ 31 by omega) (show (c (vq_rA 0 WW (k % WW) (k / WW)) (vq_rB 0 WW (k % WW) (k / WW))) < 2 ^ 31 by omega))) ?_
        refine mz_go 5 (c' := (42, [some (.ref 20), some (.int 0), some (.int (nI A)), some (.int (nI k)), some (.int 0), o5], [.int 0, .int (nI A), .ref 20], w)) rfl ?_
        refine mz_doQ (R := mz_r19) (as := [.ref 20, .int (nI A), .int 0]) (rest := []) (r1 := some (.int (nI (c (vq_rA 0 WW (A % WW) (A / WW)) (vq_rB 0 WW (A % WW) (A / WW)))))) (m1 := w) mz_t19 mz_v19_20 rfl rfl rfl rfl rfl ((vc_tuc0 hWW h1W h202 h203 hcn h9 (K := A) (I := (A % WW)) (J := (A / WW)) (by omega) hmz3 hdz3 rfl rfl).deep (by decide)) ?_
        refine mz_go 3 (c' := (48, [some (.ref 20), some (.int 0), some (.int (nI A)), some (.int (nI k)), some (.int 0), o5], [.int 0, .int (nI k), .ref 20, .int (nI (c (vq_rA 0 WW (A % WW) (A / WW)) (vq_rB 0 WW (A % WW) (A / WW))))], w)) rfl ?_
        refine mz_doQ (R := mz_r19) (as := [.ref 20, .int (nI k), .int 0]) (rest := [.int (nI (c (vq_rA 0 WW (A % WW) (A / WW)) (vq_rB 0 WW (A % WW) (A / WW))))]) (r1 := some (.int (nI (c (vq_rA 0 WW (k % WW) (k / WW)) (vq_rB 0 WW (k % WW) (k / WW)))))) (m1 := w) mz_t19 mz_v19_20 rfl rfl rfl rfl rfl ((vc_tuc0 hWW h1W h202 h203 hcn h9 (K := k) (I := (k % WW)) (J := (k / WW)) (by omega) hmz4 hdz4 rfl rfl).deep (by decide)) ?_
        refine mz_go 1 (c' := (if (nI (c (vq_rA 0 WW (A % WW) (A / WW)) (vq_rB 0 WW (A % WW) (A / WW)))) = (nI (c (vq_rA 0 WW (k % WW) (k / WW)) (vq_rB 0 WW (k % WW) (k / WW)))) then 54 else 58, [some (.ref 20), some (.int 0), some (.int (nI A)), some (.int (nI k)), some (.int 0), o5], [], w)) rfl ?_
        refine mz_ifF (show ¬ ((nI (c (vq_rA 0 WW (A % WW) (A / WW)) (vq_rB 0 WW (A % WW) (A / WW)))) = (nI (c (vq_rA 0 WW (k % WW) (k / WW)) (vq_rB 0 WW (k % WW) (k / WW))))) from (sm_neN rfl rfl (show (c (vq_rA 0 WW (A % WW) (A / WW)) (vq_rB 0 WW (A % WW) (A / WW))) ≠ (c (vq_rA 0 WW (k % WW) (k / WW)) (vq_rB 0 WW (k % WW) (k / WW))) by omega) (show (c (vq_rA 0 WW (A % WW) (A / WW)) (vq_rB 0 WW (A % WW) (A / WW))) < 2 ^ 31 by omega) (show (c (vq_rA 0 WW (k % WW) (k / WW)) (vq_rB 0 WW (k % WW) (k / WW))) < 2 ^ 31 by omega))) ?_
        refine mz_go 7 (c' := (12, [some (.ref 20), some (.int 0), some (.int (nI A)), some (.int ((nI k) + 1)), some (.int 0), some (.int 0)], [], w)) rfl ?_
        exact hr
      · refine Or.inr ⟨fun b hb1 hb2 => ?_, p4, p5, fun r hr0 => ?_⟩
        · rcases Nat.eq_or_lt_of_le hb1 with e | e
          · rw [← e]
            exact hok
          · exact hall b e hb2
        · have hr := E r hr0
          rw [nI_succ k] at hr
          refine mz_go 3 (c' := (if (nI A) ≤ (nI k) then 76 else 17, [some (.ref 20), some (.int 0), some (.int (nI A)), some (.int (nI k)), o4, o5], [], w)) rfl ?_
          refine mz_ifF (show ¬ ((nI A) ≤ (nI k)) from (sm_nleN rfl rfl (show k < A by omega) (show A < 2 ^ 31 by omega))) ?_
          refine mz_go 3 (c' := (20, [some (.ref 20), some (.int 0), some (.int (nI A)), some (.int (nI k)), o4, o5], [.int 0, .int (nI A), .ref 20], w)) rfl ?_
          refine mz_doQ (R := mz_r19) (as := [.ref 20, .int (nI A), .int 0]) (rest := []) (r1 := some (.int (nI (c (vq_rA 0 WW (A % WW) (A / WW)) (vq_rB 0 WW (A % WW) (A / WW)))))) (m1 := w) mz_t19 mz_v19_20 rfl rfl rfl rfl rfl ((vc_tuc0 hWW h1W h202 h203 hcn h9 (K := A) (I := (A % WW)) (J := (A / WW)) (by omega) hmz1 hdz1 rfl rfl).deep (by decide)) ?_
          refine mz_go 3 (c' := (26, [some (.ref 20), some (.int 0), some (.int (nI A)), some (.int (nI k)), o4, o5], [.int 0, .int (nI k), .ref 20, .int (nI (c (vq_rA 0 WW (A % WW) (A / WW)) (vq_rB 0 WW (A % WW) (A / WW))))], w)) rfl ?_
          refine mz_doQ (R := mz_r19) (as := [.ref 20, .int (nI k), .int 0]) (rest := [.int (nI (c (vq_rA 0 WW (A % WW) (A / WW)) (vq_rB 0 WW (A % WW) (A / WW))))]) (r1 := some (.int (nI (c (vq_rA 0 WW (k % WW) (k / WW)) (vq_rB 0 WW (k % WW) (k / WW)))))) (m1 := w) mz_t19 mz_v19_20 rfl rfl rfl rfl rfl ((vc_tuc0 hWW h1W h202 h203 hcn h9 (K := k) (I := (k % WW)) (J := (k / WW)) (by omega) hmz2 hdz2 rfl rfl).deep (by decide)) ?_
          refine mz_go 1 (c' := (if (nI (c (vq_rA 0 WW (A % WW) (A / WW)) (vq_rB 0 WW (A % WW) (A / WW)))) = (nI (c (vq_rA 0 WW (k % WW) (k / WW)) (vq_rB 0 WW (k % WW) (k / WW)))) then 32 else 36, [some (.ref 20), some (.int 0), some (.int (nI A)), some (.int (nI k)), o4, o5], [], w)) rfl ?_
          refine mz_ifF (show ¬ ((nI (c (vq_rA 0 WW (A % WW) (A / WW)) (vq_rB 0 WW (A % WW) (A / WW)))) = (nI (c (vq_rA 0 WW (k % WW) (k / WW)) (vq_rB 0 WW (k % WW) (k / WW))))) from (sm_neN rfl rfl (show (c (vq_rA 0 WW (A % WW) (A / WW)) (vq_rB 0 WW (A % WW) (A / WW))) ≠ (c (vq_rA 0 WW (k % WW) (k / WW)) (vq_rB 0 WW (k % WW) (k / WW))) by omega) (show (c (vq_rA 0 WW (A % WW) (A / WW)) (vq_rB 0 WW (A % WW) (A / WW))) < 2 ^ 31 by omega) (show (c (vq_rA 0 WW (k % WW) (k / WW)) (vq_rB 0 WW (k % WW) (k / WW))) < 2 ^ 31 by omega))) ?_
          refine mz_go 5 (c' := (42, [some (.ref 20), some (.int 0), some (.int (nI A)), some (.int (nI k)), some (.int 0), o5], [.int 0, .int (nI A), .ref 20], w)) rfl ?_
          refine mz_doQ (R := mz_r19) (as := [.ref 20, .int (nI A), .int 0]) (rest := []) (r1 := some (.int (nI (c (vq_rA 0 WW (A % WW) (A / WW)) (vq_rB 0 WW (A % WW) (A / WW)))))) (m1 := w) mz_t19 mz_v19_20 rfl rfl rfl rfl rfl ((vc_tuc0 hWW h1W h202 h203 hcn h9 (K := A) (I := (A % WW)) (J := (A / WW)) (by omega) hmz3 hdz3 rfl rfl).deep (by decide)) ?_
          refine mz_go 3 (c' := (48, [some (.ref 20), some (.int 0), some (.int (nI A)), some (.int (nI k)), some (.int 0), o5], [.int 0, .int (nI k), .ref 20, .int (nI (c (vq_rA 0 WW (A % WW) (A / WW)) (vq_rB 0 WW (A % WW) (A / WW))))], w)) rfl ?_
          refine mz_doQ (R := mz_r19) (as := [.ref 20, .int (nI k), .int 0]) (rest := [.int (nI (c (vq_rA 0 WW (A % WW) (A / WW)) (vq_rB 0 WW (A % WW) (A / WW))))]) (r1 := some (.int (nI (c (vq_rA 0 WW (k % WW) (k / WW)) (vq_rB 0 WW (k % WW) (k / WW)))))) (m1 := w) mz_t19 mz_v19_20 rfl rfl rfl rfl rfl ((vc_tuc0 hWW h1W h202 h203 hcn h9 (K := k) (I := (k % WW)) (J := (k / WW)) (by omega) hmz4 hdz4 rfl rfl).deep (by decide)) ?_
          refine mz_go 1 (c' := (if (nI (c (vq_rA 0 WW (A % WW) (A / WW)) (vq_rB 0 WW (A % WW) (A / WW)))) = (nI (c (vq_rA 0 WW (k % WW) (k / WW)) (vq_rB 0 WW (k % WW) (k / WW)))) then 54 else 58, [some (.ref 20), some (.int 0), some (.int (nI A)), some (.int (nI k)), some (.int 0), o5], [], w)) rfl ?_
          refine mz_ifF (show ¬ ((nI (c (vq_rA 0 WW (A % WW) (A / WW)) (vq_rB 0 WW (A % WW) (A / WW)))) = (nI (c (vq_rA 0 WW (k % WW) (k / WW)) (vq_rB 0 WW (k % WW) (k / WW))))) from (sm_neN rfl rfl (show (c (vq_rA 0 WW (A % WW) (A / WW)) (vq_rB 0 WW (A % WW) (A / WW))) ≠ (c (vq_rA 0 WW (k % WW) (k / WW)) (vq_rB 0 WW (k % WW) (k / WW))) by omega) (show (c (vq_rA 0 WW (A % WW) (A / WW)) (vq_rB 0 WW (A % WW) (A / WW))) < 2 ^ 31 by omega) (show (c (vq_rA 0 WW (k % WW) (k / WW)) (vq_rB 0 WW (k % WW) (k / WW))) < 2 ^ 31 by omega))) ?_
          refine mz_go 7 (c' := (12, [some (.ref 20), some (.int 0), some (.int (nI A)), some (.int ((nI k) + 1)), some (.int 0), some (.int 0)], [], w)) rfl ?_
          exact hr
set_option maxHeartbeats 4000000 in
set_option maxRecDepth 100000 in
theorem vc_ala0 {w : mz_M} {WW : Nat} (hWW : WW ≤ 6) (h1W : 1 ≤ WW) (h202 : w 20 2 = nI WW) (h203 : w 20 3 = nI WW) {c : Nat → Nat → Nat} (hcn : ∀ i j, i < WW → j < WW → w 21 ((j * 6) + i) = nI (c i j)) (h9 : ∀ i j, i < WW → j < WW → c i j ≤ 9) : ∀ j k : Nat, k + j = WW * WW → ∀ (o3 o4 o5 : Option Value), ((∃ a b, a < WW * WW ∧ b < a ∧ ¬ vq_pp c 0 WW a b) ∧ mz_Ex 16 mz_k18 (2, [some (.ref 20), some (.int 0), some (.int (nI k)), o3, o4, o5], [], w) (some (.int 0), w)) ∨ ((∀ a, k ≤ a → a < WW * WW → ∀ b, b < a → vq_pp c 0 WW a b) ∧ mz_Ex 16 mz_k18 (2, [some (.ref 20), some (.int 0), some (.int (nI k)), o3, o4, o5], [], w) (some (.int 1), w)) := by
  have hWm : WW * WW ≤ 6 * 6 := Nat.mul_le_mul hWW hWW
  intro j
  induction j with
  | zero =>
    intro k hk o3 o4 o5
    rw [show k = WW * WW by omega]
    refine Or.inr ⟨fun a h1 h2 => by omega, ?_⟩
    refine mz_go 2 (c' := (4, [some (.ref 20), some (.int 0), some (.int (nI (WW * WW))), o3, o4, o5], [.ref 20, .int (nI (WW * WW))], w)) rfl ?_
    refine mz_doQ (R := mz_r3) (as := [.ref 20]) (rest := [.int (nI (WW * WW))]) (r1 := some (.int ((nI WW) * (nI WW)))) (m1 := w) mz_t3 mz_v3_20 rfl rfl rfl rfl rfl ⟨?_, rfl⟩ ?_
    · refine mz_go 2 (c' := (4, [some (.ref 20)], [.int (w 20 2)], w)) rfl ?_
      rw [h202]
      refine mz_go 2 (c' := (8, [some (.ref 20)], [.int (w 20 3), .int (nI WW)], w)) rfl ?_
      rw [h203]
      refine mz_go 1 (c' := (9, [some (.ref 20)], [.int ((nI WW) * (nI WW))], w)) rfl ?_
      exact mz_ret rfl
    refine mz_go 1 (c' := (if ((nI WW) * (nI WW)) ≤ (nI (WW * WW)) then 82 else 10, [some (.ref 20), some (.int 0), some (.int (nI (WW * WW))), o3, o4, o5], [], w)) rfl ?_
    refine mz_ifT (show (((nI WW) * (nI WW)) ≤ (nI (WW * WW))) from (sm_leN (sm_mulN rfl rfl) rfl (show (WW * WW) ≤ (WW * WW) by omega) (show (WW * WW) < 2 ^ 31 by omega))) ?_
    refine mz_go 1 (c' := (83, [some (.ref 20), some (.int 0), some (.int (nI (WW * WW))), o3, o4, o5], [.int 1], w)) rfl ?_
    exact mz_ret rfl
  | succ j ih =>
    intro k hk o3 o4 o5
    rcases vc_alb0 hWW h1W h202 h203 hcn h9 (A := k) (by omega) k 0 (by omega) o4 o5 with ⟨⟨b, h1, h2, h3⟩, hin⟩ | ⟨hall, p4, p5, E⟩
    · refine Or.inl ⟨⟨k, b, by omega, h2, h3⟩, ?_⟩
      refine mz_go 2 (c' := (4, [some (.ref 20), some (.int 0), some (.int (nI k)), o3, o4, o5], [.ref 20, .int (nI k)], w)) rfl ?_
      refine mz_doQ (R := mz_r3) (as := [.ref 20]) (rest := [.int (nI k)]) (r1 := some (.int ((nI WW) * (nI WW)))) (m1 := w) mz_t3 mz_v3_20 rfl rfl rfl rfl rfl ⟨?_, rfl⟩ ?_
      · refine mz_go 2 (c' := (4, [some (.ref 20)], [.int (w 20 2)], w)) rfl ?_
        rw [h202]
        refine mz_go 2 (c' := (8, [some (.ref 20)], [.int (w 20 3), .int (nI WW)], w)) rfl ?_
        rw [h203]
        refine mz_go 1 (c' := (9, [some (.ref 20)], [.int ((nI WW) * (nI WW))], w)) rfl ?_
        exact mz_ret rfl
      refine mz_go 1 (c' := (if ((nI WW) * (nI WW)) ≤ (nI k) then 82 else 10, [some (.ref 20), some (.int 0), some (.int (nI k)), o3, o4, o5], [], w)) rfl ?_
      refine mz_ifF (show ¬ (((nI WW) * (nI WW)) ≤ (nI k)) from (sm_nleN (sm_mulN rfl rfl) rfl (show k < (WW * WW) by omega) (show (WW * WW) < 2 ^ 31 by omega))) ?_
      refine mz_go 2 (c' := (12, [some (.ref 20), some (.int 0), some (.int (nI k)), some (.int 0), o4, o5], [], w)) rfl ?_
      exact hin
    · rcases ih (k + 1) (by omega) (some (.int (nI k))) p4 p5 with ⟨⟨a, b, h1, h2, h3⟩, E2⟩ | ⟨hal2, E2⟩
      · refine Or.inl ⟨⟨a, b, h1, h2, h3⟩, ?_⟩
        have hin := E (some (.int 0), w) (by
          have hr := E2
          rw [nI_succ k] at hr
          refine mz_go 2 (c' := (2, [some (.ref 20), some (.int 0), some (.int ((nI k) + 1)), some (.int (nI k)), p4, p5], [], w)) rfl ?_
          exact hr)
        refine mz_go 2 (c' := (4, [some (.ref 20), some (.int 0), some (.int (nI k)), o3, o4, o5], [.ref 20, .int (nI k)], w)) rfl ?_
        refine mz_doQ (R := mz_r3) (as := [.ref 20]) (rest := [.int (nI k)]) (r1 := some (.int ((nI WW) * (nI WW)))) (m1 := w) mz_t3 mz_v3_20 rfl rfl rfl rfl rfl ⟨?_, rfl⟩ ?_
        · refine mz_go 2 (c' := (4, [some (.ref 20)], [.int (w 20 2)], w)) rfl ?_
          rw [h202]
          refine mz_go 2 (c' := (8, [some (.ref 20)], [.int (w 20 3), .int (nI WW)], w)) rfl ?_
          rw [h203]
          refine mz_go 1 (c' := (9, [some (.ref 20)], [.int ((nI WW) * (nI WW))], w)) rfl ?_
          exact mz_ret rfl
        refine mz_go 1 (c' := (if ((nI WW) * (nI WW)) ≤ (nI k) then 82 else 10, [some (.ref 20), some (.int 0), some (.int (nI k)), o3, o4, o5], [], w)) rfl ?_
        refine mz_ifF (show ¬ (((nI WW) * (nI WW)) ≤ (nI k)) from (sm_nleN (sm_mulN rfl rfl) rfl (show k < (WW * WW) by omega) (show (WW * WW) < 2 ^ 31 by omega))) ?_
        refine mz_go 2 (c' := (12, [some (.ref 20), some (.int 0), some (.int (nI k)), some (.int 0), o4, o5], [], w)) rfl ?_
        exact hin
      · refine Or.inr ⟨fun a ha1 ha2 b hb => ?_, ?_⟩
        · rcases Nat.eq_or_lt_of_le ha1 with e | e
          · rw [← e] at hb ⊢
            exact hall b (Nat.zero_le b) hb
          · exact hal2 a e ha2 b hb
        · have hin := E (some (.int 1), w) (by
            have hr := E2
            rw [nI_succ k] at hr
            refine mz_go 2 (c' := (2, [some (.ref 20), some (.int 0), some (.int ((nI k) + 1)), some (.int (nI k)), p4, p5], [], w)) rfl ?_
            exact hr)
          refine mz_go 2 (c' := (4, [some (.ref 20), some (.int 0), some (.int (nI k)), o3, o4, o5], [.ref 20, .int (nI k)], w)) rfl ?_
          refine mz_doQ (R := mz_r3) (as := [.ref 20]) (rest := [.int (nI k)]) (r1 := some (.int ((nI WW) * (nI WW)))) (m1 := w) mz_t3 mz_v3_20 rfl rfl rfl rfl rfl ⟨?_, rfl⟩ ?_
          · refine mz_go 2 (c' := (4, [some (.ref 20)], [.int (w 20 2)], w)) rfl ?_
            rw [h202]
            refine mz_go 2 (c' := (8, [some (.ref 20)], [.int (w 20 3), .int (nI WW)], w)) rfl ?_
            rw [h203]
            refine mz_go 1 (c' := (9, [some (.ref 20)], [.int ((nI WW) * (nI WW))], w)) rfl ?_
            exact mz_ret rfl
          refine mz_go 1 (c' := (if ((nI WW) * (nI WW)) ≤ (nI k) then 82 else 10, [some (.ref 20), some (.int 0), some (.int (nI k)), o3, o4, o5], [], w)) rfl ?_
          refine mz_ifF (show ¬ (((nI WW) * (nI WW)) ≤ (nI k)) from (sm_nleN (sm_mulN rfl rfl) rfl (show k < (WW * WW) by omega) (show (WW * WW) < 2 ^ 31 by omega))) ?_
          refine mz_go 2 (c' := (12, [some (.ref 20), some (.int 0), some (.int (nI k)), some (.int 0), o4, o5], [], w)) rfl ?_
          exact hin
set_option maxHeartbeats 4000000 in
set_option maxRecDepth 100000 in
theorem vc_ali0 {w : mz_M} {WW : Nat} (hWW : WW ≤ 6) (h1W : 1 ≤ WW) (h202 : w 20 2 = nI WW) (h203 : w 20 3 = nI WW) {c : Nat → Nat → Nat} (hcn : ∀ i j, i < WW → j < WW → w 21 ((j * 6) + i) = nI (c i j)) (h9 : ∀ i j, i < WW → j < WW → c i j ≤ 9) : mz_Me 16 mz_r18 [.ref 20, .int 0] w (some (.int (vq_tv c 0 WW))) w := by
  have hWm : WW * WW ≤ 6 * 6 := Nat.mul_le_mul hWW hWW
  refine ⟨?_, by rcases vq_tv01 (c := c) (q := 0) (W := WW) with h | h <;> rw [h] <;> rfl⟩
  rcases vc_ala0 hWW h1W h202 h203 hcn h9 (WW * WW) 0 (by omega) none none none with ⟨⟨a, b, h1, h2, h3⟩, E⟩ | ⟨hall, E⟩
  · rw [vq_tvF (vq_tp2 h1 (by omega) h3)]
    refine mz_go 2 (c' := (2, [some (.ref 20), some (.int 0), some (.int 0), none, none, none], [], w)) rfl ?_
    exact E
  · rw [vq_tvT (vq_tp1 (fun a ha b hb => hall a (Nat.zero_le a) ha b hb))]
    refine mz_go 2 (c' := (2, [some (.ref 20), some (.int 0), some (.int 0), none, none, none], [], w)) rfl ?_
    exact E
set_option maxHeartbeats 4000000 in
set_option maxRecDepth 100000 in
theorem vc_alb1 {w : mz_M} {WW : Nat} (hWW : WW ≤ 6) (h1W : 1 ≤ WW) (h202 : w 20 2 = nI WW) (h203 : w 20 3 = nI WW) {c : Nat → Nat → Nat} (hcn : ∀ i j, i < WW → j < WW → w 21 ((j * 6) + i) = nI (c i j)) (h9 : ∀ i j, i < WW → j < WW → c i j ≤ 9) {A : Nat} (hA : A < WW * WW) : ∀ j k : Nat, k + j = A → ∀ (o4 o5 : Option Value), ((∃ b, k ≤ b ∧ b < A ∧ ¬ vq_pp c 1 WW A b) ∧ mz_Ex 16 mz_k18 (12, [some (.ref 20), some (.int 1), some (.int (nI A)), some (.int (nI k)), o4, o5], [], w) (some (.int 0), w)) ∨ ((∀ b, k ≤ b → b < A → vq_pp c 1 WW A b) ∧ ∃ (p4 p5 : Option Value), ∀ r, mz_Ex 16 mz_k18 (76, [some (.ref 20), some (.int 1), some (.int (nI A)), some (.int (nI A)), p4, p5], [], w) r → mz_Ex 16 mz_k18 (12, [some (.ref 20), some (.int 1), some (.int (nI A)), some (.int (nI k)), o4, o5], [], w) r) := by
  have hWm : WW * WW ≤ 6 * 6 := Nat.mul_le_mul hWW hWW
  intro j
  induction j with
  | zero =>
    intro k hk o4 o5
    rw [show k = A by omega]
    refine Or.inr ⟨fun b h1 h2 => by omega, o4, o5, fun r hr => ?_⟩
    refine mz_go 3 (c' := (if (nI A) ≤ (nI A) then 76 else 17, [some (.ref 20), some (.int 1), some (.int (nI A)), some (.int (nI A)), o4, o5], [], w)) rfl ?_
    refine mz_ifT (show ((nI A) ≤ (nI A)) from (sm_leN rfl rfl (show A ≤ A by omega) (show A < 2 ^ 31 by omega))) ?_
    exact hr
  | succ j ih =>
    intro k hk o4 o5
    have hmz1 : A % WW < WW := Nat.mod_lt _ (by omega)
    have hdz1 : A / WW < WW := vq_divlt (by omega)
    have h9z1 : c (vq_rA 0 WW (A % WW) (A / WW)) (vq_rB 0 WW (A % WW) (A / WW)) ≤ 9 := h9 _ _ (vq_rlt hmz1 hdz1).1 (vq_rlt hmz1 hdz1).2
    have hmz2 : k % WW < WW := Nat.mod_lt _ (by omega)
    have hdz2 : k / WW < WW := vq_divlt (by omega)
    have h9z2 : c (vq_rA 0 WW (k % WW) (k / WW)) (vq_rB 0 WW (k % WW) (k / WW)) ≤ 9 := h9 _ _ (vq_rlt hmz2 hdz2).1 (vq_rlt hmz2 hdz2).2
    by_cases q1 : (c (vq_rA 0 WW (A % WW) (A / WW)) (vq_rB 0 WW (A % WW) (A / WW))) = (c (vq_rA 0 WW (k % WW) (k / WW)) (vq_rB 0 WW (k % WW) (k / WW)))
    · have hmz3 : A % WW < WW := Nat.mod_lt _ (by omega)
      have hdz3 : A / WW < WW := vq_divlt (by omega)
      have h9z3 : c (vq_rA 1 WW (A % WW) (A / WW)) (vq_rB 1 WW (A % WW) (A / WW)) ≤ 9 := h9 _ _ (vq_rlt hmz3 hdz3).1 (vq_rlt hmz3 hdz3).2
      have hmz4 : k % WW < WW := Nat.mod_lt _ (by omega)
      have hdz4 : k / WW < WW := vq_divlt (by omega)
      have h9z4 : c (vq_rA 1 WW (k % WW) (k / WW)) (vq_rB 1 WW (k % WW) (k / WW)) ≤ 9 := h9 _ _ (vq_rlt hmz4 hdz4).1 (vq_rlt hmz4 hdz4).2
      by_cases q2 : (c (vq_rA 1 WW (A % WW) (A / WW)) (vq_rB 1 WW (A % WW) (A / WW))) = (c (vq_rA 1 WW (k % WW) (k / WW)) (vq_rB 1 WW (k % WW) (k / WW)))
      · have hok : vq_pp c 1 WW A k := ⟨fun _ => q2, fun _ => q1⟩
        rcases ih (k + 1) (by omega) (some (.int 1)) (some (.int 1)) with ⟨⟨b, h1, h2, h3⟩, E⟩ | ⟨hall, p4, p5, E⟩
        · refine Or.inl ⟨⟨b, by omega, h2, h3⟩, ?_⟩
          have hr := E
          rw [nI_succ k] at hr
          refine mz_go 3 (c' := (if (nI A) ≤ (nI k) then 76 else 17, [some (.ref 20), some (.int 1), some (.int (nI A)), some (.int (nI k)), o4, o5], [], w)) rfl ?_
          refine mz_ifF (show ¬ ((nI A) ≤ (nI k)) from (sm_nleN rfl rfl (show k < A by omega) (show A < 2 ^ 31 by omega))) ?_
          refine mz_go 3 (c' := (20, [some (.ref 20), some (.int 1), some (.int (nI A)), some (.int (nI k)), o4, o5], [.int 0, .int (nI A), .ref 20], w)) rfl ?_
          refine mz_doQ (R := mz_r19) (as := [.ref 20, .int (nI A), .int 0]) (rest := []) (r1 := some (.int (nI (c (vq_rA 0 WW (A % WW) (A / WW)) (vq_rB 0 WW (A % WW) (A / WW)))))) (m1 := w) mz_t19 mz_v19_20 rfl rfl rfl rfl rfl ((vc_tuc0 hWW h1W h202 h203 hcn h9 (K := A) (I := (A % WW)) (J := (A / WW)) (by omega) hmz1 hdz1 rfl rfl).deep (by decide)) ?_
          refine mz_go 3 (c' := (26, [some (.ref 20), some (.int 1), some (.int (nI A)), some (.int (nI k)), o4, o5], [.int 0, .int (nI k), .ref 20, .int (nI (c (vq_rA 0 WW (A % WW) (A / WW)) (vq_rB 0 WW (A % WW) (A / WW))))], w)) rfl ?_
          refine mz_doQ (R := mz_r19) (as := [.ref 20, .int (nI k), .int 0]) (rest := [.int (nI (c (vq_rA 0 WW (A % WW) (A / WW)) (vq_rB 0 WW (A % WW) (A / WW))))]) (r1 := some (.int (nI (c (vq_rA 0 WW (k % WW) (k / WW)) (vq_rB 0 WW (k % WW) (k / WW)))))) (m1 := w) mz_t19 mz_v19_20 rfl rfl rfl rfl rfl ((vc_tuc0 hWW h1W h202 h203 hcn h9 (K := k) (I := (k % WW)) (J := (k / WW)) (by omega) hmz2 hdz2 rfl rfl).deep (by decide)) ?_
          refine mz_go 1 (c' := (if (nI (c (vq_rA 0 WW (A % WW) (A / WW)) (vq_rB 0 WW (A % WW) (A / WW)))) = (nI (c (vq_rA 0 WW (k % WW) (k / WW)) (vq_rB 0 WW (k % WW) (k / WW)))) then 32 else 36, [some (.ref 20), some (.int 1), some (.int (nI A)), some (.int (nI k)), o4, o5], [], w)) rfl ?_
          refine mz_ifT (show ((nI (c (vq_rA 0 WW (A % WW) (A / WW)) (vq_rB 0 WW (A % WW) (A / WW)))) = (nI (c (vq_rA 0 WW (k % WW) (k / WW)) (vq_rB 0 WW (k % WW) (k / WW))))) from (sm_eqN rfl rfl (show (c (vq_rA 0 WW (A % WW) (A / WW)) (vq_rB 0 WW (A % WW) (A / WW))) = (c (vq_rA 0 WW (k % WW) (k / WW)) (vq_rB 0 WW (k % WW) (k / WW))) by omega))) ?_
          refine mz_go 6 (c' := (42, [some (.ref 20), some (.int 1), some (.int (nI A)), some (.int (nI k)), some (.int 1), o5], [.int 1, .int (nI A), .ref 20], w)) rfl ?_
          refine mz_doQ (R := mz_r19) (as := [.ref 20, .int (nI A), .int 1]) (rest := []) (r1 := some (.int (nI (c (vq_rA 1 WW (A % WW) (A / WW)) (vq_rB 1 WW (A % WW) (A / WW)))))) (m1 := w) mz_t19 mz_v19_20 rfl rfl rfl rfl rfl ((vc_tuc1 hWW h1W h202 h203 hcn h9 (K := A) (I := (A % WW)) (J := (A / WW)) (by omega) hmz3 hdz3 rfl rfl).deep (by decide)) ?_
          refine mz_go 3 (c' := (48, [some (.ref 20), some (.int 1), some (.int (nI A)), some (.int (nI k)), some (.int 1), o5], [.int 1, .int (nI k), .ref 20, .int (nI (c (vq_rA 1 WW (A % WW) (A / WW)) (vq_rB 1 WW (A % WW) (A / WW))))], w)) rfl ?_
          refine mz_doQ (R := mz_r19) (as := [.ref 20, .int (nI k), .int 1]) (rest := [.int (nI (c (vq_rA 1 WW (A % WW) (A / WW)) (vq_rB 1 WW (A % WW) (A / WW))))]) (r1 := some (.int (nI (c (vq_rA 1 WW (k % WW) (k / WW)) (vq_rB 1 WW (k % WW) (k / WW)))))) (m1 := w) mz_t19 mz_v19_20 rfl rfl rfl rfl rfl ((vc_tuc1 hWW h1W h202 h203 hcn h9 (K := k) (I := (k % WW)) (J := (k / WW)) (by omega) hmz4 hdz4 rfl rfl).deep (by decide)) ?_
          refine mz_go 1 (c' := (if (nI (c (vq_rA 1 WW (A % WW) (A / WW)) (vq_rB 1 WW (A % WW) (A / WW)))) = (nI (c (vq_rA 1 WW (k % WW) (k / WW)) (vq_rB 1 WW (k % WW) (k / WW)))) then 54 else 58, [some (.ref 20), some (.int 1), some (.int (nI A)), some (.int (nI k)), some (.int 1), o5], [], w)) rfl ?_
          refine mz_ifT (show ((nI (c (vq_rA 1 WW (A % WW) (A / WW)) (vq_rB 1 WW (A % WW) (A / WW)))) = (nI (c (vq_rA 1 WW (k % WW) (k / WW)) (vq_rB 1 WW (k % WW) (k / WW))))) from (sm_eqN rfl rfl (show (c (vq_rA 1 WW (A % WW) (A / WW)) (vq_rB 1 WW (A % WW) (A / WW))) = (c (vq_rA 1 WW (k % WW) (k / WW)) (vq_rB 1 WW (k % WW) (k / WW))) by omega))) ?_
          refine mz_go 8 (c' := (12, [some (.ref 20), some (.int 1), some (.int (nI A)), some (.int ((nI k) + 1)), some (.int 1), some (.int 1)], [], w)) rfl ?_
          exact hr
        · refine Or.inr ⟨fun b hb1 hb2 => ?_, p4, p5, fun r hr0 => ?_⟩
          · rcases Nat.eq_or_lt_of_le hb1 with e | e
            · rw [← e]
              exact hok
            · exact hall b e hb2
          · have hr := E r hr0
            rw [nI_succ k] at hr
            refine mz_go 3 (c' := (if (nI A) ≤ (nI k) then 76 else 17, [some (.ref 20), some (.int 1), some (.int (nI A)), some (.int (nI k)), o4, o5], [], w)) rfl ?_
            refine mz_ifF (show ¬ ((nI A) ≤ (nI k)) from (sm_nleN rfl rfl (show k < A by omega) (show A < 2 ^ 31 by omega))) ?_
            refine mz_go 3 (c' := (20, [some (.ref 20), some (.int 1), some (.int (nI A)), some (.int (nI k)), o4, o5], [.int 0, .int (nI A), .ref 20], w)) rfl ?_
            refine mz_doQ (R := mz_r19) (as := [.ref 20, .int (nI A), .int 0]) (rest := []) (r1 := some (.int (nI (c (vq_rA 0 WW (A % WW) (A / WW)) (vq_rB 0 WW (A % WW) (A / WW)))))) (m1 := w) mz_t19 mz_v19_20 rfl rfl rfl rfl rfl ((vc_tuc0 hWW h1W h202 h203 hcn h9 (K := A) (I := (A % WW)) (J := (A / WW)) (by omega) hmz1 hdz1 rfl rfl).deep (by decide)) ?_
            refine mz_go 3 (c' := (26, [some (.ref 20), some (.int 1), some (.int (nI A)), some (.int (nI k)), o4, o5], [.int 0, .int (nI k), .ref 20, .int (nI (c (vq_rA 0 WW (A % WW) (A / WW)) (vq_rB 0 WW (A % WW) (A / WW))))], w)) rfl ?_
            refine mz_doQ (R := mz_r19) (as := [.ref 20, .int (nI k), .int 0]) (rest := [.int (nI (c (vq_rA 0 WW (A % WW) (A / WW)) (vq_rB 0 WW (A % WW) (A / WW))))]) (r1 := some (.int (nI (c (vq_rA 0 WW (k % WW) (k / WW)) (vq_rB 0 WW (k % WW) (k / WW)))))) (m1 := w) mz_t19 mz_v19_20 rfl rfl rfl rfl rfl ((vc_tuc0 hWW h1W h202 h203 hcn h9 (K := k) (I := (k % WW)) (J := (k / WW)) (by omega) hmz2 hdz2 rfl rfl).deep (by decide)) ?_
            refine mz_go 1 (c' := (if (nI (c (vq_rA 0 WW (A % WW) (A / WW)) (vq_rB 0 WW (A % WW) (A / WW)))) = (nI (c (vq_rA 0 WW (k % WW) (k / WW)) (vq_rB 0 WW (k % WW) (k / WW)))) then 32 else 36, [some (.ref 20), some (.int 1), some (.int (nI A)), some (.int (nI k)), o4, o5], [], w)) rfl ?_
            refine mz_ifT (show ((nI (c (vq_rA 0 WW (A % WW) (A / WW)) (vq_rB 0 WW (A % WW) (A / WW)))) = (nI (c (vq_rA 0 WW (k % WW) (k / WW)) (vq_rB 0 WW (k % WW) (k / WW))))) from (sm_eqN rfl rfl (show (c (vq_rA 0 WW (A % WW) (A / WW)) (vq_rB 0 WW (A % WW) (A / WW))) = (c (vq_rA 0 WW (k % WW) (k / WW)) (vq_rB 0 WW (k % WW) (k / WW))) by omega))) ?_
            refine mz_go 6 (c' := (42, [some (.ref 20), some (.int 1), some (.int (nI A)), some (.int (nI k)), some (.int 1), o5], [.int 1, .int (nI A), .ref 20], w)) rfl ?_
            refine mz_doQ (R := mz_r19) (as := [.ref 20, .int (nI A), .int 1]) (rest := []) (r1 := some (.int (nI (c (vq_rA 1 WW (A % WW) (A / WW)) (vq_rB 1 WW (A % WW) (A / WW)))))) (m1 := w) mz_t19 mz_v19_20 rfl rfl rfl rfl rfl ((vc_tuc1 hWW h1W h202 h203 hcn h9 (K := A) (I := (A % WW)) (J := (A / WW)) (by omega) hmz3 hdz3 rfl rfl).deep (by decide)) ?_
            refine mz_go 3 (c' := (48, [some (.ref 20), some (.int 1), some (.int (nI A)), some (.int (nI k)), some (.int 1), o5], [.int 1, .int (nI k), .ref 20, .int (nI (c (vq_rA 1 WW (A % WW) (A / WW)) (vq_rB 1 WW (A % WW) (A / WW))))], w)) rfl ?_
            refine mz_doQ (R := mz_r19) (as := [.ref 20, .int (nI k), .int 1]) (rest := [.int (nI (c (vq_rA 1 WW (A % WW) (A / WW)) (vq_rB 1 WW (A % WW) (A / WW))))]) (r1 := some (.int (nI (c (vq_rA 1 WW (k % WW) (k / WW)) (vq_rB 1 WW (k % WW) (k / WW)))))) (m1 := w) mz_t19 mz_v19_20 rfl rfl rfl rfl rfl ((vc_tuc1 hWW h1W h202 h203 hcn h9 (K := k) (I := (k % WW)) (J := (k / WW)) (by omega) hmz4 hdz4 rfl rfl).deep (by decide)) ?_
            refine mz_go 1 (c' := (if (nI (c (vq_rA 1 WW (A % WW) (A / WW)) (vq_rB 1 WW (A % WW) (A / WW)))) = (nI (c (vq_rA 1 WW (k % WW) (k / WW)) (vq_rB 1 WW (k % WW) (k / WW)))) then 54 else 58, [some (.ref 20), some (.int 1), some (.int (nI A)), some (.int (nI k)), some (.int 1), o5], [], w)) rfl ?_
            refine mz_ifT (show ((nI (c (vq_rA 1 WW (A % WW) (A / WW)) (vq_rB 1 WW (A % WW) (A / WW)))) = (nI (c (vq_rA 1 WW (k % WW) (k / WW)) (vq_rB 1 WW (k % WW) (k / WW))))) from (sm_eqN rfl rfl (show (c (vq_rA 1 WW (A % WW) (A / WW)) (vq_rB 1 WW (A % WW) (A / WW))) = (c (vq_rA 1 WW (k % WW) (k / WW)) (vq_rB 1 WW (k % WW) (k / WW))) by omega))) ?_
            refine mz_go 8 (c' := (12, [some (.ref 20), some (.int 1), some (.int (nI A)), some (.int ((nI k) + 1)), some (.int 1), some (.int 1)], [], w)) rfl ?_
            exact hr
      · refine Or.inl ⟨⟨k, Nat.le_refl k, by omega, fun z => q2 (z.mp q1)⟩, ?_⟩
        refine mz_go 3 (c' := (if (nI A) ≤ (nI k) then 76 else 17, [some (.ref 20), some (.int 1), some (.int (nI A)), some (.int (nI k)), o4, o5], [], w)) rfl ?_
        refine mz_ifF (show ¬ ((nI A) ≤ (nI k)) from (sm_nleN rfl rfl (show k < A by omega) (show A < 2 ^ 31 by omega))) ?_
        refine mz_go 3 (c' := (20, [some (.ref 20), some (.int 1), some (.int (nI A)), some (.int (nI k)), o4, o5], [.int 0, .int (nI A), .ref 20], w)) rfl ?_
        refine mz_doQ (R := mz_r19) (as := [.ref 20, .int (nI A), .int 0]) (rest := []) (r1 := some (.int (nI (c (vq_rA 0 WW (A % WW) (A / WW)) (vq_rB 0 WW (A % WW) (A / WW)))))) (m1 := w) mz_t19 mz_v19_20 rfl rfl rfl rfl rfl ((vc_tuc0 hWW h1W h202 h203 hcn h9 (K := A) (I := (A % WW)) (J := (A / WW)) (by omega) hmz1 hdz1 rfl rfl).deep (by decide)) ?_
        refine mz_go 3 (c' := (26, [some (.ref 20), some (.int 1), some (.int (nI A)), some (.int (nI k)), o4, o5], [.int 0, .int (nI k), .ref 20, .int (nI (c (vq_rA 0 WW (A % WW) (A / WW)) (vq_rB 0 WW (A % WW) (A / WW))))], w)) rfl ?_
        refine mz_doQ (R := mz_r19) (as := [.ref 20, .int (nI k), .int 0]) (rest := [.int (nI (c (vq_rA 0 WW (A % WW) (A / WW)) (vq_rB 0 WW (A % WW) (A / WW))))]) (r1 := some (.int (nI (c (vq_rA 0 WW (k % WW) (k / WW)) (vq_rB 0 WW (k % WW) (k / WW)))))) (m1 := w) mz_t19 mz_v19_20 rfl rfl rfl rfl rfl ((vc_tuc0 hWW h1W h202 h203 hcn h9 (K := k) (I := (k % WW)) (J := (k / WW)) (by omega) hmz2 hdz2 rfl rfl).deep (by decide)) ?_
        refine mz_go 1 (c' := (if (nI (c (vq_rA 0 WW (A % WW) (A / WW)) (vq_rB 0 WW (A % WW) (A / WW)))) = (nI (c (vq_rA 0 WW (k % WW) (k / WW)) (vq_rB 0 WW (k % WW) (k / WW)))) then 32 else 36, [some (.ref 20), some (.int 1), some (.int (nI A)), some (.int (nI k)), o4, o5], [], w)) rfl ?_
        refine mz_ifT (show ((nI (c (vq_rA 0 WW (A % WW) (A / WW)) (vq_rB 0 WW (A % WW) (A / WW)))) = (nI (c (vq_rA 0 WW (k % WW) (k / WW)) (vq_rB 0 WW (k % WW) (k / WW))))) from (sm_eqN rfl rfl (show (c (vq_rA 0 WW (A % WW) (A / WW)) (vq_rB 0 WW (A % WW) (A / WW))) = (c (vq_rA 0 WW (k % WW) (k / WW)) (vq_rB 0 WW (k % WW) (k / WW))) by omega))) ?_
        refine mz_go 6 (c' := (42, [some (.ref 20), some (.int 1), some (.int (nI A)), some (.int (nI k)), some (.int 1), o5], [.int 1, .int (nI A), .ref 20], w)) rfl ?_
        refine mz_doQ (R := mz_r19) (as := [.ref 20, .int (nI A), .int 1]) (rest := []) (r1 := some (.int (nI (c (vq_rA 1 WW (A % WW) (A / WW)) (vq_rB 1 WW (A % WW) (A / WW)))))) (m1 := w) mz_t19 mz_v19_20 rfl rfl rfl rfl rfl ((vc_tuc1 hWW h1W h202 h203 hcn h9 (K := A) (I := (A % WW)) (J := (A / WW)) (by omega) hmz3 hdz3 rfl rfl).deep (by decide)) ?_
        refine mz_go 3 (c' := (48, [some (.ref 20), some (.int 1), some (.int (nI A)), some (.int (nI k)), some (.int 1), o5], [.int 1, .int (nI k), .ref 20, .int (nI (c (vq_rA 1 WW (A % WW) (A / WW)) (vq_rB 1 WW (A % WW) (A / WW))))], w)) rfl ?_
        refine mz_doQ (R := mz_r19) (as := [.ref 20, .int (nI k), .int 1]) (rest := [.int (nI (c (vq_rA 1 WW (A % WW) (A / WW)) (vq_rB 1 WW (A % WW) (A / WW))))]) (r1 := some (.int (nI (c (vq_rA 1 WW (k % WW) (k / WW)) (vq_rB 1 WW (k % WW) (k / WW)))))) (m1 := w) mz_t19 mz_v19_20 rfl rfl rfl rfl rfl ((vc_tuc1 hWW h1W h202 h203 hcn h9 (K := k) (I := (k % WW)) (J := (k / WW)) (by omega) hmz4 hdz4 rfl rfl).deep (by decide)) ?_
        refine mz_go 1 (c' := (if (nI (c (vq_rA 1 WW (A % WW) (A / WW)) (vq_rB 1 WW (A % WW) (A / WW)))) = (nI (c (vq_rA 1 WW (k % WW) (k / WW)) (vq_rB 1 WW (k % WW) (k / WW)))) then 54 else 58, [some (.ref 20), some (.int 1), some (.int (nI A)), some (.int (nI k)), some (.int 1), o5], [], w)) rfl ?_
        refine mz_ifF (show ¬ ((nI (c (vq_rA 1 WW (A % WW) (A / WW)) (vq_rB 1 WW (A % WW) (A / WW)))) = (nI (c (vq_rA 1 WW (k % WW) (k / WW)) (vq_rB 1 WW (k % WW) (k / WW))))) from (sm_neN rfl rfl (show (c (vq_rA 1 WW (A % WW) (A / WW)) (vq_rB 1 WW (A % WW) (A / WW))) ≠ (c (vq_rA 1 WW (k % WW) (k / WW)) (vq_rB 1 WW (k % WW) (k / WW))) by omega) (show (c (vq_rA 1 WW (A % WW) (A / WW)) (vq_rB 1 WW (A % WW) (A / WW))) < 2 ^ 31 by omega) (show (c (vq_rA 1 WW (k % WW) (k / WW)) (vq_rB 1 WW (k % WW) (k / WW))) < 2 ^ 31 by omega))) ?_
        refine mz_go 6 (c' := (69, [some (.ref 20), some (.int 1), some (.int (nI A)), some (.int (nI k)), some (.int 1), some (.int 0)], [.int 0], w)) rfl ?_
        exact mz_ret rfl
    · have hmz3 : A % WW < WW := Nat.mod_lt _ (by omega)
      have hdz3 : A / WW < WW := vq_divlt (by omega)
      have h9z3 : c (vq_rA 1 WW (A % WW) (A / WW)) (vq_rB 1 WW (A % WW) (A / WW)) ≤ 9 := h9 _ _ (vq_rlt hmz3 hdz3).1 (vq_rlt hmz3 hdz3).2
      have hmz4 : k % WW < WW := Nat.mod_lt _ (by omega)
      have hdz4 : k / WW < WW := vq_divlt (by omega)
      have h9z4 : c (vq_rA 1 WW (k % WW) (k / WW)) (vq_rB 1 WW (k % WW) (k / WW)) ≤ 9 := h9 _ _ (vq_rlt hmz4 hdz4).1 (vq_rlt hmz4 hdz4).2
      by_cases q3 : (c (vq_rA 1 WW (A % WW) (A / WW)) (vq_rB 1 WW (A % WW) (A / WW))) = (c (vq_rA 1 WW (k % WW) (k / WW)) (vq_rB 1 WW (k % WW) (k / WW)))
      · refine Or.inl ⟨⟨k, Nat.le_refl k, by omega, fun z => q1 (z.mpr q3)⟩, ?_⟩
        refine mz_go 3 (c' := (if (nI A) ≤ (nI k) then 76 else 17, [some (.ref 20), some (.int 1), some (.int (nI A)), some (.int (nI k)), o4, o5], [], w)) rfl ?_
        refine mz_ifF (show ¬ ((nI A) ≤ (nI k)) from (sm_nleN rfl rfl (show k < A by omega) (show A < 2 ^ 31 by omega))) ?_
        refine mz_go 3 (c' := (20, [some (.ref 20), some (.int 1), some (.int (nI A)), some (.int (nI k)), o4, o5], [.int 0, .int (nI A), .ref 20], w)) rfl ?_
        refine mz_doQ (R := mz_r19) (as := [.ref 20, .int (nI A), .int 0]) (rest := []) (r1 := some (.int (nI (c (vq_rA 0 WW (A % WW) (A / WW)) (vq_rB 0 WW (A % WW) (A / WW)))))) (m1 := w) mz_t19 mz_v19_20 rfl rfl rfl rfl rfl ((vc_tuc0 hWW h1W h202 h203 hcn h9 (K := A) (I := (A % WW)) (J := (A / WW)) (by omega) hmz1 hdz1 rfl rfl).deep (by decide)) ?_
        refine mz_go 3 (c' := (26, [some (.ref 20), some (.int 1), some (.int (nI A)), some (.int (nI k)), o4, o5], [.int 0, .int (nI k), .ref 20, .int (nI (c (vq_rA 0 WW (A % WW) (A / WW)) (vq_rB 0 WW (A % WW) (A / WW))))], w)) rfl ?_
        refine mz_doQ (R := mz_r19) (as := [.ref 20, .int (nI k), .int 0]) (rest := [.int (nI (c (vq_rA 0 WW (A % WW) (A / WW)) (vq_rB 0 WW (A % WW) (A / WW))))]) (r1 := some (.int (nI (c (vq_rA 0 WW (k % WW) (k / WW)) (vq_rB 0 WW (k % WW) (k / WW)))))) (m1 := w) mz_t19 mz_v19_20 rfl rfl rfl rfl rfl ((vc_tuc0 hWW h1W h202 h203 hcn h9 (K := k) (I := (k % WW)) (J := (k / WW)) (by omega) hmz2 hdz2 rfl rfl).deep (by decide)) ?_
        refine mz_go 1 (c' := (if (nI (c (vq_rA 0 WW (A % WW) (A / WW)) (vq_rB 0 WW (A % WW) (A / WW)))) = (nI (c (vq_rA 0 WW (k % WW) (k / WW)) (vq_rB 0 WW (k % WW) (k / WW)))) then 32 else 36, [some (.ref 20), some (.int 1), some (.int (nI A)), some (.int (nI k)), o4, o5], [], w)) rfl ?_
        refine mz_ifF (show ¬ ((nI (c (vq_rA 0 WW (A % WW) (A / WW)) (vq_rB 0 WW (A % WW) (A / WW)))) = (nI (c (vq_rA 0 WW (k % WW) (k / WW)) (vq_rB 0 WW (k % WW) (k / WW))))) from (sm_neN rfl rfl (show (c (vq_rA 0 WW (A % WW) (A / WW)) (vq_rB 0 WW (A % WW) (A / WW))) ≠ (c (vq_rA 0 WW (k % WW) (k / WW)) (vq_rB 0 WW (k % WW) (k / WW))) by omega) (show (c (vq_rA 0 WW (A % WW) (A / WW)) (vq_rB 0 WW (A % WW) (A / WW))) < 2 ^ 31 by omega) (show (c (vq_rA 0 WW (k % WW) (k / WW)) (vq_rB 0 WW (k % WW) (k / WW))) < 2 ^ 31 by omega))) ?_
        refine mz_go 5 (c' := (42, [some (.ref 20), some (.int 1), some (.int (nI A)), some (.int (nI k)), some (.int 0), o5], [.int 1, .int (nI A), .ref 20], w)) rfl ?_
        refine mz_doQ (R := mz_r19) (as := [.ref 20, .int (nI A), .int 1]) (rest := []) (r1 := some (.int (nI (c (vq_rA 1 WW (A % WW) (A / WW)) (vq_rB 1 WW (A % WW) (A / WW)))))) (m1 := w) mz_t19 mz_v19_20 rfl rfl rfl rfl rfl ((vc_tuc1 hWW h1W h202 h203 hcn h9 (K := A) (I := (A % WW)) (J := (A / WW)) (by omega) hmz3 hdz3 rfl rfl).deep (by decide)) ?_
        refine mz_go 3 (c' := (48, [some (.ref 20), some (.int 1), some (.int (nI A)), some (.int (nI k)), some (.int 0), o5], [.int 1, .int (nI k), .ref 20, .int (nI (c (vq_rA 1 WW (A % WW) (A / WW)) (vq_rB 1 WW (A % WW) (A / WW))))], w)) rfl ?_
        refine mz_doQ (R := mz_r19) (as := [.ref 20, .int (nI k), .int 1]) (rest := [.int (nI (c (vq_rA 1 WW (A % WW) (A / WW)) (vq_rB 1 WW (A % WW) (A / WW))))]) (r1 := some (.int (nI (c (vq_rA 1 WW (k % WW) (k / WW)) (vq_rB 1 WW (k % WW) (k / WW)))))) (m1 := w) mz_t19 mz_v19_20 rfl rfl rfl rfl rfl ((vc_tuc1 hWW h1W h202 h203 hcn h9 (K := k) (I := (k % WW)) (J := (k / WW)) (by omega) hmz4 hdz4 rfl rfl).deep (by decide)) ?_
        refine mz_go 1 (c' := (if (nI (c (vq_rA 1 WW (A % WW) (A / WW)) (vq_rB 1 WW (A % WW) (A / WW)))) = (nI (c (vq_rA 1 WW (k % WW) (k / WW)) (vq_rB 1 WW (k % WW) (k / WW)))) then 54 else 58, [some (.ref 20), some (.int 1), some (.int (nI A)), some (.int (nI k)), some (.int 0), o5], [], w)) rfl ?_
        refine mz_ifT (show ((nI (c (vq_rA 1 WW (A % WW) (A / WW)) (vq_rB 1 WW (A % WW) (A / WW)))) = (nI (c (vq_rA 1 WW (k % WW) (k / WW)) (vq_rB 1 WW (k % WW) (k / WW))))) from (sm_eqN rfl rfl (show (c (vq_rA 1 WW (A % WW) (A / WW)) (vq_rB 1 WW (A % WW) (A / WW))) = (c (vq_rA 1 WW (k % WW) (k / WW)) (vq_rB 1 WW (k % WW) (k / WW))) by omega))) ?_
        refine mz_go 7 (c' := (69, [some (.ref 20), some (.int 1), some (.int (nI A)), some (.int (nI k)), some (.int 0), some (.int 1)], [.int 0], w)) rfl ?_
        exact mz_ret rfl
      · have hok : vq_pp c 1 WW A k := ⟨fun z => absurd z q1, fun z => absurd z q3⟩
        rcases ih (k + 1) (by omega) (some (.int 0)) (some (.int 0)) with ⟨⟨b, h1, h2, h3⟩, E⟩ | ⟨hall, p4, p5, E⟩
        · refine Or.inl ⟨⟨b, by omega, h2, h3⟩, ?_⟩
          have hr := E
          rw [nI_succ k] at hr
          refine mz_go 3 (c' := (if (nI A) ≤ (nI k) then 76 else 17, [some (.ref 20), some (.int 1), some (.int (nI A)), some (.int (nI k)), o4, o5], [], w)) rfl ?_
          refine mz_ifF (show ¬ ((nI A) ≤ (nI k)) from (sm_nleN rfl rfl (show k < A by omega) (show A < 2 ^ 31 by omega))) ?_
          refine mz_go 3 (c' := (20, [some (.ref 20), some (.int 1), some (.int (nI A)), some (.int (nI k)), o4, o5], [.int 0, .int (nI A), .ref 20], w)) rfl ?_
          refine mz_doQ (R := mz_r19) (as := [.ref 20, .int (nI A), .int 0]) (rest := []) (r1 := some (.int (nI (c (vq_rA 0 WW (A % WW) (A / WW)) (vq_rB 0 WW (A % WW) (A / WW)))))) (m1 := w) mz_t19 mz_v19_20 rfl rfl rfl rfl rfl ((vc_tuc0 hWW h1W h202 h203 hcn h9 (K := A) (I := (A % WW)) (J := (A / WW)) (by omega) hmz1 hdz1 rfl rfl).deep (by decide)) ?_
          refine mz_go 3 (c' := (26, [some (.ref 20), some (.int 1), some (.int (nI A)), some (.int (nI k)), o4, o5], [.int 0, .int (nI k), .ref 20, .int (nI (c (vq_rA 0 WW (A % WW) (A / WW)) (vq_rB 0 WW (A % WW) (A / WW))))], w)) rfl ?_
          refine mz_doQ (R := mz_r19) (as := [.ref 20, .int (nI k), .int 0]) (rest := [.int (nI (c (vq_rA 0 WW (A % WW) (A / WW)) (vq_rB 0 WW (A % WW) (A / WW))))]) (r1 := some (.int (nI (c (vq_rA 0 WW (k % WW) (k / WW)) (vq_rB 0 WW (k % WW) (k / WW)))))) (m1 := w) mz_t19 mz_v19_20 rfl rfl rfl rfl rfl ((vc_tuc0 hWW h1W h202 h203 hcn h9 (K := k) (I := (k % WW)) (J := (k / WW)) (by omega) hmz2 hdz2 rfl rfl).deep (by decide)) ?_
          refine mz_go 1 (c' := (if (nI (c (vq_rA 0 WW (A % WW) (A / WW)) (vq_rB 0 WW (A % WW) (A / WW)))) = (nI (c (vq_rA 0 WW (k % WW) (k / WW)) (vq_rB 0 WW (k % WW) (k / WW)))) then 32 else 36, [some (.ref 20), some (.int 1), some (.int (nI A)), some (.int (nI k)), o4, o5], [], w)) rfl ?_
          refine mz_ifF (show ¬ ((nI (c (vq_rA 0 WW (A % WW) (A / WW)) (vq_rB 0 WW (A % WW) (A / WW)))) = (nI (c (vq_rA 0 WW (k % WW) (k / WW)) (vq_rB 0 WW (k % WW) (k / WW))))) from (sm_neN rfl rfl (show (c (vq_rA 0 WW (A % WW) (A / WW)) (vq_rB 0 WW (A % WW) (A / WW))) ≠ (c (vq_rA 0 WW (k % WW) (k / WW)) (vq_rB 0 WW (k % WW) (k / WW))) by omega) (show (c (vq_rA 0 WW (A % WW) (A / WW)) (vq_rB 0 WW (A % WW) (A / WW))) < 2 ^ 31 by omega) (show (c (vq_rA 0 WW (k % WW) (k / WW)) (vq_rB 0 WW (k % WW) (k / WW))) < 2 ^ 31 by omega))) ?_
          refine mz_go 5 (c' := (42, [some (.ref 20), some (.int 1), some (.int (nI A)), some (.int (nI k)), some (.int 0), o5], [.int 1, .int (nI A), .ref 20], w)) rfl ?_
          refine mz_doQ (R := mz_r19) (as := [.ref 20, .int (nI A), .int 1]) (rest := []) (r1 := some (.int (nI (c (vq_rA 1 WW (A % WW) (A / WW)) (vq_rB 1 WW (A % WW) (A / WW)))))) (m1 := w) mz_t19 mz_v19_20 rfl rfl rfl rfl rfl ((vc_tuc1 hWW h1W h202 h203 hcn h9 (K := A) (I := (A % WW)) (J := (A / WW)) (by omega) hmz3 hdz3 rfl rfl).deep (by decide)) ?_
          refine mz_go 3 (c' := (48, [some (.ref 20), some (.int 1), some (.int (nI A)), some (.int (nI k)), some (.int 0), o5], [.int 1, .int (nI k), .ref 20, .int (nI (c (vq_rA 1 WW (A % WW) (A / WW)) (vq_rB 1 WW (A % WW) (A / WW))))], w)) rfl ?_
          refine mz_doQ (R := mz_r19) (as := [.ref 20, .int (nI k), .int 1]) (rest := [.int (nI (c (vq_rA 1 WW (A % WW) (A / WW)) (vq_rB 1 WW (A % WW) (A / WW))))]) (r1 := some (.int (nI (c (vq_rA 1 WW (k % WW) (k / WW)) (vq_rB 1 WW (k % WW) (k / WW)))))) (m1 := w) mz_t19 mz_v19_20 rfl rfl rfl rfl rfl ((vc_tuc1 hWW h1W h202 h203 hcn h9 (K := k) (I := (k % WW)) (J := (k / WW)) (by omega) hmz4 hdz4 rfl rfl).deep (by decide)) ?_
          refine mz_go 1 (c' := (if (nI (c (vq_rA 1 WW (A % WW) (A / WW)) (vq_rB 1 WW (A % WW) (A / WW)))) = (nI (c (vq_rA 1 WW (k % WW) (k / WW)) (vq_rB 1 WW (k % WW) (k / WW)))) then 54 else 58, [some (.ref 20), some (.int 1), some (.int (nI A)), some (.int (nI k)), some (.int 0), o5], [], w)) rfl ?_
          refine mz_ifF (show ¬ ((nI (c (vq_rA 1 WW (A % WW) (A / WW)) (vq_rB 1 WW (A % WW) (A / WW)))) = (nI (c (vq_rA 1 WW (k % WW) (k / WW)) (vq_rB 1 WW (k % WW) (k / WW))))) from (sm_neN rfl rfl (show (c (vq_rA 1 WW (A % WW) (A / WW)) (vq_rB 1 WW (A % WW) (A / WW))) ≠ (c (vq_rA 1 WW (k % WW) (k / WW)) (vq_rB 1 WW (k % WW) (k / WW))) by omega) (show (c (vq_rA 1 WW (A % WW) (A / WW)) (vq_rB 1 WW (A % WW) (A / WW))) < 2 ^ 31 by omega) (show (c (vq_rA 1 WW (k % WW) (k / WW)) (vq_rB 1 WW (k % WW) (k / WW))) < 2 ^ 31 by omega))) ?_
          refine mz_go 7 (c' := (12, [some (.ref 20), some (.int 1), some (.int (nI A)), some (.int ((nI k) + 1)), some (.int 0), some (.int 0)], [], w)) rfl ?_
          exact hr
        · refine Or.inr ⟨fun b hb1 hb2 => ?_, p4, p5, fun r hr0 => ?_⟩
          · rcases Nat.eq_or_lt_of_le hb1 with e | e
            · rw [← e]
              exact hok
            · exact hall b e hb2
          · have hr := E r hr0
            rw [nI_succ k] at hr
            refine mz_go 3 (c' := (if (nI A) ≤ (nI k) then 76 else 17, [some (.ref 20), some (.int 1), some (.int (nI A)), some (.int (nI k)), o4, o5], [], w)) rfl ?_
            refine mz_ifF (show ¬ ((nI A) ≤ (nI k)) from (sm_nleN rfl rfl (show k < A by omega) (show A < 2 ^ 31 by omega))) ?_
            refine mz_go 3 (c' := (20, [some (.ref 20), some (.int 1), some (.int (nI A)), some (.int (nI k)), o4, o5], [.int 0, .int (nI A), .ref 20], w)) rfl ?_
            refine mz_doQ (R := mz_r19) (as := [.ref 20, .int (nI A), .int 0]) (rest := []) (r1 := some (.int (nI (c (vq_rA 0 WW (A % WW) (A / WW)) (vq_rB 0 WW (A % WW) (A / WW)))))) (m1 := w) mz_t19 mz_v19_20 rfl rfl rfl rfl rfl ((vc_tuc0 hWW h1W h202 h203 hcn h9 (K := A) (I := (A % WW)) (J := (A / WW)) (by omega) hmz1 hdz1 rfl rfl).deep (by decide)) ?_
            refine mz_go 3 (c' := (26, [some (.ref 20), some (.int 1), some (.int (nI A)), some (.int (nI k)), o4, o5], [.int 0, .int (nI k), .ref 20, .int (nI (c (vq_rA 0 WW (A % WW) (A / WW)) (vq_rB 0 WW (A % WW) (A / WW))))], w)) rfl ?_
            refine mz_doQ (R := mz_r19) (as := [.ref 20, .int (nI k), .int 0]) (rest := [.int (nI (c (vq_rA 0 WW (A % WW) (A / WW)) (vq_rB 0 WW (A % WW) (A / WW))))]) (r1 := some (.int (nI (c (vq_rA 0 WW (k % WW) (k / WW)) (vq_rB 0 WW (k % WW) (k / WW)))))) (m1 := w) mz_t19 mz_v19_20 rfl rfl rfl rfl rfl ((vc_tuc0 hWW h1W h202 h203 hcn h9 (K := k) (I := (k % WW)) (J := (k / WW)) (by omega) hmz2 hdz2 rfl rfl).deep (by decide)) ?_
            refine mz_go 1 (c' := (if (nI (c (vq_rA 0 WW (A % WW) (A / WW)) (vq_rB 0 WW (A % WW) (A / WW)))) = (nI (c (vq_rA 0 WW (k % WW) (k / WW)) (vq_rB 0 WW (k % WW) (k / WW)))) then 32 else 36, [some (.ref 20), some (.int 1), some (.int (nI A)), some (.int (nI k)), o4, o5], [], w)) rfl ?_
            refine mz_ifF (show ¬ ((nI (c (vq_rA 0 WW (A % WW) (A / WW)) (vq_rB 0 WW (A % WW) (A / WW)))) = (nI (c (vq_rA 0 WW (k % WW) (k / WW)) (vq_rB 0 WW (k % WW) (k / WW))))) from (sm_neN rfl rfl (show (c (vq_rA 0 WW (A % WW) (A / WW)) (vq_rB 0 WW (A % WW) (A / WW))) ≠ (c (vq_rA 0 WW (k % WW) (k / WW)) (vq_rB 0 WW (k % WW) (k / WW))) by omega) (show (c (vq_rA 0 WW (A % WW) (A / WW)) (vq_rB 0 WW (A % WW) (A / WW))) < 2 ^ 31 by omega) (show (c (vq_rA 0 WW (k % WW) (k / WW)) (vq_rB 0 WW (k % WW) (k / WW))) < 2 ^ 31 by omega))) ?_
            refine mz_go 5 (c' := (42, [some (.ref 20), some (.int 1), some (.int (nI A)), some (.int (nI k)), some (.int 0), o5], [.int 1, .int (nI A), .ref 20], w)) rfl ?_
            refine mz_doQ (R := mz_r19) (as := [.ref 20, .int (nI A), .int 1]) (rest := []) (r1 := some (.int (nI (c (vq_rA 1 WW (A % WW) (A / WW)) (vq_rB 1 WW (A % WW) (A / WW)))))) (m1 := w) mz_t19 mz_v19_20 rfl rfl rfl rfl rfl ((vc_tuc1 hWW h1W h202 h203 hcn h9 (K := A) (I := (A % WW)) (J := (A / WW)) (by omega) hmz3 hdz3 rfl rfl).deep (by decide)) ?_
            refine mz_go 3 (c' := (48, [some (.ref 20), some (.int 1), some (.int (nI A)), some (.int (nI k)), some (.int 0), o5], [.int 1, .int (nI k), .ref 20, .int (nI (c (vq_rA 1 WW (A % WW) (A / WW)) (vq_rB 1 WW (A % WW) (A / WW))))], w)) rfl ?_
            refine mz_doQ (R := mz_r19) (as := [.ref 20, .int (nI k), .int 1]) (rest := [.int (nI (c (vq_rA 1 WW (A % WW) (A / WW)) (vq_rB 1 WW (A % WW) (A / WW))))]) (r1 := some (.int (nI (c (vq_rA 1 WW (k % WW) (k / WW)) (vq_rB 1 WW (k % WW) (k / WW)))))) (m1 := w) mz_t19 mz_v19_20 rfl rfl rfl rfl rfl ((vc_tuc1 hWW h1W h202 h203 hcn h9 (K := k) (I := (k % WW)) (J := (k / WW)) (by omega) hmz4 hdz4 rfl rfl).deep (by decide)) ?_
            refine mz_go 1 (c' := (if (nI (c (vq_rA 1 WW (A % WW) (A / WW)) (vq_rB 1 WW (A % WW) (A / WW)))) = (nI (c (vq_rA 1 WW (k % WW) (k / WW)) (vq_rB 1 WW (k % WW) (k / WW)))) then 54 else 58, [some (.ref 20), some (.int 1), some (.int (nI A)), some (.int (nI k)), some (.int 0), o5], [], w)) rfl ?_
            refine mz_ifF (show ¬ ((nI (c (vq_rA 1 WW (A % WW) (A / WW)) (vq_rB 1 WW (A % WW) (A / WW)))) = (nI (c (vq_rA 1 WW (k % WW) (k / WW)) (vq_rB 1 WW (k % WW) (k / WW))))) from (sm_neN rfl rfl (show (c (vq_rA 1 WW (A % WW) (A / WW)) (vq_rB 1 WW (A % WW) (A / WW))) ≠ (c (vq_rA 1 WW (k % WW) (k / WW)) (vq_rB 1 WW (k % WW) (k / WW))) by omega) (show (c (vq_rA 1 WW (A % WW) (A / WW)) (vq_rB 1 WW (A % WW) (A / WW))) < 2 ^ 31 by omega) (show (c (vq_rA 1 WW (k % WW) (k / WW)) (vq_rB 1 WW (k % WW) (k / WW))) < 2 ^ 31 by omega))) ?_
            refine mz_go 7 (c' := (12, [some (.ref 20), some (.int 1), some (.int (nI A)), some (.int ((nI k) + 1)), some (.int 0), some (.int 0)], [], w)) rfl ?_
            exact hr
set_option maxHeartbeats 4000000 in
set_option maxRecDepth 100000 in
theorem vc_ala1 {w : mz_M} {WW : Nat} (hWW : WW ≤ 6) (h1W : 1 ≤ WW) (h202 : w 20 2 = nI WW) (h203 : w 20 3 = nI WW) {c : Nat → Nat → Nat} (hcn : ∀ i j, i < WW → j < WW → w 21 ((j * 6) + i) = nI (c i j)) (h9 : ∀ i j, i < WW → j < WW → c i j ≤ 9) : ∀ j k : Nat, k + j = WW * WW → ∀ (o3 o4 o5 : Option Value), ((∃ a b, a < WW * WW ∧ b < a ∧ ¬ vq_pp c 1 WW a b) ∧ mz_Ex 16 mz_k18 (2, [some (.ref 20), some (.int 1), some (.int (nI k)), o3, o4, o5], [], w) (some (.int 0), w)) ∨ ((∀ a, k ≤ a → a < WW * WW → ∀ b, b < a → vq_pp c 1 WW a b) ∧ mz_Ex 16 mz_k18 (2, [some (.ref 20), some (.int 1), some (.int (nI k)), o3, o4, o5], [], w) (some (.int 1), w)) := by
  have hWm : WW * WW ≤ 6 * 6 := Nat.mul_le_mul hWW hWW
  intro j
  induction j with
  | zero =>
    intro k hk o3 o4 o5
    rw [show k = WW * WW by omega]
    refine Or.inr ⟨fun a h1 h2 => by omega, ?_⟩
    refine mz_go 2 (c' := (4, [some (.ref 20), some (.int 1), some (.int (nI (WW * WW))), o3, o4, o5], [.ref 20, .int (nI (WW * WW))], w)) rfl ?_
    refine mz_doQ (R := mz_r3) (as := [.ref 20]) (rest := [.int (nI (WW * WW))]) (r1 := some (.int ((nI WW) * (nI WW)))) (m1 := w) mz_t3 mz_v3_20 rfl rfl rfl rfl rfl ⟨?_, rfl⟩ ?_
    · refine mz_go 2 (c' := (4, [some (.ref 20)], [.int (w 20 2)], w)) rfl ?_
      rw [h202]
      refine mz_go 2 (c' := (8, [some (.ref 20)], [.int (w 20 3), .int (nI WW)], w)) rfl ?_
      rw [h203]
      refine mz_go 1 (c' := (9, [some (.ref 20)], [.int ((nI WW) * (nI WW))], w)) rfl ?_
      exact mz_ret rfl
    refine mz_go 1 (c' := (if ((nI WW) * (nI WW)) ≤ (nI (WW * WW)) then 82 else 10, [some (.ref 20), some (.int 1), some (.int (nI (WW * WW))), o3, o4, o5], [], w)) rfl ?_
    refine mz_ifT (show (((nI WW) * (nI WW)) ≤ (nI (WW * WW))) from (sm_leN (sm_mulN rfl rfl) rfl (show (WW * WW) ≤ (WW * WW) by omega) (show (WW * WW) < 2 ^ 31 by omega))) ?_
    refine mz_go 1 (c' := (83, [some (.ref 20), some (.int 1), some (.int (nI (WW * WW))), o3, o4, o5], [.int 1], w)) rfl ?_
    exact mz_ret rfl
  | succ j ih =>
    intro k hk o3 o4 o5
    rcases vc_alb1 hWW h1W h202 h203 hcn h9 (A := k) (by omega) k 0 (by omega) o4 o5 with ⟨⟨b, h1, h2, h3⟩, hin⟩ | ⟨hall, p4, p5, E⟩
    · refine Or.inl ⟨⟨k, b, by omega, h2, h3⟩, ?_⟩
      refine mz_go 2 (c' := (4, [some (.ref 20), some (.int 1), some (.int (nI k)), o3, o4, o5], [.ref 20, .int (nI k)], w)) rfl ?_
      refine mz_doQ (R := mz_r3) (as := [.ref 20]) (rest := [.int (nI k)]) (r1 := some (.int ((nI WW) * (nI WW)))) (m1 := w) mz_t3 mz_v3_20 rfl rfl rfl rfl rfl ⟨?_, rfl⟩ ?_
      · refine mz_go 2 (c' := (4, [some (.ref 20)], [.int (w 20 2)], w)) rfl ?_
        rw [h202]
        refine mz_go 2 (c' := (8, [some (.ref 20)], [.int (w 20 3), .int (nI WW)], w)) rfl ?_
        rw [h203]
        refine mz_go 1 (c' := (9, [some (.ref 20)], [.int ((nI WW) * (nI WW))], w)) rfl ?_
        exact mz_ret rfl
      refine mz_go 1 (c' := (if ((nI WW) * (nI WW)) ≤ (nI k) then 82 else 10, [some (.ref 20), some (.int 1), some (.int (nI k)), o3, o4, o5], [], w)) rfl ?_
      refine mz_ifF (show ¬ (((nI WW) * (nI WW)) ≤ (nI k)) from (sm_nleN (sm_mulN rfl rfl) rfl (show k < (WW * WW) by omega) (show (WW * WW) < 2 ^ 31 by omega))) ?_
      refine mz_go 2 (c' := (12, [some (.ref 20), some (.int 1), some (.int (nI k)), some (.int 0), o4, o5], [], w)) rfl ?_
      exact hin
    · rcases ih (k + 1) (by omega) (some (.int (nI k))) p4 p5 with ⟨⟨a, b, h1, h2, h3⟩, E2⟩ | ⟨hal2, E2⟩
      · refine Or.inl ⟨⟨a, b, h1, h2, h3⟩, ?_⟩
        have hin := E (some (.int 0), w) (by
          have hr := E2
          rw [nI_succ k] at hr
          refine mz_go 2 (c' := (2, [some (.ref 20), some (.int 1), some (.int ((nI k) + 1)), some (.int (nI k)), p4, p5], [], w)) rfl ?_
          exact hr)
        refine mz_go 2 (c' := (4, [some (.ref 20), some (.int 1), some (.int (nI k)), o3, o4, o5], [.ref 20, .int (nI k)], w)) rfl ?_
        refine mz_doQ (R := mz_r3) (as := [.ref 20]) (rest := [.int (nI k)]) (r1 := some (.int ((nI WW) * (nI WW)))) (m1 := w) mz_t3 mz_v3_20 rfl rfl rfl rfl rfl ⟨?_, rfl⟩ ?_
        · refine mz_go 2 (c' := (4, [some (.ref 20)], [.int (w 20 2)], w)) rfl ?_
          rw [h202]
          refine mz_go 2 (c' := (8, [some (.ref 20)], [.int (w 20 3), .int (nI WW)], w)) rfl ?_
          rw [h203]
          refine mz_go 1 (c' := (9, [some (.ref 20)], [.int ((nI WW) * (nI WW))], w)) rfl ?_
          exact mz_ret rfl
        refine mz_go 1 (c' := (if ((nI WW) * (nI WW)) ≤ (nI k) then 82 else 10, [some (.ref 20), some (.int 1), some (.int (nI k)), o3, o4, o5], [], w)) rfl ?_
        refine mz_ifF (show ¬ (((nI WW) * (nI WW)) ≤ (nI k)) from (sm_nleN (sm_mulN rfl rfl) rfl (show k < (WW * WW) by omega) (show (WW * WW) < 2 ^ 31 by omega))) ?_
        refine mz_go 2 (c' := (12, [some (.ref 20), some (.int 1), some (.int (nI k)), some (.int 0), o4, o5], [], w)) rfl ?_
        exact hin
      · refine Or.inr ⟨fun a ha1 ha2 b hb => ?_, ?_⟩
        · rcases Nat.eq_or_lt_of_le ha1 with e | e
          · rw [← e] at hb ⊢
            exact hall b (Nat.zero_le b) hb
          · exact hal2 a e ha2 b hb
        · have hin := E (some (.int 1), w) (by
            have hr := E2
            rw [nI_succ k] at hr
            refine mz_go 2 (c' := (2, [some (.ref 20), some (.int 1), some (.int ((nI k) + 1)), some (.int (nI k)), p4, p5], [], w)) rfl ?_
            exact hr)
          refine mz_go 2 (c' := (4, [some (.ref 20), some (.int 1), some (.int (nI k)), o3, o4, o5], [.ref 20, .int (nI k)], w)) rfl ?_
          refine mz_doQ (R := mz_r3) (as := [.ref 20]) (rest := [.int (nI k)]) (r1 := some (.int ((nI WW) * (nI WW)))) (m1 := w) mz_t3 mz_v3_20 rfl rfl rfl rfl rfl ⟨?_, rfl⟩ ?_
          · refine mz_go 2 (c' := (4, [some (.ref 20)], [.int (w 20 2)], w)) rfl ?_
            rw [h202]
            refine mz_go 2 (c' := (8, [some (.ref 20)], [.int (w 20 3), .int (nI WW)], w)) rfl ?_
            rw [h203]
            refine mz_go 1 (c' := (9, [some (.ref 20)], [.int ((nI WW) * (nI WW))], w)) rfl ?_
            exact mz_ret rfl
          refine mz_go 1 (c' := (if ((nI WW) * (nI WW)) ≤ (nI k) then 82 else 10, [some (.ref 20), some (.int 1), some (.int (nI k)), o3, o4, o5], [], w)) rfl ?_
          refine mz_ifF (show ¬ (((nI WW) * (nI WW)) ≤ (nI k)) from (sm_nleN (sm_mulN rfl rfl) rfl (show k < (WW * WW) by omega) (show (WW * WW) < 2 ^ 31 by omega))) ?_
          refine mz_go 2 (c' := (12, [some (.ref 20), some (.int 1), some (.int (nI k)), some (.int 0), o4, o5], [], w)) rfl ?_
          exact hin
set_option maxHeartbeats 4000000 in
set_option maxRecDepth 100000 in
theorem vc_ali1 {w : mz_M} {WW : Nat} (hWW : WW ≤ 6) (h1W : 1 ≤ WW) (h202 : w 20 2 = nI WW) (h203 : w 20 3 = nI WW) {c : Nat → Nat → Nat} (hcn : ∀ i j, i < WW → j < WW → w 21 ((j * 6) + i) = nI (c i j)) (h9 : ∀ i j, i < WW → j < WW → c i j ≤ 9) : mz_Me 16 mz_r18 [.ref 20, .int 1] w (some (.int (vq_tv c 1 WW))) w := by
  have hWm : WW * WW ≤ 6 * 6 := Nat.mul_le_mul hWW hWW
  refine ⟨?_, by rcases vq_tv01 (c := c) (q := 1) (W := WW) with h | h <;> rw [h] <;> rfl⟩
  rcases vc_ala1 hWW h1W h202 h203 hcn h9 (WW * WW) 0 (by omega) none none none with ⟨⟨a, b, h1, h2, h3⟩, E⟩ | ⟨hall, E⟩
  · rw [vq_tvF (vq_tp2 h1 (by omega) h3)]
    refine mz_go 2 (c' := (2, [some (.ref 20), some (.int 1), some (.int 0), none, none, none], [], w)) rfl ?_
    exact E
  · rw [vq_tvT (vq_tp1 (fun a ha b hb => hall a (Nat.zero_le a) ha b hb))]
    refine mz_go 2 (c' := (2, [some (.ref 20), some (.int 1), some (.int 0), none, none, none], [], w)) rfl ?_
    exact E
set_option maxHeartbeats 4000000 in
set_option maxRecDepth 100000 in
theorem vc_alb2 {w : mz_M} {WW : Nat} (hWW : WW ≤ 6) (h1W : 1 ≤ WW) (h202 : w 20 2 = nI WW) (h203 : w 20 3 = nI WW) {c : Nat → Nat → Nat} (hcn : ∀ i j, i < WW → j < WW → w 21 ((j * 6) + i) = nI (c i j)) (h9 : ∀ i j, i < WW → j < WW → c i j ≤ 9) {A : Nat} (hA : A < WW * WW) : ∀ j k : Nat, k + j = A → ∀ (o4 o5 : Option Value), ((∃ b, k ≤ b ∧ b < A ∧ ¬ vq_pp c 2 WW A b) ∧ mz_Ex 16 mz_k18 (12, [some (.ref 20), some (.int 2), some (.int (nI A)), some (.int (nI k)), o4, o5], [], w) (some (.int 0), w)) ∨ ((∀ b, k ≤ b → b < A → vq_pp c 2 WW A b) ∧ ∃ (p4 p5 : Option Value), ∀ r, mz_Ex 16 mz_k18 (76, [some (.ref 20), some (.int 2), some (.int (nI A)), some (.int (nI A)), p4, p5], [], w) r → mz_Ex 16 mz_k18 (12, [some (.ref 20), some (.int 2), some (.int (nI A)), some (.int (nI k)), o4, o5], [], w) r) := by
  have hWm : WW * WW ≤ 6 * 6 := Nat.mul_le_mul hWW hWW
  intro j
  induction j with
  | zero =>
    intro k hk o4 o5
    rw [show k = A by omega]
    refine Or.inr ⟨fun b h1 h2 => by omega, o4, o5, fun r hr => ?_⟩
    refine mz_go 3 (c' := (if (nI A) ≤ (nI A) then 76 else 17, [some (.ref 20), some (.int 2), some (.int (nI A)), some (.int (nI A)), o4, o5], [], w)) rfl ?_
    refine mz_ifT (show ((nI A) ≤ (nI A)) from (sm_leN rfl rfl (show A ≤ A by omega) (show A < 2 ^ 31 by omega))) ?_
    exact hr
  | succ j ih =>
    intro k hk o4 o5
    have hmz1 : A % WW < WW := Nat.mod_lt _ (by omega)
    have hdz1 : A / WW < WW := vq_divlt (by omega)
    have h9z1 : c (vq_rA 0 WW (A % WW) (A / WW)) (vq_rB 0 WW (A % WW) (A / WW)) ≤ 9 := h9 _ _ (vq_rlt hmz1 hdz1).1 (vq_rlt hmz1 hdz1).2
    have hmz2 : k % WW < WW := Nat.mod_lt _ (by omega)
    have hdz2 : k / WW < WW := vq_divlt (by omega)
    have h9z2 : c (vq_rA 0 WW (k % WW) (k / WW)) (vq_rB 0 WW (k % WW) (k / WW)) ≤ 9 := h9 _ _ (vq_rlt hmz2 hdz2).1 (vq_rlt hmz2 hdz2).2
    by_cases q1 : (c (vq_rA 0 WW (A % WW) (A / WW)) (vq_rB 0 WW (A % WW) (A / WW))) = (c (vq_rA 0 WW (k % WW) (k / WW)) (vq_rB 0 WW (k % WW) (k / WW)))
    · have hmz3 : A % WW < WW := Nat.mod_lt _ (by omega)
      have hdz3 : A / WW < WW := vq_divlt (by omega)
      have h9z3 : c (vq_rA 2 WW (A % WW) (A / WW)) (vq_rB 2 WW (A % WW) (A / WW)) ≤ 9 := h9 _ _ (vq_rlt hmz3 hdz3).1 (vq_rlt hmz3 hdz3).2
      have hmz4 : k % WW < WW := Nat.mod_lt _ (by omega)
      have hdz4 : k / WW < WW := vq_divlt (by omega)
      have h9z4 : c (vq_rA 2 WW (k % WW) (k / WW)) (vq_rB 2 WW (k % WW) (k / WW)) ≤ 9 := h9 _ _ (vq_rlt hmz4 hdz4).1 (vq_rlt hmz4 hdz4).2
      by_cases q2 : (c (vq_rA 2 WW (A % WW) (A / WW)) (vq_rB 2 WW (A % WW) (A / WW))) = (c (vq_rA 2 WW (k % WW) (k / WW)) (vq_rB 2 WW (k % WW) (k / WW)))
      · have hok : vq_pp c 2 WW A k := ⟨fun _ => q2, fun _ => q1⟩
        rcases ih (k + 1) (by omega) (some (.int 1)) (some (.int 1)) with ⟨⟨b, h1, h2, h3⟩, E⟩ | ⟨hall, p4, p5, E⟩
        · refine Or.inl ⟨⟨b, by omega, h2, h3⟩, ?_⟩
          have hr := E
          rw [nI_succ k] at hr
          refine mz_go 3 (c' := (if (nI A) ≤ (nI k) then 76 else 17, [some (.ref 20), some (.int 2), some (.int (nI A)), some (.int (nI k)), o4, o5], [], w)) rfl ?_
          refine mz_ifF (show ¬ ((nI A) ≤ (nI k)) from (sm_nleN rfl rfl (show k < A by omega) (show A < 2 ^ 31 by omega))) ?_
          refine mz_go 3 (c' := (20, [some (.ref 20), some (.int 2), some (.int (nI A)), some (.int (nI k)), o4, o5], [.int 0, .int (nI A), .ref 20], w)) rfl ?_
          refine mz_doQ (R := mz_r19) (as := [.ref 20, .int (nI A), .int 0]) (rest := []) (r1 := some (.int (nI (c (vq_rA 0 WW (A % WW) (A / WW)) (vq_rB 0 WW (A % WW) (A / WW)))))) (m1 := w) mz_t19 mz_v19_20 rfl rfl rfl rfl rfl ((vc_tuc0 hWW h1W h202 h203 hcn h9 (K := A) (I := (A % WW)) (J := (A / WW)) (by omega) hmz1 hdz1 rfl rfl).deep (by decide)) ?_
          refine mz_go 3 (c' := (26, [some (.ref 20), some (.int 2), some (.int (nI A)), some (.int (nI k)), o4, o5], [.int 0, .int (nI k), .ref 20, .int (nI (c (vq_rA 0 WW (A % WW) (A / WW)) (vq_rB 0 WW (A % WW) (A / WW))))], w)) rfl ?_
          refine mz_doQ (R := mz_r19) (as := [.ref 20, .int (nI k), .int 0]) (rest := [.int (nI (c (vq_rA 0 WW (A % WW) (A / WW)) (vq_rB 0 WW (A % WW) (A / WW))))]) (r1 := some (.int (nI (c (vq_rA 0 WW (k % WW) (k / WW)) (vq_rB 0 WW (k % WW) (k / WW)))))) (m1 := w) mz_t19 mz_v19_20 rfl rfl rfl rfl rfl ((vc_tuc0 hWW h1W h202 h203 hcn h9 (K := k) (I := (k % WW)) (J := (k / WW)) (by omega) hmz2 hdz2 rfl rfl).deep (by decide)) ?_
          refine mz_go 1 (c' := (if (nI (c (vq_rA 0 WW (A % WW) (A / WW)) (vq_rB 0 WW (A % WW) (A / WW)))) = (nI (c (vq_rA 0 WW (k % WW) (k / WW)) (vq_rB 0 WW (k % WW) (k / WW)))) then 32 else 36, [some (.ref 20), some (.int 2), some (.int (nI A)), some (.int (nI k)), o4, o5], [], w)) rfl ?_
          refine mz_ifT (show ((nI (c (vq_rA 0 WW (A % WW) (A / WW)) (vq_rB 0 WW (A % WW) (A / WW)))) = (nI (c (vq_rA 0 WW (k % WW) (k / WW)) (vq_rB 0 WW (k % WW) (k / WW))))) from (sm_eqN rfl rfl (show (c (vq_rA 0 WW (A % WW) (A / WW)) (vq_rB 0 WW (A % WW) (A / WW))) = (c (vq_rA 0 WW (k % WW) (k / WW)) (vq_rB 0 WW (k % WW) (k / WW))) by omega))) ?_
          refine mz_go 6 (c' := (42, [some (.ref 20), some (.int 2), some (.int (nI A)), some (.int (nI k)), some (.int 1), o5], [.int 2, .int (nI A), .ref 20], w)) rfl ?_
          refine mz_doQ (R := mz_r19) (as := [.ref 20, .int (nI A), .int 2]) (rest := []) (r1 := some (.int (nI (c (vq_rA 2 WW (A % WW) (A / WW)) (vq_rB 2 WW (A % WW) (A / WW)))))) (m1 := w) mz_t19 mz_v19_20 rfl rfl rfl rfl rfl ((vc_tuc2 hWW h1W h202 h203 hcn h9 (K := A) (I := (A % WW)) (J := (A / WW)) (by omega) hmz3 hdz3 rfl rfl).deep (by decide)) ?_
          refine mz_go 3 (c' := (48, [some (.ref 20), some (.int 2), some (.int (nI A)), some (.int (nI k)), some (.int 1), o5], [.int 2, .int (nI k), .ref 20, .int (nI (c (vq_rA 2 WW (A % WW) (A / WW)) (vq_rB 2 WW (A % WW) (A / WW))))], w)) rfl ?_
          refine mz_doQ (R := mz_r19) (as := [.ref 20, .int (nI k), .int 2]) (rest := [.int (nI (c (vq_rA 2 WW (A % WW) (A / WW)) (vq_rB 2 WW (A % WW) (A / WW))))]) (r1 := some (.int (nI (c (vq_rA 2 WW (k % WW) (k / WW)) (vq_rB 2 WW (k % WW) (k / WW)))))) (m1 := w) mz_t19 mz_v19_20 rfl rfl rfl rfl rfl ((vc_tuc2 hWW h1W h202 h203 hcn h9 (K := k) (I := (k % WW)) (J := (k / WW)) (by omega) hmz4 hdz4 rfl rfl).deep (by decide)) ?_
          refine mz_go 1 (c' := (if (nI (c (vq_rA 2 WW (A % WW) (A / WW)) (vq_rB 2 WW (A % WW) (A / WW)))) = (nI (c (vq_rA 2 WW (k % WW) (k / WW)) (vq_rB 2 WW (k % WW) (k / WW)))) then 54 else 58, [some (.ref 20), some (.int 2), some (.int (nI A)), some (.int (nI k)), some (.int 1), o5], [], w)) rfl ?_
          refine mz_ifT (show ((nI (c (vq_rA 2 WW (A % WW) (A / WW)) (vq_rB 2 WW (A % WW) (A / WW)))) = (nI (c (vq_rA 2 WW (k % WW) (k / WW)) (vq_rB 2 WW (k % WW) (k / WW))))) from (sm_eqN rfl rfl (show (c (vq_rA 2 WW (A % WW) (A / WW)) (vq_rB 2 WW (A % WW) (A / WW))) = (c (vq_rA 2 WW (k % WW) (k / WW)) (vq_rB 2 WW (k % WW) (k / WW))) by omega))) ?_
          refine mz_go 8 (c' := (12, [some (.ref 20), some (.int 2), some (.int (nI A)), some (.int ((nI k) + 1)), some (.int 1), some (.int 1)], [], w)) rfl ?_
          exact hr
        · refine Or.inr ⟨fun b hb1 hb2 => ?_, p4, p5, fun r hr0 => ?_⟩
          · rcases Nat.eq_or_lt_of_le hb1 with e | e
            · rw [← e]
              exact hok
            · exact hall b e hb2
          · have hr := E r hr0
            rw [nI_succ k] at hr
            refine mz_go 3 (c' := (if (nI A) ≤ (nI k) then 76 else 17, [some (.ref 20), some (.int 2), some (.int (nI A)), some (.int (nI k)), o4, o5], [], w)) rfl ?_
            refine mz_ifF (show ¬ ((nI A) ≤ (nI k)) from (sm_nleN rfl rfl (show k < A by omega) (show A < 2 ^ 31 by omega))) ?_
            refine mz_go 3 (c' := (20, [some (.ref 20), some (.int 2), some (.int (nI A)), some (.int (nI k)), o4, o5], [.int 0, .int (nI A), .ref 20], w)) rfl ?_
            refine mz_doQ (R := mz_r19) (as := [.ref 20, .int (nI A), .int 0]) (rest := []) (r1 := some (.int (nI (c (vq_rA 0 WW (A % WW) (A / WW)) (vq_rB 0 WW (A % WW) (A / WW)))))) (m1 := w) mz_t19 mz_v19_20 rfl rfl rfl rfl rfl ((vc_tuc0 hWW h1W h202 h203 hcn h9 (K := A) (I := (A % WW)) (J := (A / WW)) (by omega) hmz1 hdz1 rfl rfl).deep (by decide)) ?_
            refine mz_go 3 (c' := (26, [some (.ref 20), some (.int 2), some (.int (nI A)), some (.int (nI k)), o4, o5], [.int 0, .int (nI k), .ref 20, .int (nI (c (vq_rA 0 WW (A % WW) (A / WW)) (vq_rB 0 WW (A % WW) (A / WW))))], w)) rfl ?_
            refine mz_doQ (R := mz_r19) (as := [.ref 20, .int (nI k), .int 0]) (rest := [.int (nI (c (vq_rA 0 WW (A % WW) (A / WW)) (vq_rB 0 WW (A % WW) (A / WW))))]) (r1 := some (.int (nI (c (vq_rA 0 WW (k % WW) (k / WW)) (vq_rB 0 WW (k % WW) (k / WW)))))) (m1 := w) mz_t19 mz_v19_20 rfl rfl rfl rfl rfl ((vc_tuc0 hWW h1W h202 h203 hcn h9 (K := k) (I := (k % WW)) (J := (k / WW)) (by omega) hmz2 hdz2 rfl rfl).deep (by decide)) ?_
            refine mz_go 1 (c' := (if (nI (c (vq_rA 0 WW (A % WW) (A / WW)) (vq_rB 0 WW (A % WW) (A / WW)))) = (nI (c (vq_rA 0 WW (k % WW) (k / WW)) (vq_rB 0 WW (k % WW) (k / WW)))) then 32 else 36, [some (.ref 20), some (.int 2), some (.int (nI A)), some (.int (nI k)), o4, o5], [], w)) rfl ?_
            refine mz_ifT (show ((nI (c (vq_rA 0 WW (A % WW) (A / WW)) (vq_rB 0 WW (A % WW) (A / WW)))) = (nI (c (vq_rA 0 WW (k % WW) (k / WW)) (vq_rB 0 WW (k % WW) (k / WW))))) from (sm_eqN rfl rfl (show (c (vq_rA 0 WW (A % WW) (A / WW)) (vq_rB 0 WW (A % WW) (A / WW))) = (c (vq_rA 0 WW (k % WW) (k / WW)) (vq_rB 0 WW (k % WW) (k / WW))) by omega))) ?_
            refine mz_go 6 (c' := (42, [some (.ref 20), some (.int 2), some (.int (nI A)), some (.int (nI k)), some (.int 1), o5], [.int 2, .int (nI A), .ref 20], w)) rfl ?_
            refine mz_doQ (R := mz_r19) (as := [.ref 20, .int (nI A), .int 2]) (rest := []) (r1 := some (.int (nI (c (vq_rA 2 WW (A % WW) (A / WW)) (vq_rB 2 WW (A % WW) (A / WW)))))) (m1 := w) mz_t19 mz_v19_20 rfl rfl rfl rfl rfl ((vc_tuc2 hWW h1W h202 h203 hcn h9 (K := A) (I := (A % WW)) (J := (A / WW)) (by omega) hmz3 hdz3 rfl rfl).deep (by decide)) ?_
            refine mz_go 3 (c' := (48, [some (.ref 20), some (.int 2), some (.int (nI A)), some (.int (nI k)), some (.int 1), o5], [.int 2, .int (nI k), .ref 20, .int (nI (c (vq_rA 2 WW (A % WW) (A / WW)) (vq_rB 2 WW (A % WW) (A / WW))))], w)) rfl ?_
            refine mz_doQ (R := mz_r19) (as := [.ref 20, .int (nI k), .int 2]) (rest := [.int (nI (c (vq_rA 2 WW (A % WW) (A / WW)) (vq_rB 2 WW (A % WW) (A / WW))))]) (r1 := some (.int (nI (c (vq_rA 2 WW (k % WW) (k / WW)) (vq_rB 2 WW (k % WW) (k / WW)))))) (m1 := w) mz_t19 mz_v19_20 rfl rfl rfl rfl rfl ((vc_tuc2 hWW h1W h202 h203 hcn h9 (K := k) (I := (k % WW)) (J := (k / WW)) (by omega) hmz4 hdz4 rfl rfl).deep (by decide)) ?_
            refine mz_go 1 (c' := (if (nI (c (vq_rA 2 WW (A % WW) (A / WW)) (vq_rB 2 WW (A % WW) (A / WW)))) = (nI (c (vq_rA 2 WW (k % WW) (k / WW)) (vq_rB 2 WW (k % WW) (k / WW)))) then 54 else 58, [some (.ref 20), some (.int 2), some (.int (nI A)), some (.int (nI k)), some (.int 1), o5], [], w)) rfl ?_
            refine mz_ifT (show ((nI (c (vq_rA 2 WW (A % WW) (A / WW)) (vq_rB 2 WW (A % WW) (A / WW)))) = (nI (c (vq_rA 2 WW (k % WW) (k / WW)) (vq_rB 2 WW (k % WW) (k / WW))))) from (sm_eqN rfl rfl (show (c (vq_rA 2 WW (A % WW) (A / WW)) (vq_rB 2 WW (A % WW) (A / WW))) = (c (vq_rA 2 WW (k % WW) (k / WW)) (vq_rB 2 WW (k % WW) (k / WW))) by omega))) ?_
            refine mz_go 8 (c' := (12, [some (.ref 20), some (.int 2), some (.int (nI A)), some (.int ((nI k) + 1)), some (.int 1), some (.int 1)], [], w)) rfl ?_
            exact hr
      · refine Or.inl ⟨⟨k, Nat.le_refl k, by omega, fun z => q2 (z.mp q1)⟩, ?_⟩
        refine mz_go 3 (c' := (if (nI A) ≤ (nI k) then 76 else 17, [some (.ref 20), some (.int 2), some (.int (nI A)), some (.int (nI k)), o4, o5], [], w)) rfl ?_
        refine mz_ifF (show ¬ ((nI A) ≤ (nI k)) from (sm_nleN rfl rfl (show k < A by omega) (show A < 2 ^ 31 by omega))) ?_
        refine mz_go 3 (c' := (20, [some (.ref 20), some (.int 2), some (.int (nI A)), some (.int (nI k)), o4, o5], [.int 0, .int (nI A), .ref 20], w)) rfl ?_
        refine mz_doQ (R := mz_r19) (as := [.ref 20, .int (nI A), .int 0]) (rest := []) (r1 := some (.int (nI (c (vq_rA 0 WW (A % WW) (A / WW)) (vq_rB 0 WW (A % WW) (A / WW)))))) (m1 := w) mz_t19 mz_v19_20 rfl rfl rfl rfl rfl ((vc_tuc0 hWW h1W h202 h203 hcn h9 (K := A) (I := (A % WW)) (J := (A / WW)) (by omega) hmz1 hdz1 rfl rfl).deep (by decide)) ?_
        refine mz_go 3 (c' := (26, [some (.ref 20), some (.int 2), some (.int (nI A)), some (.int (nI k)), o4, o5], [.int 0, .int (nI k), .ref 20, .int (nI (c (vq_rA 0 WW (A % WW) (A / WW)) (vq_rB 0 WW (A % WW) (A / WW))))], w)) rfl ?_
        refine mz_doQ (R := mz_r19) (as := [.ref 20, .int (nI k), .int 0]) (rest := [.int (nI (c (vq_rA 0 WW (A % WW) (A / WW)) (vq_rB 0 WW (A % WW) (A / WW))))]) (r1 := some (.int (nI (c (vq_rA 0 WW (k % WW) (k / WW)) (vq_rB 0 WW (k % WW) (k / WW)))))) (m1 := w) mz_t19 mz_v19_20 rfl rfl rfl rfl rfl ((vc_tuc0 hWW h1W h202 h203 hcn h9 (K := k) (I := (k % WW)) (J := (k / WW)) (by omega) hmz2 hdz2 rfl rfl).deep (by decide)) ?_
        refine mz_go 1 (c' := (if (nI (c (vq_rA 0 WW (A % WW) (A / WW)) (vq_rB 0 WW (A % WW) (A / WW)))) = (nI (c (vq_rA 0 WW (k % WW) (k / WW)) (vq_rB 0 WW (k % WW) (k / WW)))) then 32 else 36, [some (.ref 20), some (.int 2), some (.int (nI A)), some (.int (nI k)), o4, o5], [], w)) rfl ?_
        refine mz_ifT (show ((nI (c (vq_rA 0 WW (A % WW) (A / WW)) (vq_rB 0 WW (A % WW) (A / WW)))) = (nI (c (vq_rA 0 WW (k % WW) (k / WW)) (vq_rB 0 WW (k % WW) (k / WW))))) from (sm_eqN rfl rfl (show (c (vq_rA 0 WW (A % WW) (A / WW)) (vq_rB 0 WW (A % WW) (A / WW))) = (c (vq_rA 0 WW (k % WW) (k / WW)) (vq_rB 0 WW (k % WW) (k / WW))) by omega))) ?_
        refine mz_go 6 (c' := (42, [some (.ref 20), some (.int 2), some (.int (nI A)), some (.int (nI k)), some (.int 1), o5], [.int 2, .int (nI A), .ref 20], w)) rfl ?_
        refine mz_doQ (R := mz_r19) (as := [.ref 20, .int (nI A), .int 2]) (rest := []) (r1 := some (.int (nI (c (vq_rA 2 WW (A % WW) (A / WW)) (vq_rB 2 WW (A % WW) (A / WW)))))) (m1 := w) mz_t19 mz_v19_20 rfl rfl rfl rfl rfl ((vc_tuc2 hWW h1W h202 h203 hcn h9 (K := A) (I := (A % WW)) (J := (A / WW)) (by omega) hmz3 hdz3 rfl rfl).deep (by decide)) ?_
        refine mz_go 3 (c' := (48, [some (.ref 20), some (.int 2), some (.int (nI A)), some (.int (nI k)), some (.int 1), o5], [.int 2, .int (nI k), .ref 20, .int (nI (c (vq_rA 2 WW (A % WW) (A / WW)) (vq_rB 2 WW (A % WW) (A / WW))))], w)) rfl ?_
        refine mz_doQ (R := mz_r19) (as := [.ref 20, .int (nI k), .int 2]) (rest := [.int (nI (c (vq_rA 2 WW (A % WW) (A / WW)) (vq_rB 2 WW (A % WW) (A / WW))))]) (r1 := some (.int (nI (c (vq_rA 2 WW (k % WW) (k / WW)) (vq_rB 2 WW (k % WW) (k / WW)))))) (m1 := w) mz_t19 mz_v19_20 rfl rfl rfl rfl rfl ((vc_tuc2 hWW h1W h202 h203 hcn h9 (K := k) (I := (k % WW)) (J := (k / WW)) (by omega) hmz4 hdz4 rfl rfl).deep (by decide)) ?_
        refine mz_go 1 (c' := (if (nI (c (vq_rA 2 WW (A % WW) (A / WW)) (vq_rB 2 WW (A % WW) (A / WW)))) = (nI (c (vq_rA 2 WW (k % WW) (k / WW)) (vq_rB 2 WW (k % WW) (k / WW)))) then 54 else 58, [some (.ref 20), some (.int 2), some (.int (nI A)), some (.int (nI k)), some (.int 1), o5], [], w)) rfl ?_
        refine mz_ifF (show ¬ ((nI (c (vq_rA 2 WW (A % WW) (A / WW)) (vq_rB 2 WW (A % WW) (A / WW)))) = (nI (c (vq_rA 2 WW (k % WW) (k / WW)) (vq_rB 2 WW (k % WW) (k / WW))))) from (sm_neN rfl rfl (show (c (vq_rA 2 WW (A % WW) (A / WW)) (vq_rB 2 WW (A % WW) (A / WW))) ≠ (c (vq_rA 2 WW (k % WW) (k / WW)) (vq_rB 2 WW (k % WW) (k / WW))) by omega) (show (c (vq_rA 2 WW (A % WW) (A / WW)) (vq_rB 2 WW (A % WW) (A / WW))) < 2 ^ 31 by omega) (show (c (vq_rA 2 WW (k % WW) (k / WW)) (vq_rB 2 WW (k % WW) (k / WW))) < 2 ^ 31 by omega))) ?_
        refine mz_go 6 (c' := (69, [some (.ref 20), some (.int 2), some (.int (nI A)), some (.int (nI k)), some (.int 1), some (.int 0)], [.int 0], w)) rfl ?_
        exact mz_ret rfl
    · have hmz3 : A % WW < WW := Nat.mod_lt _ (by omega)
      have hdz3 : A / WW < WW := vq_divlt (by omega)
      have h9z3 : c (vq_rA 2 WW (A % WW) (A / WW)) (vq_rB 2 WW (A % WW) (A / WW)) ≤ 9 := h9 _ _ (vq_rlt hmz3 hdz3).1 (vq_rlt hmz3 hdz3).2
      have hmz4 : k % WW < WW := Nat.mod_lt _ (by omega)
      have hdz4 : k / WW < WW := vq_divlt (by omega)
      have h9z4 : c (vq_rA 2 WW (k % WW) (k / WW)) (vq_rB 2 WW (k % WW) (k / WW)) ≤ 9 := h9 _ _ (vq_rlt hmz4 hdz4).1 (vq_rlt hmz4 hdz4).2
      by_cases q3 : (c (vq_rA 2 WW (A % WW) (A / WW)) (vq_rB 2 WW (A % WW) (A / WW))) = (c (vq_rA 2 WW (k % WW) (k / WW)) (vq_rB 2 WW (k % WW) (k / WW)))
      · refine Or.inl ⟨⟨k, Nat.le_refl k, by omega, fun z => q1 (z.mpr q3)⟩, ?_⟩
        refine mz_go 3 (c' := (if (nI A) ≤ (nI k) then 76 else 17, [some (.ref 20), some (.int 2), some (.int (nI A)), some (.int (nI k)), o4, o5], [], w)) rfl ?_
        refine mz_ifF (show ¬ ((nI A) ≤ (nI k)) from (sm_nleN rfl rfl (show k < A by omega) (show A < 2 ^ 31 by omega))) ?_
        refine mz_go 3 (c' := (20, [some (.ref 20), some (.int 2), some (.int (nI A)), some (.int (nI k)), o4, o5], [.int 0, .int (nI A), .ref 20], w)) rfl ?_
        refine mz_doQ (R := mz_r19) (as := [.ref 20, .int (nI A), .int 0]) (rest := []) (r1 := some (.int (nI (c (vq_rA 0 WW (A % WW) (A / WW)) (vq_rB 0 WW (A % WW) (A / WW)))))) (m1 := w) mz_t19 mz_v19_20 rfl rfl rfl rfl rfl ((vc_tuc0 hWW h1W h202 h203 hcn h9 (K := A) (I := (A % WW)) (J := (A / WW)) (by omega) hmz1 hdz1 rfl rfl).deep (by decide)) ?_
        refine mz_go 3 (c' := (26, [some (.ref 20), some (.int 2), some (.int (nI A)), some (.int (nI k)), o4, o5], [.int 0, .int (nI k), .ref 20, .int (nI (c (vq_rA 0 WW (A % WW) (A / WW)) (vq_rB 0 WW (A % WW) (A / WW))))], w)) rfl ?_
        refine mz_doQ (R := mz_r19) (as := [.ref 20, .int (nI k), .int 0]) (rest := [.int (nI (c (vq_rA 0 WW (A % WW) (A / WW)) (vq_rB 0 WW (A % WW) (A / WW))))]) (r1 := some (.int (nI (c (vq_rA 0 WW (k % WW) (k / WW)) (vq_rB 0 WW (k % WW) (k / WW)))))) (m1 := w) mz_t19 mz_v19_20 rfl rfl rfl rfl rfl ((vc_tuc0 hWW h1W h202 h203 hcn h9 (K := k) (I := (k % WW)) (J := (k / WW)) (by omega) hmz2 hdz2 rfl rfl).deep (by decide)) ?_
        refine mz_go 1 (c' := (if (nI (c (vq_rA 0 WW (A % WW) (A / WW)) (vq_rB 0 WW (A % WW) (A / WW)))) = (nI (c (vq_rA 0 WW (k % WW) (k / WW)) (vq_rB 0 WW (k % WW) (k / WW)))) then 32 else 36, [some (.ref 20), some (.int 2), some (.int (nI A)), some (.int (nI k)), o4, o5], [], w)) rfl ?_
        refine mz_ifF (show ¬ ((nI (c (vq_rA 0 WW (A % WW) (A / WW)) (vq_rB 0 WW (A % WW) (A / WW)))) = (nI (c (vq_rA 0 WW (k % WW) (k / WW)) (vq_rB 0 WW (k % WW) (k / WW))))) from (sm_neN rfl rfl (show (c (vq_rA 0 WW (A % WW) (A / WW)) (vq_rB 0 WW (A % WW) (A / WW))) ≠ (c (vq_rA 0 WW (k % WW) (k / WW)) (vq_rB 0 WW (k % WW) (k / WW))) by omega) (show (c (vq_rA 0 WW (A % WW) (A / WW)) (vq_rB 0 WW (A % WW) (A / WW))) < 2 ^ 31 by omega) (show (c (vq_rA 0 WW (k % WW) (k / WW)) (vq_rB 0 WW (k % WW) (k / WW))) < 2 ^ 31 by omega))) ?_
        refine mz_go 5 (c' := (42, [some (.ref 20), some (.int 2), some (.int (nI A)), some (.int (nI k)), some (.int 0), o5], [.int 2, .int (nI A), .ref 20], w)) rfl ?_
        refine mz_doQ (R := mz_r19) (as := [.ref 20, .int (nI A), .int 2]) (rest := []) (r1 := some (.int (nI (c (vq_rA 2 WW (A % WW) (A / WW)) (vq_rB 2 WW (A % WW) (A / WW)))))) (m1 := w) mz_t19 mz_v19_20 rfl rfl rfl rfl rfl ((vc_tuc2 hWW h1W h202 h203 hcn h9 (K := A) (I := (A % WW)) (J := (A / WW)) (by omega) hmz3 hdz3 rfl rfl).deep (by decide)) ?_
        refine mz_go 3 (c' := (48, [some (.ref 20), some (.int 2), some (.int (nI A)), some (.int (nI k)), some (.int 0), o5], [.int 2, .int (nI k), .ref 20, .int (nI (c (vq_rA 2 WW (A % WW) (A / WW)) (vq_rB 2 WW (A % WW) (A / WW))))], w)) rfl ?_
        refine mz_doQ (R := mz_r19) (as := [.ref 20, .int (nI k), .int 2]) (rest := [.int (nI (c (vq_rA 2 WW (A % WW) (A / WW)) (vq_rB 2 WW (A % WW) (A / WW))))]) (r1 := some (.int (nI (c (vq_rA 2 WW (k % WW) (k / WW)) (vq_rB 2 WW (k % WW) (k / WW)))))) (m1 := w) mz_t19 mz_v19_20 rfl rfl rfl rfl rfl ((vc_tuc2 hWW h1W h202 h203 hcn h9 (K := k) (I := (k % WW)) (J := (k / WW)) (by omega) hmz4 hdz4 rfl rfl).deep (by decide)) ?_
        refine mz_go 1 (c' := (if (nI (c (vq_rA 2 WW (A % WW) (A / WW)) (vq_rB 2 WW (A % WW) (A / WW)))) = (nI (c (vq_rA 2 WW (k % WW) (k / WW)) (vq_rB 2 WW (k % WW) (k / WW)))) then 54 else 58, [some (.ref 20), some (.int 2), some (.int (nI A)), some (.int (nI k)), some (.int 0), o5], [], w)) rfl ?_
        refine mz_ifT (show ((nI (c (vq_rA 2 WW (A % WW) (A / WW)) (vq_rB 2 WW (A % WW) (A / WW)))) = (nI (c (vq_rA 2 WW (k % WW) (k / WW)) (vq_rB 2 WW (k % WW) (k / WW))))) from (sm_eqN rfl rfl (show (c (vq_rA 2 WW (A % WW) (A / WW)) (vq_rB 2 WW (A % WW) (A / WW))) = (c (vq_rA 2 WW (k % WW) (k / WW)) (vq_rB 2 WW (k % WW) (k / WW))) by omega))) ?_
        refine mz_go 7 (c' := (69, [some (.ref 20), some (.int 2), some (.int (nI A)), some (.int (nI k)), some (.int 0), some (.int 1)], [.int 0], w)) rfl ?_
        exact mz_ret rfl
      · have hok : vq_pp c 2 WW A k := ⟨fun z => absurd z q1, fun z => absurd z q3⟩
        rcases ih (k + 1) (by omega) (some (.int 0)) (some (.int 0)) with ⟨⟨b, h1, h2, h3⟩, E⟩ | ⟨hall, p4, p5, E⟩
        · refine Or.inl ⟨⟨b, by omega, h2, h3⟩, ?_⟩
          have hr := E
          rw [nI_succ k] at hr
          refine mz_go 3 (c' := (if (nI A) ≤ (nI k) then 76 else 17, [some (.ref 20), some (.int 2), some (.int (nI A)), some (.int (nI k)), o4, o5], [], w)) rfl ?_
          refine mz_ifF (show ¬ ((nI A) ≤ (nI k)) from (sm_nleN rfl rfl (show k < A by omega) (show A < 2 ^ 31 by omega))) ?_
          refine mz_go 3 (c' := (20, [some (.ref 20), some (.int 2), some (.int (nI A)), some (.int (nI k)), o4, o5], [.int 0, .int (nI A), .ref 20], w)) rfl ?_
          refine mz_doQ (R := mz_r19) (as := [.ref 20, .int (nI A), .int 0]) (rest := []) (r1 := some (.int (nI (c (vq_rA 0 WW (A % WW) (A / WW)) (vq_rB 0 WW (A % WW) (A / WW)))))) (m1 := w) mz_t19 mz_v19_20 rfl rfl rfl rfl rfl ((vc_tuc0 hWW h1W h202 h203 hcn h9 (K := A) (I := (A % WW)) (J := (A / WW)) (by omega) hmz1 hdz1 rfl rfl).deep (by decide)) ?_
          refine mz_go 3 (c' := (26, [some (.ref 20), some (.int 2), some (.int (nI A)), some (.int (nI k)), o4, o5], [.int 0, .int (nI k), .ref 20, .int (nI (c (vq_rA 0 WW (A % WW) (A / WW)) (vq_rB 0 WW (A % WW) (A / WW))))], w)) rfl ?_
          refine mz_doQ (R := mz_r19) (as := [.ref 20, .int (nI k), .int 0]) (rest := [.int (nI (c (vq_rA 0 WW (A % WW) (A / WW)) (vq_rB 0 WW (A % WW) (A / WW))))]) (r1 := some (.int (nI (c (vq_rA 0 WW (k % WW) (k / WW)) (vq_rB 0 WW (k % WW) (k / WW)))))) (m1 := w) mz_t19 mz_v19_20 rfl rfl rfl rfl rfl ((vc_tuc0 hWW h1W h202 h203 hcn h9 (K := k) (I := (k % WW)) (J := (k / WW)) (by omega) hmz2 hdz2 rfl rfl).deep (by decide)) ?_
          refine mz_go 1 (c' := (if (nI (c (vq_rA 0 WW (A % WW) (A / WW)) (vq_rB 0 WW (A % WW) (A / WW)))) = (nI (c (vq_rA 0 WW (k % WW) (k / WW)) (vq_rB 0 WW (k % WW) (k / WW)))) then 32 else 36, [some (.ref 20), some (.int 2), some (.int (nI A)), some (.int (nI k)), o4, o5], [], w)) rfl ?_
          refine mz_ifF (show ¬ ((nI (c (vq_rA 0 WW (A % WW) (A / WW)) (vq_rB 0 WW (A % WW) (A / WW)))) = (nI (c (vq_rA 0 WW (k % WW) (k / WW)) (vq_rB 0 WW (k % WW) (k / WW))))) from (sm_neN rfl rfl (show (c (vq_rA 0 WW (A % WW) (A / WW)) (vq_rB 0 WW (A % WW) (A / WW))) ≠ (c (vq_rA 0 WW (k % WW) (k / WW)) (vq_rB 0 WW (k % WW) (k / WW))) by omega) (show (c (vq_rA 0 WW (A % WW) (A / WW)) (vq_rB 0 WW (A % WW) (A / WW))) < 2 ^ 31 by omega) (show (c (vq_rA 0 WW (k % WW) (k / WW)) (vq_rB 0 WW (k % WW) (k / WW))) < 2 ^ 31 by omega))) ?_
          refine mz_go 5 (c' := (42, [some (.ref 20), some (.int 2), some (.int (nI A)), some (.int (nI k)), some (.int 0), o5], [.int 2, .int (nI A), .ref 20], w)) rfl ?_
          refine mz_doQ (R := mz_r19) (as := [.ref 20, .int (nI A), .int 2]) (rest := []) (r1 := some (.int (nI (c (vq_rA 2 WW (A % WW) (A / WW)) (vq_rB 2 WW (A % WW) (A / WW)))))) (m1 := w) mz_t19 mz_v19_20 rfl rfl rfl rfl rfl ((vc_tuc2 hWW h1W h202 h203 hcn h9 (K := A) (I := (A % WW)) (J := (A / WW)) (by omega) hmz3 hdz3 rfl rfl).deep (by decide)) ?_
          refine mz_go 3 (c' := (48, [some (.ref 20), some (.int 2), some (.int (nI A)), some (.int (nI k)), some (.int 0), o5], [.int 2, .int (nI k), .ref 20, .int (nI (c (vq_rA 2 WW (A % WW) (A / WW)) (vq_rB 2 WW (A % WW) (A / WW))))], w)) rfl ?_
          refine mz_doQ (R := mz_r19) (as := [.ref 20, .int (nI k), .int 2]) (rest := [.int (nI (c (vq_rA 2 WW (A % WW) (A / WW)) (vq_rB 2 WW (A % WW) (A / WW))))]) (r1 := some (.int (nI (c (vq_rA 2 WW (k % WW) (k / WW)) (vq_rB 2 WW (k % WW) (k / WW)))))) (m1 := w) mz_t19 mz_v19_20 rfl rfl rfl rfl rfl ((vc_tuc2 hWW h1W h202 h203 hcn h9 (K := k) (I := (k % WW)) (J := (k / WW)) (by omega) hmz4 hdz4 rfl rfl).deep (by decide)) ?_
          refine mz_go 1 (c' := (if (nI (c (vq_rA 2 WW (A % WW) (A / WW)) (vq_rB 2 WW (A % WW) (A / WW)))) = (nI (c (vq_rA 2 WW (k % WW) (k / WW)) (vq_rB 2 WW (k % WW) (k / WW)))) then 54 else 58, [some (.ref 20), some (.int 2), some (.int (nI A)), some (.int (nI k)), some (.int 0), o5], [], w)) rfl ?_
          refine mz_ifF (show ¬ ((nI (c (vq_rA 2 WW (A % WW) (A / WW)) (vq_rB 2 WW (A % WW) (A / WW)))) = (nI (c (vq_rA 2 WW (k % WW) (k / WW)) (vq_rB 2 WW (k % WW) (k / WW))))) from (sm_neN rfl rfl (show (c (vq_rA 2 WW (A % WW) (A / WW)) (vq_rB 2 WW (A % WW) (A / WW))) ≠ (c (vq_rA 2 WW (k % WW) (k / WW)) (vq_rB 2 WW (k % WW) (k / WW))) by omega) (show (c (vq_rA 2 WW (A % WW) (A / WW)) (vq_rB 2 WW (A % WW) (A / WW))) < 2 ^ 31 by omega) (show (c (vq_rA 2 WW (k % WW) (k / WW)) (vq_rB 2 WW (k % WW) (k / WW))) < 2 ^ 31 by omega))) ?_
          refine mz_go 7 (c' := (12, [some (.ref 20), some (.int 2), some (.int (nI A)), some (.int ((nI k) + 1)), some (.int 0), some (.int 0)], [], w)) rfl ?_
          exact hr
        · refine Or.inr ⟨fun b hb1 hb2 => ?_, p4, p5, fun r hr0 => ?_⟩
          · rcases Nat.eq_or_lt_of_le hb1 with e | e
            · rw [← e]
              exact hok
            · exact hall b e hb2
          · have hr := E r hr0
            rw [nI_succ k] at hr
            refine mz_go 3 (c' := (if (nI A) ≤ (nI k) then 76 else 17, [some (.ref 20), some (.int 2), some (.int (nI A)), some (.int (nI k)), o4, o5], [], w)) rfl ?_
            refine mz_ifF (show ¬ ((nI A) ≤ (nI k)) from (sm_nleN rfl rfl (show k < A by omega) (show A < 2 ^ 31 by omega))) ?_
            refine mz_go 3 (c' := (20, [some (.ref 20), some (.int 2), some (.int (nI A)), some (.int (nI k)), o4, o5], [.int 0, .int (nI A), .ref 20], w)) rfl ?_
            refine mz_doQ (R := mz_r19) (as := [.ref 20, .int (nI A), .int 0]) (rest := []) (r1 := some (.int (nI (c (vq_rA 0 WW (A % WW) (A / WW)) (vq_rB 0 WW (A % WW) (A / WW)))))) (m1 := w) mz_t19 mz_v19_20 rfl rfl rfl rfl rfl ((vc_tuc0 hWW h1W h202 h203 hcn h9 (K := A) (I := (A % WW)) (J := (A / WW)) (by omega) hmz1 hdz1 rfl rfl).deep (by decide)) ?_
            refine mz_go 3 (c' := (26, [some (.ref 20), some (.int 2), some (.int (nI A)), some (.int (nI k)), o4, o5], [.int 0, .int (nI k), .ref 20, .int (nI (c (vq_rA 0 WW (A % WW) (A / WW)) (vq_rB 0 WW (A % WW) (A / WW))))], w)) rfl ?_
            refine mz_doQ (R := mz_r19) (as := [.ref 20, .int (nI k), .int 0]) (rest := [.int (nI (c (vq_rA 0 WW (A % WW) (A / WW)) (vq_rB 0 WW (A % WW) (A / WW))))]) (r1 := some (.int (nI (c (vq_rA 0 WW (k % WW) (k / WW)) (vq_rB 0 WW (k % WW) (k / WW)))))) (m1 := w) mz_t19 mz_v19_20 rfl rfl rfl rfl rfl ((vc_tuc0 hWW h1W h202 h203 hcn h9 (K := k) (I := (k % WW)) (J := (k / WW)) (by omega) hmz2 hdz2 rfl rfl).deep (by decide)) ?_
            refine mz_go 1 (c' := (if (nI (c (vq_rA 0 WW (A % WW) (A / WW)) (vq_rB 0 WW (A % WW) (A / WW)))) = (nI (c (vq_rA 0 WW (k % WW) (k / WW)) (vq_rB 0 WW (k % WW) (k / WW)))) then 32 else 36, [some (.ref 20), some (.int 2), some (.int (nI A)), some (.int (nI k)), o4, o5], [], w)) rfl ?_
            refine mz_ifF (show ¬ ((nI (c (vq_rA 0 WW (A % WW) (A / WW)) (vq_rB 0 WW (A % WW) (A / WW)))) = (nI (c (vq_rA 0 WW (k % WW) (k / WW)) (vq_rB 0 WW (k % WW) (k / WW))))) from (sm_neN rfl rfl (show (c (vq_rA 0 WW (A % WW) (A / WW)) (vq_rB 0 WW (A % WW) (A / WW))) ≠ (c (vq_rA 0 WW (k % WW) (k / WW)) (vq_rB 0 WW (k % WW) (k / WW))) by omega) (show (c (vq_rA 0 WW (A % WW) (A / WW)) (vq_rB 0 WW (A % WW) (A / WW))) < 2 ^ 31 by omega) (show (c (vq_rA 0 WW (k % WW) (k / WW)) (vq_rB 0 WW (k % WW) (k / WW))) < 2 ^ 31 by omega))) ?_
            refine mz_go 5 (c' := (42, [some (.ref 20), some (.int 2), some (.int (nI A)), some (.int (nI k)), some (.int 0), o5], [.int 2, .int (nI A), .ref 20], w)) rfl ?_
            refine mz_doQ (R := mz_r19) (as := [.ref 20, .int (nI A), .int 2]) (rest := []) (r1 := some (.int (nI (c (vq_rA 2 WW (A % WW) (A / WW)) (vq_rB 2 WW (A % WW) (A / WW)))))) (m1 := w) mz_t19 mz_v19_20 rfl rfl rfl rfl rfl ((vc_tuc2 hWW h1W h202 h203 hcn h9 (K := A) (I := (A % WW)) (J := (A / WW)) (by omega) hmz3 hdz3 rfl rfl).deep (by decide)) ?_
            refine mz_go 3 (c' := (48, [some (.ref 20), some (.int 2), some (.int (nI A)), some (.int (nI k)), some (.int 0), o5], [.int 2, .int (nI k), .ref 20, .int (nI (c (vq_rA 2 WW (A % WW) (A / WW)) (vq_rB 2 WW (A % WW) (A / WW))))], w)) rfl ?_
            refine mz_doQ (R := mz_r19) (as := [.ref 20, .int (nI k), .int 2]) (rest := [.int (nI (c (vq_rA 2 WW (A % WW) (A / WW)) (vq_rB 2 WW (A % WW) (A / WW))))]) (r1 := some (.int (nI (c (vq_rA 2 WW (k % WW) (k / WW)) (vq_rB 2 WW (k % WW) (k / WW)))))) (m1 := w) mz_t19 mz_v19_20 rfl rfl rfl rfl rfl ((vc_tuc2 hWW h1W h202 h203 hcn h9 (K := k) (I := (k % WW)) (J := (k / WW)) (by omega) hmz4 hdz4 rfl rfl).deep (by decide)) ?_
            refine mz_go 1 (c' := (if (nI (c (vq_rA 2 WW (A % WW) (A / WW)) (vq_rB 2 WW (A % WW) (A / WW)))) = (nI (c (vq_rA 2 WW (k % WW) (k / WW)) (vq_rB 2 WW (k % WW) (k / WW)))) then 54 else 58, [some (.ref 20), some (.int 2), some (.int (nI A)), some (.int (nI k)), some (.int 0), o5], [], w)) rfl ?_
            refine mz_ifF (show ¬ ((nI (c (vq_rA 2 WW (A % WW) (A / WW)) (vq_rB 2 WW (A % WW) (A / WW)))) = (nI (c (vq_rA 2 WW (k % WW) (k / WW)) (vq_rB 2 WW (k % WW) (k / WW))))) from (sm_neN rfl rfl (show (c (vq_rA 2 WW (A % WW) (A / WW)) (vq_rB 2 WW (A % WW) (A / WW))) ≠ (c (vq_rA 2 WW (k % WW) (k / WW)) (vq_rB 2 WW (k % WW) (k / WW))) by omega) (show (c (vq_rA 2 WW (A % WW) (A / WW)) (vq_rB 2 WW (A % WW) (A / WW))) < 2 ^ 31 by omega) (show (c (vq_rA 2 WW (k % WW) (k / WW)) (vq_rB 2 WW (k % WW) (k / WW))) < 2 ^ 31 by omega))) ?_
            refine mz_go 7 (c' := (12, [some (.ref 20), some (.int 2), some (.int (nI A)), some (.int ((nI k) + 1)), some (.int 0), some (.int 0)], [], w)) rfl ?_
            exact hr
set_option maxHeartbeats 4000000 in
set_option maxRecDepth 100000 in
theorem vc_ala2 {w : mz_M} {WW : Nat} (hWW : WW ≤ 6) (h1W : 1 ≤ WW) (h202 : w 20 2 = nI WW) (h203 : w 20 3 = nI WW) {c : Nat → Nat → Nat} (hcn : ∀ i j, i < WW → j < WW → w 21 ((j * 6) + i) = nI (c i j)) (h9 : ∀ i j, i < WW → j < WW → c i j ≤ 9) : ∀ j k : Nat, k + j = WW * WW → ∀ (o3 o4 o5 : Option Value), ((∃ a b, a < WW * WW ∧ b < a ∧ ¬ vq_pp c 2 WW a b) ∧ mz_Ex 16 mz_k18 (2, [some (.ref 20), some (.int 2), some (.int (nI k)), o3, o4, o5], [], w) (some (.int 0), w)) ∨ ((∀ a, k ≤ a → a < WW * WW → ∀ b, b < a → vq_pp c 2 WW a b) ∧ mz_Ex 16 mz_k18 (2, [some (.ref 20), some (.int 2), some (.int (nI k)), o3, o4, o5], [], w) (some (.int 1), w)) := by
  have hWm : WW * WW ≤ 6 * 6 := Nat.mul_le_mul hWW hWW
  intro j
  induction j with
  | zero =>
    intro k hk o3 o4 o5
    rw [show k = WW * WW by omega]
    refine Or.inr ⟨fun a h1 h2 => by omega, ?_⟩
    refine mz_go 2 (c' := (4, [some (.ref 20), some (.int 2), some (.int (nI (WW * WW))), o3, o4, o5], [.ref 20, .int (nI (WW * WW))], w)) rfl ?_
    refine mz_doQ (R := mz_r3) (as := [.ref 20]) (rest := [.int (nI (WW * WW))]) (r1 := some (.int ((nI WW) * (nI WW)))) (m1 := w) mz_t3 mz_v3_20 rfl rfl rfl rfl rfl ⟨?_, rfl⟩ ?_
    · refine mz_go 2 (c' := (4, [some (.ref 20)], [.int (w 20 2)], w)) rfl ?_
      rw [h202]
      refine mz_go 2 (c' := (8, [some (.ref 20)], [.int (w 20 3), .int (nI WW)], w)) rfl ?_
      rw [h203]
      refine mz_go 1 (c' := (9, [some (.ref 20)], [.int ((nI WW) * (nI WW))], w)) rfl ?_
      exact mz_ret rfl
    refine mz_go 1 (c' := (if ((nI WW) * (nI WW)) ≤ (nI (WW * WW)) then 82 else 10, [some (.ref 20), some (.int 2), some (.int (nI (WW * WW))), o3, o4, o5], [], w)) rfl ?_
    refine mz_ifT (show (((nI WW) * (nI WW)) ≤ (nI (WW * WW))) from (sm_leN (sm_mulN rfl rfl) rfl (show (WW * WW) ≤ (WW * WW) by omega) (show (WW * WW) < 2 ^ 31 by omega))) ?_
    refine mz_go 1 (c' := (83, [some (.ref 20), some (.int 2), some (.int (nI (WW * WW))), o3, o4, o5], [.int 1], w)) rfl ?_
    exact mz_ret rfl
  | succ j ih =>
    intro k hk o3 o4 o5
    rcases vc_alb2 hWW h1W h202 h203 hcn h9 (A := k) (by omega) k 0 (by omega) o4 o5 with ⟨⟨b, h1, h2, h3⟩, hin⟩ | ⟨hall, p4, p5, E⟩
    · refine Or.inl ⟨⟨k, b, by omega, h2, h3⟩, ?_⟩
      refine mz_go 2 (c' := (4, [some (.ref 20), some (.int 2), some (.int (nI k)), o3, o4, o5], [.ref 20, .int (nI k)], w)) rfl ?_
      refine mz_doQ (R := mz_r3) (as := [.ref 20]) (rest := [.int (nI k)]) (r1 := some (.int ((nI WW) * (nI WW)))) (m1 := w) mz_t3 mz_v3_20 rfl rfl rfl rfl rfl ⟨?_, rfl⟩ ?_
      · refine mz_go 2 (c' := (4, [some (.ref 20)], [.int (w 20 2)], w)) rfl ?_
        rw [h202]
        refine mz_go 2 (c' := (8, [some (.ref 20)], [.int (w 20 3), .int (nI WW)], w)) rfl ?_
        rw [h203]
        refine mz_go 1 (c' := (9, [some (.ref 20)], [.int ((nI WW) * (nI WW))], w)) rfl ?_
        exact mz_ret rfl
      refine mz_go 1 (c' := (if ((nI WW) * (nI WW)) ≤ (nI k) then 82 else 10, [some (.ref 20), some (.int 2), some (.int (nI k)), o3, o4, o5], [], w)) rfl ?_
      refine mz_ifF (show ¬ (((nI WW) * (nI WW)) ≤ (nI k)) from (sm_nleN (sm_mulN rfl rfl) rfl (show k < (WW * WW) by omega) (show (WW * WW) < 2 ^ 31 by omega))) ?_
      refine mz_go 2 (c' := (12, [some (.ref 20), some (.int 2), some (.int (nI k)), some (.int 0), o4, o5], [], w)) rfl ?_
      exact hin
    · rcases ih (k + 1) (by omega) (some (.int (nI k))) p4 p5 with ⟨⟨a, b, h1, h2, h3⟩, E2⟩ | ⟨hal2, E2⟩
      · refine Or.inl ⟨⟨a, b, h1, h2, h3⟩, ?_⟩
        have hin := E (some (.int 0), w) (by
          have hr := E2
          rw [nI_succ k] at hr
          refine mz_go 2 (c' := (2, [some (.ref 20), some (.int 2), some (.int ((nI k) + 1)), some (.int (nI k)), p4, p5], [], w)) rfl ?_
          exact hr)
        refine mz_go 2 (c' := (4, [some (.ref 20), some (.int 2), some (.int (nI k)), o3, o4, o5], [.ref 20, .int (nI k)], w)) rfl ?_
        refine mz_doQ (R := mz_r3) (as := [.ref 20]) (rest := [.int (nI k)]) (r1 := some (.int ((nI WW) * (nI WW)))) (m1 := w) mz_t3 mz_v3_20 rfl rfl rfl rfl rfl ⟨?_, rfl⟩ ?_
        · refine mz_go 2 (c' := (4, [some (.ref 20)], [.int (w 20 2)], w)) rfl ?_
          rw [h202]
          refine mz_go 2 (c' := (8, [some (.ref 20)], [.int (w 20 3), .int (nI WW)], w)) rfl ?_
          rw [h203]
          refine mz_go 1 (c' := (9, [some (.ref 20)], [.int ((nI WW) * (nI WW))], w)) rfl ?_
          exact mz_ret rfl
        refine mz_go 1 (c' := (if ((nI WW) * (nI WW)) ≤ (nI k) then 82 else 10, [some (.ref 20), some (.int 2), some (.int (nI k)), o3, o4, o5], [], w)) rfl ?_
        refine mz_ifF (show ¬ (((nI WW) * (nI WW)) ≤ (nI k)) from (sm_nleN (sm_mulN rfl rfl) rfl (show k < (WW * WW) by omega) (show (WW * WW) < 2 ^ 31 by omega))) ?_
        refine mz_go 2 (c' := (12, [some (.ref 20), some (.int 2), some (.int (nI k)), some (.int 0), o4, o5], [], w)) rfl ?_
        exact hin
      · refine Or.inr ⟨fun a ha1 ha2 b hb => ?_, ?_⟩
        · rcases Nat.eq_or_lt_of_le ha1 with e | e
          · rw [← e] at hb ⊢
            exact hall b (Nat.zero_le b) hb
          · exact hal2 a e ha2 b hb
        · have hin := E (some (.int 1), w) (by
            have hr := E2
            rw [nI_succ k] at hr
            refine mz_go 2 (c' := (2, [some (.ref 20), some (.int 2), some (.int ((nI k) + 1)), some (.int (nI k)), p4, p5], [], w)) rfl ?_
            exact hr)
          refine mz_go 2 (c' := (4, [some (.ref 20), some (.int 2), some (.int (nI k)), o3, o4, o5], [.ref 20, .int (nI k)], w)) rfl ?_
          refine mz_doQ (R := mz_r3) (as := [.ref 20]) (rest := [.int (nI k)]) (r1 := some (.int ((nI WW) * (nI WW)))) (m1 := w) mz_t3 mz_v3_20 rfl rfl rfl rfl rfl ⟨?_, rfl⟩ ?_
          · refine mz_go 2 (c' := (4, [some (.ref 20)], [.int (w 20 2)], w)) rfl ?_
            rw [h202]
            refine mz_go 2 (c' := (8, [some (.ref 20)], [.int (w 20 3), .int (nI WW)], w)) rfl ?_
            rw [h203]
            refine mz_go 1 (c' := (9, [some (.ref 20)], [.int ((nI WW) * (nI WW))], w)) rfl ?_
            exact mz_ret rfl
          refine mz_go 1 (c' := (if ((nI WW) * (nI WW)) ≤ (nI k) then 82 else 10, [some (.ref 20), some (.int 2), some (.int (nI k)), o3, o4, o5], [], w)) rfl ?_
          refine mz_ifF (show ¬ (((nI WW) * (nI WW)) ≤ (nI k)) from (sm_nleN (sm_mulN rfl rfl) rfl (show k < (WW * WW) by omega) (show (WW * WW) < 2 ^ 31 by omega))) ?_
          refine mz_go 2 (c' := (12, [some (.ref 20), some (.int 2), some (.int (nI k)), some (.int 0), o4, o5], [], w)) rfl ?_
          exact hin
set_option maxHeartbeats 4000000 in
set_option maxRecDepth 100000 in
theorem vc_ali2 {w : mz_M} {WW : Nat} (hWW : WW ≤ 6) (h1W : 1 ≤ WW) (h202 : w 20 2 = nI WW) (h203 : w 20 3 = nI WW) {c : Nat → Nat → Nat} (hcn : ∀ i j, i < WW → j < WW → w 21 ((j * 6) + i) = nI (c i j)) (h9 : ∀ i j, i < WW → j < WW → c i j ≤ 9) : mz_Me 16 mz_r18 [.ref 20, .int 2] w (some (.int (vq_tv c 2 WW))) w := by
  have hWm : WW * WW ≤ 6 * 6 := Nat.mul_le_mul hWW hWW
  refine ⟨?_, by rcases vq_tv01 (c := c) (q := 2) (W := WW) with h | h <;> rw [h] <;> rfl⟩
  rcases vc_ala2 hWW h1W h202 h203 hcn h9 (WW * WW) 0 (by omega) none none none with ⟨⟨a, b, h1, h2, h3⟩, E⟩ | ⟨hall, E⟩
  · rw [vq_tvF (vq_tp2 h1 (by omega) h3)]
    refine mz_go 2 (c' := (2, [some (.ref 20), some (.int 2), some (.int 0), none, none, none], [], w)) rfl ?_
    exact E
  · rw [vq_tvT (vq_tp1 (fun a ha b hb => hall a (Nat.zero_le a) ha b hb))]
    refine mz_go 2 (c' := (2, [some (.ref 20), some (.int 2), some (.int 0), none, none, none], [], w)) rfl ?_
    exact E
set_option maxHeartbeats 4000000 in
set_option maxRecDepth 100000 in
theorem vc_alb3 {w : mz_M} {WW : Nat} (hWW : WW ≤ 6) (h1W : 1 ≤ WW) (h202 : w 20 2 = nI WW) (h203 : w 20 3 = nI WW) {c : Nat → Nat → Nat} (hcn : ∀ i j, i < WW → j < WW → w 21 ((j * 6) + i) = nI (c i j)) (h9 : ∀ i j, i < WW → j < WW → c i j ≤ 9) {A : Nat} (hA : A < WW * WW) : ∀ j k : Nat, k + j = A → ∀ (o4 o5 : Option Value), ((∃ b, k ≤ b ∧ b < A ∧ ¬ vq_pp c 3 WW A b) ∧ mz_Ex 16 mz_k18 (12, [some (.ref 20), some (.int 3), some (.int (nI A)), some (.int (nI k)), o4, o5], [], w) (some (.int 0), w)) ∨ ((∀ b, k ≤ b → b < A → vq_pp c 3 WW A b) ∧ ∃ (p4 p5 : Option Value), ∀ r, mz_Ex 16 mz_k18 (76, [some (.ref 20), some (.int 3), some (.int (nI A)), some (.int (nI A)), p4, p5], [], w) r → mz_Ex 16 mz_k18 (12, [some (.ref 20), some (.int 3), some (.int (nI A)), some (.int (nI k)), o4, o5], [], w) r) := by
  have hWm : WW * WW ≤ 6 * 6 := Nat.mul_le_mul hWW hWW
  intro j
  induction j with
  | zero =>
    intro k hk o4 o5
    rw [show k = A by omega]
    refine Or.inr ⟨fun b h1 h2 => by omega, o4, o5, fun r hr => ?_⟩
    refine mz_go 3 (c' := (if (nI A) ≤ (nI A) then 76 else 17, [some (.ref 20), some (.int 3), some (.int (nI A)), some (.int (nI A)), o4, o5], [], w)) rfl ?_
    refine mz_ifT (show ((nI A) ≤ (nI A)) from (sm_leN rfl rfl (show A ≤ A by omega) (show A < 2 ^ 31 by omega))) ?_
    exact hr
  | succ j ih =>
    intro k hk o4 o5
    have hmz1 : A % WW < WW := Nat.mod_lt _ (by omega)
    have hdz1 : A / WW < WW := vq_divlt (by omega)
    have h9z1 : c (vq_rA 0 WW (A % WW) (A / WW)) (vq_rB 0 WW (A % WW) (A / WW)) ≤ 9 := h9 _ _ (vq_rlt hmz1 hdz1).1 (vq_rlt hmz1 hdz1).2
    have hmz2 : k % WW < WW := Nat.mod_lt _ (by omega)
    have hdz2 : k / WW < WW := vq_divlt (by omega)
    have h9z2 : c (vq_rA 0 WW (k % WW) (k / WW)) (vq_rB 0 WW (k % WW) (k / WW)) ≤ 9 := h9 _ _ (vq_rlt hmz2 hdz2).1 (vq_rlt hmz2 hdz2).2
    by_cases q1 : (c (vq_rA 0 WW (A % WW) (A / WW)) (vq_rB 0 WW (A % WW) (A / WW))) = (c (vq_rA 0 WW (k % WW) (k / WW)) (vq_rB 0 WW (k % WW) (k / WW)))
    · have hmz3 : A % WW < WW := Nat.mod_lt _ (by omega)
      have hdz3 : A / WW < WW := vq_divlt (by omega)
      have h9z3 : c (vq_rA 3 WW (A % WW) (A / WW)) (vq_rB 3 WW (A % WW) (A / WW)) ≤ 9 := h9 _ _ (vq_rlt hmz3 hdz3).1 (vq_rlt hmz3 hdz3).2
      have hmz4 : k % WW < WW := Nat.mod_lt _ (by omega)
      have hdz4 : k / WW < WW := vq_divlt (by omega)
      have h9z4 : c (vq_rA 3 WW (k % WW) (k / WW)) (vq_rB 3 WW (k % WW) (k / WW)) ≤ 9 := h9 _ _ (vq_rlt hmz4 hdz4).1 (vq_rlt hmz4 hdz4).2
      by_cases q2 : (c (vq_rA 3 WW (A % WW) (A / WW)) (vq_rB 3 WW (A % WW) (A / WW))) = (c (vq_rA 3 WW (k % WW) (k / WW)) (vq_rB 3 WW (k % WW) (k / WW)))
      · have hok : vq_pp c 3 WW A k := ⟨fun _ => q2, fun _ => q1⟩
        rcases ih (k + 1) (by omega) (some (.int 1)) (some (.int 1)) with ⟨⟨b, h1, h2, h3⟩, E⟩ | ⟨hall, p4, p5, E⟩
        · refine Or.inl ⟨⟨b, by omega, h2, h3⟩, ?_⟩
          have hr := E
          rw [nI_succ k] at hr
          refine mz_go 3 (c' := (if (nI A) ≤ (nI k) then 76 else 17, [some (.ref 20), some (.int 3), some (.int (nI A)), some (.int (nI k)), o4, o5], [], w)) rfl ?_
          refine mz_ifF (show ¬ ((nI A) ≤ (nI k)) from (sm_nleN rfl rfl (show k < A by omega) (show A < 2 ^ 31 by omega))) ?_
          refine mz_go 3 (c' := (20, [some (.ref 20), some (.int 3), some (.int (nI A)), some (.int (nI k)), o4, o5], [.int 0, .int (nI A), .ref 20], w)) rfl ?_
          refine mz_doQ (R := mz_r19) (as := [.ref 20, .int (nI A), .int 0]) (rest := []) (r1 := some (.int (nI (c (vq_rA 0 WW (A % WW) (A / WW)) (vq_rB 0 WW (A % WW) (A / WW)))))) (m1 := w) mz_t19 mz_v19_20 rfl rfl rfl rfl rfl ((vc_tuc0 hWW h1W h202 h203 hcn h9 (K := A) (I := (A % WW)) (J := (A / WW)) (by omega) hmz1 hdz1 rfl rfl).deep (by decide)) ?_
          refine mz_go 3 (c' := (26, [some (.ref 20), some (.int 3), some (.int (nI A)), some (.int (nI k)), o4, o5], [.int 0, .int (nI k), .ref 20, .int (nI (c (vq_rA 0 WW (A % WW) (A / WW)) (vq_rB 0 WW (A % WW) (A / WW))))], w)) rfl ?_
          refine mz_doQ (R := mz_r19) (as := [.ref 20, .int (nI k), .int 0]) (rest := [.int (nI (c (vq_rA 0 WW (A % WW) (A / WW)) (vq_rB 0 WW (A % WW) (A / WW))))]) (r1 := some (.int (nI (c (vq_rA 0 WW (k % WW) (k / WW)) (vq_rB 0 WW (k % WW) (k / WW)))))) (m1 := w) mz_t19 mz_v19_20 rfl rfl rfl rfl rfl ((vc_tuc0 hWW h1W h202 h203 hcn h9 (K := k) (I := (k % WW)) (J := (k / WW)) (by omega) hmz2 hdz2 rfl rfl).deep (by decide)) ?_
          refine mz_go 1 (c' := (if (nI (c (vq_rA 0 WW (A % WW) (A / WW)) (vq_rB 0 WW (A % WW) (A / WW)))) = (nI (c (vq_rA 0 WW (k % WW) (k / WW)) (vq_rB 0 WW (k % WW) (k / WW)))) then 32 else 36, [some (.ref 20), some (.int 3), some (.int (nI A)), some (.int (nI k)), o4, o5], [], w)) rfl ?_
          refine mz_ifT (show ((nI (c (vq_rA 0 WW (A % WW) (A / WW)) (vq_rB 0 WW (A % WW) (A / WW)))) = (nI (c (vq_rA 0 WW (k % WW) (k / WW)) (vq_rB 0 WW (k % WW) (k / WW))))) from (sm_eqN rfl rfl (show (c (vq_rA 0 WW (A % WW) (A / WW)) (vq_rB 0 WW (A % WW) (A / WW))) = (c (vq_rA 0 WW (k % WW) (k / WW)) (vq_rB 0 WW (k % WW) (k / WW))) by omega))) ?_
          refine mz_go 6 (c' := (42, [some (.ref 20), some (.int 3), some (.int (nI A)), some (.int (nI k)), some (.int 1), o5], [.int 3, .int (nI A), .ref 20], w)) rfl ?_
          refine mz_doQ (R := mz_r19) (as := [.ref 20, .int (nI A), .int 3]) (rest := []) (r1 := some (.int (nI (c (vq_rA 3 WW (A % WW) (A / WW)) (vq_rB 3 WW (A % WW) (A / WW)))))) (m1 := w) mz_t19 mz_v19_20 rfl rfl rfl rfl rfl ((vc_tuc3 hWW h1W h202 h203 hcn h9 (K := A) (I := (A % WW)) (J := (A / WW)) (by omega) hmz3 hdz3 rfl rfl).deep (by decide)) ?_
          refine mz_go 3 (c' := (48, [some (.ref 20), some (.int 3), some (.int (nI A)), some (.int (nI k)), some (.int 1), o5], [.int 3, .int (nI k), .ref 20, .int (nI (c (vq_rA 3 WW (A % WW) (A / WW)) (vq_rB 3 WW (A % WW) (A / WW))))], w)) rfl ?_
          refine mz_doQ (R := mz_r19) (as := [.ref 20, .int (nI k), .int 3]) (rest := [.int (nI (c (vq_rA 3 WW (A % WW) (A / WW)) (vq_rB 3 WW (A % WW) (A / WW))))]) (r1 := some (.int (nI (c (vq_rA 3 WW (k % WW) (k / WW)) (vq_rB 3 WW (k % WW) (k / WW)))))) (m1 := w) mz_t19 mz_v19_20 rfl rfl rfl rfl rfl ((vc_tuc3 hWW h1W h202 h203 hcn h9 (K := k) (I := (k % WW)) (J := (k / WW)) (by omega) hmz4 hdz4 rfl rfl).deep (by decide)) ?_
          refine mz_go 1 (c' := (if (nI (c (vq_rA 3 WW (A % WW) (A / WW)) (vq_rB 3 WW (A % WW) (A / WW)))) = (nI (c (vq_rA 3 WW (k % WW) (k / WW)) (vq_rB 3 WW (k % WW) (k / WW)))) then 54 else 58, [some (.ref 20), some (.int 3), some (.int (nI A)), some (.int (nI k)), some (.int 1), o5], [], w)) rfl ?_
          refine mz_ifT (show ((nI (c (vq_rA 3 WW (A % WW) (A / WW)) (vq_rB 3 WW (A % WW) (A / WW)))) = (nI (c (vq_rA 3 WW (k % WW) (k / WW)) (vq_rB 3 WW (k % WW) (k / WW))))) from (sm_eqN rfl rfl (show (c (vq_rA 3 WW (A % WW) (A / WW)) (vq_rB 3 WW (A % WW) (A / WW))) = (c (vq_rA 3 WW (k % WW) (k / WW)) (vq_rB 3 WW (k % WW) (k / WW))) by omega))) ?_
          refine mz_go 8 (c' := (12, [some (.ref 20), some (.int 3), some (.int (nI A)), some (.int ((nI k) + 1)), some (.int 1), some (.int 1)], [], w)) rfl ?_
          exact hr
        · refine Or.inr ⟨fun b hb1 hb2 => ?_, p4, p5, fun r hr0 => ?_⟩
          · rcases Nat.eq_or_lt_of_le hb1 with e | e
            · rw [← e]
              exact hok
            · exact hall b e hb2
          · have hr := E r hr0
            rw [nI_succ k] at hr
            refine mz_go 3 (c' := (if (nI A) ≤ (nI k) then 76 else 17, [some (.ref 20), some (.int 3), some (.int (nI A)), some (.int (nI k)), o4, o5], [], w)) rfl ?_
            refine mz_ifF (show ¬ ((nI A) ≤ (nI k)) from (sm_nleN rfl rfl (show k < A by omega) (show A < 2 ^ 31 by omega))) ?_
            refine mz_go 3 (c' := (20, [some (.ref 20), some (.int 3), some (.int (nI A)), some (.int (nI k)), o4, o5], [.int 0, .int (nI A), .ref 20], w)) rfl ?_
            refine mz_doQ (R := mz_r19) (as := [.ref 20, .int (nI A), .int 0]) (rest := []) (r1 := some (.int (nI (c (vq_rA 0 WW (A % WW) (A / WW)) (vq_rB 0 WW (A % WW) (A / WW)))))) (m1 := w) mz_t19 mz_v19_20 rfl rfl rfl rfl rfl ((vc_tuc0 hWW h1W h202 h203 hcn h9 (K := A) (I := (A % WW)) (J := (A / WW)) (by omega) hmz1 hdz1 rfl rfl).deep (by decide)) ?_
            refine mz_go 3 (c' := (26, [some (.ref 20), some (.int 3), some (.int (nI A)), some (.int (nI k)), o4, o5], [.int 0, .int (nI k), .ref 20, .int (nI (c (vq_rA 0 WW (A % WW) (A / WW)) (vq_rB 0 WW (A % WW) (A / WW))))], w)) rfl ?_
            refine mz_doQ (R := mz_r19) (as := [.ref 20, .int (nI k), .int 0]) (rest := [.int (nI (c (vq_rA 0 WW (A % WW) (A / WW)) (vq_rB 0 WW (A % WW) (A / WW))))]) (r1 := some (.int (nI (c (vq_rA 0 WW (k % WW) (k / WW)) (vq_rB 0 WW (k % WW) (k / WW)))))) (m1 := w) mz_t19 mz_v19_20 rfl rfl rfl rfl rfl ((vc_tuc0 hWW h1W h202 h203 hcn h9 (K := k) (I := (k % WW)) (J := (k / WW)) (by omega) hmz2 hdz2 rfl rfl).deep (by decide)) ?_
            refine mz_go 1 (c' := (if (nI (c (vq_rA 0 WW (A % WW) (A / WW)) (vq_rB 0 WW (A % WW) (A / WW)))) = (nI (c (vq_rA 0 WW (k % WW) (k / WW)) (vq_rB 0 WW (k % WW) (k / WW)))) then 32 else 36, [some (.ref 20), some (.int 3), some (.int (nI A)), some (.int (nI k)), o4, o5], [], w)) rfl ?_
            refine mz_ifT (show ((nI (c (vq_rA 0 WW (A % WW) (A / WW)) (vq_rB 0 WW (A % WW) (A / WW)))) = (nI (c (vq_rA 0 WW (k % WW) (k / WW)) (vq_rB 0 WW (k % WW) (k / WW))))) from (sm_eqN rfl rfl (show (c (vq_rA 0 WW (A % WW) (A / WW)) (vq_rB 0 WW (A % WW) (A / WW))) = (c (vq_rA 0 WW (k % WW) (k / WW)) (vq_rB 0 WW (k % WW) (k / WW))) by omega))) ?_
            refine mz_go 6 (c' := (42, [some (.ref 20), some (.int 3), some (.int (nI A)), some (.int (nI k)), some (.int 1), o5], [.int 3, .int (nI A), .ref 20], w)) rfl ?_
            refine mz_doQ (R := mz_r19) (as := [.ref 20, .int (nI A), .int 3]) (rest := []) (r1 := some (.int (nI (c (vq_rA 3 WW (A % WW) (A / WW)) (vq_rB 3 WW (A % WW) (A / WW)))))) (m1 := w) mz_t19 mz_v19_20 rfl rfl rfl rfl rfl ((vc_tuc3 hWW h1W h202 h203 hcn h9 (K := A) (I := (A % WW)) (J := (A / WW)) (by omega) hmz3 hdz3 rfl rfl).deep (by decide)) ?_
            refine mz_go 3 (c' := (48, [some (.ref 20), some (.int 3), some (.int (nI A)), some (.int (nI k)), some (.int 1), o5], [.int 3, .int (nI k), .ref 20, .int (nI (c (vq_rA 3 WW (A % WW) (A / WW)) (vq_rB 3 WW (A % WW) (A / WW))))], w)) rfl ?_
            refine mz_doQ (R := mz_r19) (as := [.ref 20, .int (nI k), .int 3]) (rest := [.int (nI (c (vq_rA 3 WW (A % WW) (A / WW)) (vq_rB 3 WW (A % WW) (A / WW))))]) (r1 := some (.int (nI (c (vq_rA 3 WW (k % WW) (k / WW)) (vq_rB 3 WW (k % WW) (k / WW)))))) (m1 := w) mz_t19 mz_v19_20 rfl rfl rfl rfl rfl ((vc_tuc3 hWW h1W h202 h203 hcn h9 (K := k) (I := (k % WW)) (J := (k / WW)) (by omega) hmz4 hdz4 rfl rfl).deep (by decide)) ?_
            refine mz_go 1 (c' := (if (nI (c (vq_rA 3 WW (A % WW) (A / WW)) (vq_rB 3 WW (A % WW) (A / WW)))) = (nI (c (vq_rA 3 WW (k % WW) (k / WW)) (vq_rB 3 WW (k % WW) (k / WW)))) then 54 else 58, [some (.ref 20), some (.int 3), some (.int (nI A)), some (.int (nI k)), some (.int 1), o5], [], w)) rfl ?_
            refine mz_ifT (show ((nI (c (vq_rA 3 WW (A % WW) (A / WW)) (vq_rB 3 WW (A % WW) (A / WW)))) = (nI (c (vq_rA 3 WW (k % WW) (k / WW)) (vq_rB 3 WW (k % WW) (k / WW))))) from (sm_eqN rfl rfl (show (c (vq_rA 3 WW (A % WW) (A / WW)) (vq_rB 3 WW (A % WW) (A / WW))) = (c (vq_rA 3 WW (k % WW) (k / WW)) (vq_rB 3 WW (k % WW) (k / WW))) by omega))) ?_
            refine mz_go 8 (c' := (12, [some (.ref 20), some (.int 3), some (.int (nI A)), some (.int ((nI k) + 1)), some (.int 1), some (.int 1)], [], w)) rfl ?_
            exact hr
      · refine Or.inl ⟨⟨k, Nat.le_refl k, by omega, fun z => q2 (z.mp q1)⟩, ?_⟩
        refine mz_go 3 (c' := (if (nI A) ≤ (nI k) then 76 else 17, [some (.ref 20), some (.int 3), some (.int (nI A)), some (.int (nI k)), o4, o5], [], w)) rfl ?_
        refine mz_ifF (show ¬ ((nI A) ≤ (nI k)) from (sm_nleN rfl rfl (show k < A by omega) (show A < 2 ^ 31 by omega))) ?_
        refine mz_go 3 (c' := (20, [some (.ref 20), some (.int 3), some (.int (nI A)), some (.int (nI k)), o4, o5], [.int 0, .int (nI A), .ref 20], w)) rfl ?_
        refine mz_doQ (R := mz_r19) (as := [.ref 20, .int (nI A), .int 0]) (rest := []) (r1 := some (.int (nI (c (vq_rA 0 WW (A % WW) (A / WW)) (vq_rB 0 WW (A % WW) (A / WW)))))) (m1 := w) mz_t19 mz_v19_20 rfl rfl rfl rfl rfl ((vc_tuc0 hWW h1W h202 h203 hcn h9 (K := A) (I := (A % WW)) (J := (A / WW)) (by omega) hmz1 hdz1 rfl rfl).deep (by decide)) ?_
        refine mz_go 3 (c' := (26, [some (.ref 20), some (.int 3), some (.int (nI A)), some (.int (nI k)), o4, o5], [.int 0, .int (nI k), .ref 20, .int (nI (c (vq_rA 0 WW (A % WW) (A / WW)) (vq_rB 0 WW (A % WW) (A / WW))))], w)) rfl ?_
        refine mz_doQ (R := mz_r19) (as := [.ref 20, .int (nI k), .int 0]) (rest := [.int (nI (c (vq_rA 0 WW (A % WW) (A / WW)) (vq_rB 0 WW (A % WW) (A / WW))))]) (r1 := some (.int (nI (c (vq_rA 0 WW (k % WW) (k / WW)) (vq_rB 0 WW (k % WW) (k / WW)))))) (m1 := w) mz_t19 mz_v19_20 rfl rfl rfl rfl rfl ((vc_tuc0 hWW h1W h202 h203 hcn h9 (K := k) (I := (k % WW)) (J := (k / WW)) (by omega) hmz2 hdz2 rfl rfl).deep (by decide)) ?_
        refine mz_go 1 (c' := (if (nI (c (vq_rA 0 WW (A % WW) (A / WW)) (vq_rB 0 WW (A % WW) (A / WW)))) = (nI (c (vq_rA 0 WW (k % WW) (k / WW)) (vq_rB 0 WW (k % WW) (k / WW)))) then 32 else 36, [some (.ref 20), some (.int 3), some (.int (nI A)), some (.int (nI k)), o4, o5], [], w)) rfl ?_
        refine mz_ifT (show ((nI (c (vq_rA 0 WW (A % WW) (A / WW)) (vq_rB 0 WW (A % WW) (A / WW)))) = (nI (c (vq_rA 0 WW (k % WW) (k / WW)) (vq_rB 0 WW (k % WW) (k / WW))))) from (sm_eqN rfl rfl (show (c (vq_rA 0 WW (A % WW) (A / WW)) (vq_rB 0 WW (A % WW) (A / WW))) = (c (vq_rA 0 WW (k % WW) (k / WW)) (vq_rB 0 WW (k % WW) (k / WW))) by omega))) ?_
        refine mz_go 6 (c' := (42, [some (.ref 20), some (.int 3), some (.int (nI A)), some (.int (nI k)), some (.int 1), o5], [.int 3, .int (nI A), .ref 20], w)) rfl ?_
        refine mz_doQ (R := mz_r19) (as := [.ref 20, .int (nI A), .int 3]) (rest := []) (r1 := some (.int (nI (c (vq_rA 3 WW (A % WW) (A / WW)) (vq_rB 3 WW (A % WW) (A / WW)))))) (m1 := w) mz_t19 mz_v19_20 rfl rfl rfl rfl rfl ((vc_tuc3 hWW h1W h202 h203 hcn h9 (K := A) (I := (A % WW)) (J := (A / WW)) (by omega) hmz3 hdz3 rfl rfl).deep (by decide)) ?_
        refine mz_go 3 (c' := (48, [some (.ref 20), some (.int 3), some (.int (nI A)), some (.int (nI k)), some (.int 1), o5], [.int 3, .int (nI k), .ref 20, .int (nI (c (vq_rA 3 WW (A % WW) (A / WW)) (vq_rB 3 WW (A % WW) (A / WW))))], w)) rfl ?_
        refine mz_doQ (R := mz_r19) (as := [.ref 20, .int (nI k), .int 3]) (rest := [.int (nI (c (vq_rA 3 WW (A % WW) (A / WW)) (vq_rB 3 WW (A % WW) (A / WW))))]) (r1 := some (.int (nI (c (vq_rA 3 WW (k % WW) (k / WW)) (vq_rB 3 WW (k % WW) (k / WW)))))) (m1 := w) mz_t19 mz_v19_20 rfl rfl rfl rfl rfl ((vc_tuc3 hWW h1W h202 h203 hcn h9 (K := k) (I := (k % WW)) (J := (k / WW)) (by omega) hmz4 hdz4 rfl rfl).deep (by decide)) ?_
        refine mz_go 1 (c' := (if (nI (c (vq_rA 3 WW (A % WW) (A / WW)) (vq_rB 3 WW (A % WW) (A / WW)))) = (nI (c (vq_rA 3 WW (k % WW) (k / WW)) (vq_rB 3 WW (k % WW) (k / WW)))) then 54 else 58, [some (.ref 20), some (.int 3), some (.int (nI A)), some (.int (nI k)), some (.int 1), o5], [], w)) rfl ?_
        refine mz_ifF (show ¬ ((nI (c (vq_rA 3 WW (A % WW) (A / WW)) (vq_rB 3 WW (A % WW) (A / WW)))) = (nI (c (vq_rA 3 WW (k % WW) (k / WW)) (vq_rB 3 WW (k % WW) (k / WW))))) from (sm_neN rfl rfl (show (c (vq_rA 3 WW (A % WW) (A / WW)) (vq_rB 3 WW (A % WW) (A / WW))) ≠ (c (vq_rA 3 WW (k % WW) (k / WW)) (vq_rB 3 WW (k % WW) (k / WW))) by omega) (show (c (vq_rA 3 WW (A % WW) (A / WW)) (vq_rB 3 WW (A % WW) (A / WW))) < 2 ^ 31 by omega) (show (c (vq_rA 3 WW (k % WW) (k / WW)) (vq_rB 3 WW (k % WW) (k / WW))) < 2 ^ 31 by omega))) ?_
        refine mz_go 6 (c' := (69, [some (.ref 20), some (.int 3), some (.int (nI A)), some (.int (nI k)), some (.int 1), some (.int 0)], [.int 0], w)) rfl ?_
        exact mz_ret rfl
    · have hmz3 : A % WW < WW := Nat.mod_lt _ (by omega)
      have hdz3 : A / WW < WW := vq_divlt (by omega)
      have h9z3 : c (vq_rA 3 WW (A % WW) (A / WW)) (vq_rB 3 WW (A % WW) (A / WW)) ≤ 9 := h9 _ _ (vq_rlt hmz3 hdz3).1 (vq_rlt hmz3 hdz3).2
      have hmz4 : k % WW < WW := Nat.mod_lt _ (by omega)
      have hdz4 : k / WW < WW := vq_divlt (by omega)
      have h9z4 : c (vq_rA 3 WW (k % WW) (k / WW)) (vq_rB 3 WW (k % WW) (k / WW)) ≤ 9 := h9 _ _ (vq_rlt hmz4 hdz4).1 (vq_rlt hmz4 hdz4).2
      by_cases q3 : (c (vq_rA 3 WW (A % WW) (A / WW)) (vq_rB 3 WW (A % WW) (A / WW))) = (c (vq_rA 3 WW (k % WW) (k / WW)) (vq_rB 3 WW (k % WW) (k / WW)))
      · refine Or.inl ⟨⟨k, Nat.le_refl k, by omega, fun z => q1 (z.mpr q3)⟩, ?_⟩
        refine mz_go 3 (c' := (if (nI A) ≤ (nI k) then 76 else 17, [some (.ref 20), some (.int 3), some (.int (nI A)), some (.int (nI k)), o4, o5], [], w)) rfl ?_
        refine mz_ifF (show ¬ ((nI A) ≤ (nI k)) from (sm_nleN rfl rfl (show k < A by omega) (show A < 2 ^ 31 by omega))) ?_
        refine mz_go 3 (c' := (20, [some (.ref 20), some (.int 3), some (.int (nI A)), some (.int (nI k)), o4, o5], [.int 0, .int (nI A), .ref 20], w)) rfl ?_
        refine mz_doQ (R := mz_r19) (as := [.ref 20, .int (nI A), .int 0]) (rest := []) (r1 := some (.int (nI (c (vq_rA 0 WW (A % WW) (A / WW)) (vq_rB 0 WW (A % WW) (A / WW)))))) (m1 := w) mz_t19 mz_v19_20 rfl rfl rfl rfl rfl ((vc_tuc0 hWW h1W h202 h203 hcn h9 (K := A) (I := (A % WW)) (J := (A / WW)) (by omega) hmz1 hdz1 rfl rfl).deep (by decide)) ?_
        refine mz_go 3 (c' := (26, [some (.ref 20), some (.int 3), some (.int (nI A)), some (.int (nI k)), o4, o5], [.int 0, .int (nI k), .ref 20, .int (nI (c (vq_rA 0 WW (A % WW) (A / WW)) (vq_rB 0 WW (A % WW) (A / WW))))], w)) rfl ?_
        refine mz_doQ (R := mz_r19) (as := [.ref 20, .int (nI k), .int 0]) (rest := [.int (nI (c (vq_rA 0 WW (A % WW) (A / WW)) (vq_rB 0 WW (A % WW) (A / WW))))]) (r1 := some (.int (nI (c (vq_rA 0 WW (k % WW) (k / WW)) (vq_rB 0 WW (k % WW) (k / WW)))))) (m1 := w) mz_t19 mz_v19_20 rfl rfl rfl rfl rfl ((vc_tuc0 hWW h1W h202 h203 hcn h9 (K := k) (I := (k % WW)) (J := (k / WW)) (by omega) hmz2 hdz2 rfl rfl).deep (by decide)) ?_
        refine mz_go 1 (c' := (if (nI (c (vq_rA 0 WW (A % WW) (A / WW)) (vq_rB 0 WW (A % WW) (A / WW)))) = (nI (c (vq_rA 0 WW (k % WW) (k / WW)) (vq_rB 0 WW (k % WW) (k / WW)))) then 32 else 36, [some (.ref 20), some (.int 3), some (.int (nI A)), some (.int (nI k)), o4, o5], [], w)) rfl ?_
        refine mz_ifF (show ¬ ((nI (c (vq_rA 0 WW (A % WW) (A / WW)) (vq_rB 0 WW (A % WW) (A / WW)))) = (nI (c (vq_rA 0 WW (k % WW) (k / WW)) (vq_rB 0 WW (k % WW) (k / WW))))) from (sm_neN rfl rfl (show (c (vq_rA 0 WW (A % WW) (A / WW)) (vq_rB 0 WW (A % WW) (A / WW))) ≠ (c (vq_rA 0 WW (k % WW) (k / WW)) (vq_rB 0 WW (k % WW) (k / WW))) by omega) (show (c (vq_rA 0 WW (A % WW) (A / WW)) (vq_rB 0 WW (A % WW) (A / WW))) < 2 ^ 31 by omega) (show (c (vq_rA 0 WW (k % WW) (k / WW)) (vq_rB 0 WW (k % WW) (k / WW))) < 2 ^ 31 by omega))) ?_
        refine mz_go 5 (c' := (42, [some (.ref 20), some (.int 3), some (.int (nI A)), some (.int (nI k)), some (.int 0), o5], [.int 3, .int (nI A), .ref 20], w)) rfl ?_
        refine mz_doQ (R := mz_r19) (as := [.ref 20, .int (nI A), .int 3]) (rest := []) (r1 := some (.int (nI (c (vq_rA 3 WW (A % WW) (A / WW)) (vq_rB 3 WW (A % WW) (A / WW)))))) (m1 := w) mz_t19 mz_v19_20 rfl rfl rfl rfl rfl ((vc_tuc3 hWW h1W h202 h203 hcn h9 (K := A) (I := (A % WW)) (J := (A / WW)) (by omega) hmz3 hdz3 rfl rfl).deep (by decide)) ?_
        refine mz_go 3 (c' := (48, [some (.ref 20), some (.int 3), some (.int (nI A)), some (.int (nI k)), some (.int 0), o5], [.int 3, .int (nI k), .ref 20, .int (nI (c (vq_rA 3 WW (A % WW) (A / WW)) (vq_rB 3 WW (A % WW) (A / WW))))], w)) rfl ?_
        refine mz_doQ (R := mz_r19) (as := [.ref 20, .int (nI k), .int 3]) (rest := [.int (nI (c (vq_rA 3 WW (A % WW) (A / WW)) (vq_rB 3 WW (A % WW) (A / WW))))]) (r1 := some (.int (nI (c (vq_rA 3 WW (k % WW) (k / WW)) (vq_rB 3 WW (k % WW) (k / WW)))))) (m1 := w) mz_t19 mz_v19_20 rfl rfl rfl rfl rfl ((vc_tuc3 hWW h1W h202 h203 hcn h9 (K := k) (I := (k % WW)) (J := (k / WW)) (by omega) hmz4 hdz4 rfl rfl).deep (by decide)) ?_
        refine mz_go 1 (c' := (if (nI (c (vq_rA 3 WW (A % WW) (A / WW)) (vq_rB 3 WW (A % WW) (A / WW)))) = (nI (c (vq_rA 3 WW (k % WW) (k / WW)) (vq_rB 3 WW (k % WW) (k / WW)))) then 54 else 58, [some (.ref 20), some (.int 3), some (.int (nI A)), some (.int (nI k)), some (.int 0), o5], [], w)) rfl ?_
        refine mz_ifT (show ((nI (c (vq_rA 3 WW (A % WW) (A / WW)) (vq_rB 3 WW (A % WW) (A / WW)))) = (nI (c (vq_rA 3 WW (k % WW) (k / WW)) (vq_rB 3 WW (k % WW) (k / WW))))) from (sm_eqN rfl rfl (show (c (vq_rA 3 WW (A % WW) (A / WW)) (vq_rB 3 WW (A % WW) (A / WW))) = (c (vq_rA 3 WW (k % WW) (k / WW)) (vq_rB 3 WW (k % WW) (k / WW))) by omega))) ?_
        refine mz_go 7 (c' := (69, [some (.ref 20), some (.int 3), some (.int (nI A)), some (.int (nI k)), some (.int 0), some (.int 1)], [.int 0], w)) rfl ?_
        exact mz_ret rfl
      · have hok : vq_pp c 3 WW A k := ⟨fun z => absurd z q1, fun z => absurd z q3⟩
        rcases ih (k + 1) (by omega) (some (.int 0)) (some (.int 0)) with ⟨⟨b, h1, h2, h3⟩, E⟩ | ⟨hall, p4, p5, E⟩
        · refine Or.inl ⟨⟨b, by omega, h2, h3⟩, ?_⟩
          have hr := E
          rw [nI_succ k] at hr
          refine mz_go 3 (c' := (if (nI A) ≤ (nI k) then 76 else 17, [some (.ref 20), some (.int 3), some (.int (nI A)), some (.int (nI k)), o4, o5], [], w)) rfl ?_
          refine mz_ifF (show ¬ ((nI A) ≤ (nI k)) from (sm_nleN rfl rfl (show k < A by omega) (show A < 2 ^ 31 by omega))) ?_
          refine mz_go 3 (c' := (20, [some (.ref 20), some (.int 3), some (.int (nI A)), some (.int (nI k)), o4, o5], [.int 0, .int (nI A), .ref 20], w)) rfl ?_
          refine mz_doQ (R := mz_r19) (as := [.ref 20, .int (nI A), .int 0]) (rest := []) (r1 := some (.int (nI (c (vq_rA 0 WW (A % WW) (A / WW)) (vq_rB 0 WW (A % WW) (A / WW)))))) (m1 := w) mz_t19 mz_v19_20 rfl rfl rfl rfl rfl ((vc_tuc0 hWW h1W h202 h203 hcn h9 (K := A) (I := (A % WW)) (J := (A / WW)) (by omega) hmz1 hdz1 rfl rfl).deep (by decide)) ?_
          refine mz_go 3 (c' := (26, [some (.ref 20), some (.int 3), some (.int (nI A)), some (.int (nI k)), o4, o5], [.int 0, .int (nI k), .ref 20, .int (nI (c (vq_rA 0 WW (A % WW) (A / WW)) (vq_rB 0 WW (A % WW) (A / WW))))], w)) rfl ?_
          refine mz_doQ (R := mz_r19) (as := [.ref 20, .int (nI k), .int 0]) (rest := [.int (nI (c (vq_rA 0 WW (A % WW) (A / WW)) (vq_rB 0 WW (A % WW) (A / WW))))]) (r1 := some (.int (nI (c (vq_rA 0 WW (k % WW) (k / WW)) (vq_rB 0 WW (k % WW) (k / WW)))))) (m1 := w) mz_t19 mz_v19_20 rfl rfl rfl rfl rfl ((vc_tuc0 hWW h1W h202 h203 hcn h9 (K := k) (I := (k % WW)) (J := (k / WW)) (by omega) hmz2 hdz2 rfl rfl).deep (by decide)) ?_
          refine mz_go 1 (c' := (if (nI (c (vq_rA 0 WW (A % WW) (A / WW)) (vq_rB 0 WW (A % WW) (A / WW)))) = (nI (c (vq_rA 0 WW (k % WW) (k / WW)) (vq_rB 0 WW (k % WW) (k / WW)))) then 32 else 36, [some (.ref 20), some (.int 3), some (.int (nI A)), some (.int (nI k)), o4, o5], [], w)) rfl ?_
          refine mz_ifF (show ¬ ((nI (c (vq_rA 0 WW (A % WW) (A / WW)) (vq_rB 0 WW (A % WW) (A / WW)))) = (nI (c (vq_rA 0 WW (k % WW) (k / WW)) (vq_rB 0 WW (k % WW) (k / WW))))) from (sm_neN rfl rfl (show (c (vq_rA 0 WW (A % WW) (A / WW)) (vq_rB 0 WW (A % WW) (A / WW))) ≠ (c (vq_rA 0 WW (k % WW) (k / WW)) (vq_rB 0 WW (k % WW) (k / WW))) by omega) (show (c (vq_rA 0 WW (A % WW) (A / WW)) (vq_rB 0 WW (A % WW) (A / WW))) < 2 ^ 31 by omega) (show (c (vq_rA 0 WW (k % WW) (k / WW)) (vq_rB 0 WW (k % WW) (k / WW))) < 2 ^ 31 by omega))) ?_
          refine mz_go 5 (c' := (42, [some (.ref 20), some (.int 3), some (.int (nI A)), some (.int (nI k)), some (.int 0), o5], [.int 3, .int (nI A), .ref 20], w)) rfl ?_
          refine mz_doQ (R := mz_r19) (as := [.ref 20, .int (nI A), .int 3]) (rest := []) (r1 := some (.int (nI (c (vq_rA 3 WW (A % WW) (A / WW)) (vq_rB 3 WW (A % WW) (A / WW)))))) (m1 := w) mz_t19 mz_v19_20 rfl rfl rfl rfl rfl ((vc_tuc3 hWW h1W h202 h203 hcn h9 (K := A) (I := (A % WW)) (J := (A / WW)) (by omega) hmz3 hdz3 rfl rfl).deep (by decide)) ?_
          refine mz_go 3 (c' := (48, [some (.ref 20), some (.int 3), some (.int (nI A)), some (.int (nI k)), some (.int 0), o5], [.int 3, .int (nI k), .ref 20, .int (nI (c (vq_rA 3 WW (A % WW) (A / WW)) (vq_rB 3 WW (A % WW) (A / WW))))], w)) rfl ?_
          refine mz_doQ (R := mz_r19) (as := [.ref 20, .int (nI k), .int 3]) (rest := [.int (nI (c (vq_rA 3 WW (A % WW) (A / WW)) (vq_rB 3 WW (A % WW) (A / WW))))]) (r1 := some (.int (nI (c (vq_rA 3 WW (k % WW) (k / WW)) (vq_rB 3 WW (k % WW) (k / WW)))))) (m1 := w) mz_t19 mz_v19_20 rfl rfl rfl rfl rfl ((vc_tuc3 hWW h1W h202 h203 hcn h9 (K := k) (I := (k % WW)) (J := (k / WW)) (by omega) hmz4 hdz4 rfl rfl).deep (by decide)) ?_
          refine mz_go 1 (c' := (if (nI (c (vq_rA 3 WW (A % WW) (A / WW)) (vq_rB 3 WW (A % WW) (A / WW)))) = (nI (c (vq_rA 3 WW (k % WW) (k / WW)) (vq_rB 3 WW (k % WW) (k / WW)))) then 54 else 58, [some (.ref 20), some (.int 3), some (.int (nI A)), some (.int (nI k)), some (.int 0), o5], [], w)) rfl ?_
          refine mz_ifF (show ¬ ((nI (c (vq_rA 3 WW (A % WW) (A / WW)) (vq_rB 3 WW (A % WW) (A / WW)))) = (nI (c (vq_rA 3 WW (k % WW) (k / WW)) (vq_rB 3 WW (k % WW) (k / WW))))) from (sm_neN rfl rfl (show (c (vq_rA 3 WW (A % WW) (A / WW)) (vq_rB 3 WW (A % WW) (A / WW))) ≠ (c (vq_rA 3 WW (k % WW) (k / WW)) (vq_rB 3 WW (k % WW) (k / WW))) by omega) (show (c (vq_rA 3 WW (A % WW) (A / WW)) (vq_rB 3 WW (A % WW) (A / WW))) < 2 ^ 31 by omega) (show (c (vq_rA 3 WW (k % WW) (k / WW)) (vq_rB 3 WW (k % WW) (k / WW))) < 2 ^ 31 by omega))) ?_
          refine mz_go 7 (c' := (12, [some (.ref 20), some (.int 3), some (.int (nI A)), some (.int ((nI k) + 1)), some (.int 0), some (.int 0)], [], w)) rfl ?_
          exact hr
        · refine Or.inr ⟨fun b hb1 hb2 => ?_, p4, p5, fun r hr0 => ?_⟩
          · rcases Nat.eq_or_lt_of_le hb1 with e | e
            · rw [← e]
              exact hok
            · exact hall b e hb2
          · have hr := E r hr0
            rw [nI_succ k] at hr
            refine mz_go 3 (c' := (if (nI A) ≤ (nI k) then 76 else 17, [some (.ref 20), some (.int 3), some (.int (nI A)), some (.int (nI k)), o4, o5], [], w)) rfl ?_
            refine mz_ifF (show ¬ ((nI A) ≤ (nI k)) from (sm_nleN rfl rfl (show k < A by omega) (show A < 2 ^ 31 by omega))) ?_
            refine mz_go 3 (c' := (20, [some (.ref 20), some (.int 3), some (.int (nI A)), some (.int (nI k)), o4, o5], [.int 0, .int (nI A), .ref 20], w)) rfl ?_
            refine mz_doQ (R := mz_r19) (as := [.ref 20, .int (nI A), .int 0]) (rest := []) (r1 := some (.int (nI (c (vq_rA 0 WW (A % WW) (A / WW)) (vq_rB 0 WW (A % WW) (A / WW)))))) (m1 := w) mz_t19 mz_v19_20 rfl rfl rfl rfl rfl ((vc_tuc0 hWW h1W h202 h203 hcn h9 (K := A) (I := (A % WW)) (J := (A / WW)) (by omega) hmz1 hdz1 rfl rfl).deep (by decide)) ?_
            refine mz_go 3 (c' := (26, [some (.ref 20), some (.int 3), some (.int (nI A)), some (.int (nI k)), o4, o5], [.int 0, .int (nI k), .ref 20, .int (nI (c (vq_rA 0 WW (A % WW) (A / WW)) (vq_rB 0 WW (A % WW) (A / WW))))], w)) rfl ?_
            refine mz_doQ (R := mz_r19) (as := [.ref 20, .int (nI k), .int 0]) (rest := [.int (nI (c (vq_rA 0 WW (A % WW) (A / WW)) (vq_rB 0 WW (A % WW) (A / WW))))]) (r1 := some (.int (nI (c (vq_rA 0 WW (k % WW) (k / WW)) (vq_rB 0 WW (k % WW) (k / WW)))))) (m1 := w) mz_t19 mz_v19_20 rfl rfl rfl rfl rfl ((vc_tuc0 hWW h1W h202 h203 hcn h9 (K := k) (I := (k % WW)) (J := (k / WW)) (by omega) hmz2 hdz2 rfl rfl).deep (by decide)) ?_
            refine mz_go 1 (c' := (if (nI (c (vq_rA 0 WW (A % WW) (A / WW)) (vq_rB 0 WW (A % WW) (A / WW)))) = (nI (c (vq_rA 0 WW (k % WW) (k / WW)) (vq_rB 0 WW (k % WW) (k / WW)))) then 32 else 36, [some (.ref 20), some (.int 3), some (.int (nI A)), some (.int (nI k)), o4, o5], [], w)) rfl ?_
            refine mz_ifF (show ¬ ((nI (c (vq_rA 0 WW (A % WW) (A / WW)) (vq_rB 0 WW (A % WW) (A / WW)))) = (nI (c (vq_rA 0 WW (k % WW) (k / WW)) (vq_rB 0 WW (k % WW) (k / WW))))) from (sm_neN rfl rfl (show (c (vq_rA 0 WW (A % WW) (A / WW)) (vq_rB 0 WW (A % WW) (A / WW))) ≠ (c (vq_rA 0 WW (k % WW) (k / WW)) (vq_rB 0 WW (k % WW) (k / WW))) by omega) (show (c (vq_rA 0 WW (A % WW) (A / WW)) (vq_rB 0 WW (A % WW) (A / WW))) < 2 ^ 31 by omega) (show (c (vq_rA 0 WW (k % WW) (k / WW)) (vq_rB 0 WW (k % WW) (k / WW))) < 2 ^ 31 by omega))) ?_
            refine mz_go 5 (c' := (42, [some (.ref 20), some (.int 3), some (.int (nI A)), some (.int (nI k)), some (.int 0), o5], [.int 3, .int (nI A), .ref 20], w)) rfl ?_
            refine mz_doQ (R := mz_r19) (as := [.ref 20, .int (nI A), .int 3]) (rest := []) (r1 := some (.int (nI (c (vq_rA 3 WW (A % WW) (A / WW)) (vq_rB 3 WW (A % WW) (A / WW)))))) (m1 := w) mz_t19 mz_v19_20 rfl rfl rfl rfl rfl ((vc_tuc3 hWW h1W h202 h203 hcn h9 (K := A) (I := (A % WW)) (J := (A / WW)) (by omega) hmz3 hdz3 rfl rfl).deep (by decide)) ?_
            refine mz_go 3 (c' := (48, [some (.ref 20), some (.int 3), some (.int (nI A)), some (.int (nI k)), some (.int 0), o5], [.int 3, .int (nI k), .ref 20, .int (nI (c (vq_rA 3 WW (A % WW) (A / WW)) (vq_rB 3 WW (A % WW) (A / WW))))], w)) rfl ?_
            refine mz_doQ (R := mz_r19) (as := [.ref 20, .int (nI k), .int 3]) (rest := [.int (nI (c (vq_rA 3 WW (A % WW) (A / WW)) (vq_rB 3 WW (A % WW) (A / WW))))]) (r1 := some (.int (nI (c (vq_rA 3 WW (k % WW) (k / WW)) (vq_rB 3 WW (k % WW) (k / WW)))))) (m1 := w) mz_t19 mz_v19_20 rfl rfl rfl rfl rfl ((vc_tuc3 hWW h1W h202 h203 hcn h9 (K := k) (I := (k % WW)) (J := (k / WW)) (by omega) hmz4 hdz4 rfl rfl).deep (by decide)) ?_
            refine mz_go 1 (c' := (if (nI (c (vq_rA 3 WW (A % WW) (A / WW)) (vq_rB 3 WW (A % WW) (A / WW)))) = (nI (c (vq_rA 3 WW (k % WW) (k / WW)) (vq_rB 3 WW (k % WW) (k / WW)))) then 54 else 58, [some (.ref 20), some (.int 3), some (.int (nI A)), some (.int (nI k)), some (.int 0), o5], [], w)) rfl ?_
            refine mz_ifF (show ¬ ((nI (c (vq_rA 3 WW (A % WW) (A / WW)) (vq_rB 3 WW (A % WW) (A / WW)))) = (nI (c (vq_rA 3 WW (k % WW) (k / WW)) (vq_rB 3 WW (k % WW) (k / WW))))) from (sm_neN rfl rfl (show (c (vq_rA 3 WW (A % WW) (A / WW)) (vq_rB 3 WW (A % WW) (A / WW))) ≠ (c (vq_rA 3 WW (k % WW) (k / WW)) (vq_rB 3 WW (k % WW) (k / WW))) by omega) (show (c (vq_rA 3 WW (A % WW) (A / WW)) (vq_rB 3 WW (A % WW) (A / WW))) < 2 ^ 31 by omega) (show (c (vq_rA 3 WW (k % WW) (k / WW)) (vq_rB 3 WW (k % WW) (k / WW))) < 2 ^ 31 by omega))) ?_
            refine mz_go 7 (c' := (12, [some (.ref 20), some (.int 3), some (.int (nI A)), some (.int ((nI k) + 1)), some (.int 0), some (.int 0)], [], w)) rfl ?_
            exact hr
set_option maxHeartbeats 4000000 in
set_option maxRecDepth 100000 in
theorem vc_ala3 {w : mz_M} {WW : Nat} (hWW : WW ≤ 6) (h1W : 1 ≤ WW) (h202 : w 20 2 = nI WW) (h203 : w 20 3 = nI WW) {c : Nat → Nat → Nat} (hcn : ∀ i j, i < WW → j < WW → w 21 ((j * 6) + i) = nI (c i j)) (h9 : ∀ i j, i < WW → j < WW → c i j ≤ 9) : ∀ j k : Nat, k + j = WW * WW → ∀ (o3 o4 o5 : Option Value), ((∃ a b, a < WW * WW ∧ b < a ∧ ¬ vq_pp c 3 WW a b) ∧ mz_Ex 16 mz_k18 (2, [some (.ref 20), some (.int 3), some (.int (nI k)), o3, o4, o5], [], w) (some (.int 0), w)) ∨ ((∀ a, k ≤ a → a < WW * WW → ∀ b, b < a → vq_pp c 3 WW a b) ∧ mz_Ex 16 mz_k18 (2, [some (.ref 20), some (.int 3), some (.int (nI k)), o3, o4, o5], [], w) (some (.int 1), w)) := by
  have hWm : WW * WW ≤ 6 * 6 := Nat.mul_le_mul hWW hWW
  intro j
  induction j with
  | zero =>
    intro k hk o3 o4 o5
    rw [show k = WW * WW by omega]
    refine Or.inr ⟨fun a h1 h2 => by omega, ?_⟩
    refine mz_go 2 (c' := (4, [some (.ref 20), some (.int 3), some (.int (nI (WW * WW))), o3, o4, o5], [.ref 20, .int (nI (WW * WW))], w)) rfl ?_
    refine mz_doQ (R := mz_r3) (as := [.ref 20]) (rest := [.int (nI (WW * WW))]) (r1 := some (.int ((nI WW) * (nI WW)))) (m1 := w) mz_t3 mz_v3_20 rfl rfl rfl rfl rfl ⟨?_, rfl⟩ ?_
    · refine mz_go 2 (c' := (4, [some (.ref 20)], [.int (w 20 2)], w)) rfl ?_
      rw [h202]
      refine mz_go 2 (c' := (8, [some (.ref 20)], [.int (w 20 3), .int (nI WW)], w)) rfl ?_
      rw [h203]
      refine mz_go 1 (c' := (9, [some (.ref 20)], [.int ((nI WW) * (nI WW))], w)) rfl ?_
      exact mz_ret rfl
    refine mz_go 1 (c' := (if ((nI WW) * (nI WW)) ≤ (nI (WW * WW)) then 82 else 10, [some (.ref 20), some (.int 3), some (.int (nI (WW * WW))), o3, o4, o5], [], w)) rfl ?_
    refine mz_ifT (show (((nI WW) * (nI WW)) ≤ (nI (WW * WW))) from (sm_leN (sm_mulN rfl rfl) rfl (show (WW * WW) ≤ (WW * WW) by omega) (show (WW * WW) < 2 ^ 31 by omega))) ?_
    refine mz_go 1 (c' := (83, [some (.ref 20), some (.int 3), some (.int (nI (WW * WW))), o3, o4, o5], [.int 1], w)) rfl ?_
    exact mz_ret rfl
  | succ j ih =>
    intro k hk o3 o4 o5
    rcases vc_alb3 hWW h1W h202 h203 hcn h9 (A := k) (by omega) k 0 (by omega) o4 o5 with ⟨⟨b, h1, h2, h3⟩, hin⟩ | ⟨hall, p4, p5, E⟩
    · refine Or.inl ⟨⟨k, b, by omega, h2, h3⟩, ?_⟩
      refine mz_go 2 (c' := (4, [some (.ref 20), some (.int 3), some (.int (nI k)), o3, o4, o5], [.ref 20, .int (nI k)], w)) rfl ?_
      refine mz_doQ (R := mz_r3) (as := [.ref 20]) (rest := [.int (nI k)]) (r1 := some (.int ((nI WW) * (nI WW)))) (m1 := w) mz_t3 mz_v3_20 rfl rfl rfl rfl rfl ⟨?_, rfl⟩ ?_
      · refine mz_go 2 (c' := (4, [some (.ref 20)], [.int (w 20 2)], w)) rfl ?_
        rw [h202]
        refine mz_go 2 (c' := (8, [some (.ref 20)], [.int (w 20 3), .int (nI WW)], w)) rfl ?_
        rw [h203]
        refine mz_go 1 (c' := (9, [some (.ref 20)], [.int ((nI WW) * (nI WW))], w)) rfl ?_
        exact mz_ret rfl
      refine mz_go 1 (c' := (if ((nI WW) * (nI WW)) ≤ (nI k) then 82 else 10, [some (.ref 20), some (.int 3), some (.int (nI k)), o3, o4, o5], [], w)) rfl ?_
      refine mz_ifF (show ¬ (((nI WW) * (nI WW)) ≤ (nI k)) from (sm_nleN (sm_mulN rfl rfl) rfl (show k < (WW * WW) by omega) (show (WW * WW) < 2 ^ 31 by omega))) ?_
      refine mz_go 2 (c' := (12, [some (.ref 20), some (.int 3), some (.int (nI k)), some (.int 0), o4, o5], [], w)) rfl ?_
      exact hin
    · rcases ih (k + 1) (by omega) (some (.int (nI k))) p4 p5 with ⟨⟨a, b, h1, h2, h3⟩, E2⟩ | ⟨hal2, E2⟩
      · refine Or.inl ⟨⟨a, b, h1, h2, h3⟩, ?_⟩
        have hin := E (some (.int 0), w) (by
          have hr := E2
          rw [nI_succ k] at hr
          refine mz_go 2 (c' := (2, [some (.ref 20), some (.int 3), some (.int ((nI k) + 1)), some (.int (nI k)), p4, p5], [], w)) rfl ?_
          exact hr)
        refine mz_go 2 (c' := (4, [some (.ref 20), some (.int 3), some (.int (nI k)), o3, o4, o5], [.ref 20, .int (nI k)], w)) rfl ?_
        refine mz_doQ (R := mz_r3) (as := [.ref 20]) (rest := [.int (nI k)]) (r1 := some (.int ((nI WW) * (nI WW)))) (m1 := w) mz_t3 mz_v3_20 rfl rfl rfl rfl rfl ⟨?_, rfl⟩ ?_
        · refine mz_go 2 (c' := (4, [some (.ref 20)], [.int (w 20 2)], w)) rfl ?_
          rw [h202]
          refine mz_go 2 (c' := (8, [some (.ref 20)], [.int (w 20 3), .int (nI WW)], w)) rfl ?_
          rw [h203]
          refine mz_go 1 (c' := (9, [some (.ref 20)], [.int ((nI WW) * (nI WW))], w)) rfl ?_
          exact mz_ret rfl
        refine mz_go 1 (c' := (if ((nI WW) * (nI WW)) ≤ (nI k) then 82 else 10, [some (.ref 20), some (.int 3), some (.int (nI k)), o3, o4, o5], [], w)) rfl ?_
        refine mz_ifF (show ¬ (((nI WW) * (nI WW)) ≤ (nI k)) from (sm_nleN (sm_mulN rfl rfl) rfl (show k < (WW * WW) by omega) (show (WW * WW) < 2 ^ 31 by omega))) ?_
        refine mz_go 2 (c' := (12, [some (.ref 20), some (.int 3), some (.int (nI k)), some (.int 0), o4, o5], [], w)) rfl ?_
        exact hin
      · refine Or.inr ⟨fun a ha1 ha2 b hb => ?_, ?_⟩
        · rcases Nat.eq_or_lt_of_le ha1 with e | e
          · rw [← e] at hb ⊢
            exact hall b (Nat.zero_le b) hb
          · exact hal2 a e ha2 b hb
        · have hin := E (some (.int 1), w) (by
            have hr := E2
            rw [nI_succ k] at hr
            refine mz_go 2 (c' := (2, [some (.ref 20), some (.int 3), some (.int ((nI k) + 1)), some (.int (nI k)), p4, p5], [], w)) rfl ?_
            exact hr)
          refine mz_go 2 (c' := (4, [some (.ref 20), some (.int 3), some (.int (nI k)), o3, o4, o5], [.ref 20, .int (nI k)], w)) rfl ?_
          refine mz_doQ (R := mz_r3) (as := [.ref 20]) (rest := [.int (nI k)]) (r1 := some (.int ((nI WW) * (nI WW)))) (m1 := w) mz_t3 mz_v3_20 rfl rfl rfl rfl rfl ⟨?_, rfl⟩ ?_
          · refine mz_go 2 (c' := (4, [some (.ref 20)], [.int (w 20 2)], w)) rfl ?_
            rw [h202]
            refine mz_go 2 (c' := (8, [some (.ref 20)], [.int (w 20 3), .int (nI WW)], w)) rfl ?_
            rw [h203]
            refine mz_go 1 (c' := (9, [some (.ref 20)], [.int ((nI WW) * (nI WW))], w)) rfl ?_
            exact mz_ret rfl
          refine mz_go 1 (c' := (if ((nI WW) * (nI WW)) ≤ (nI k) then 82 else 10, [some (.ref 20), some (.int 3), some (.int (nI k)), o3, o4, o5], [], w)) rfl ?_
          refine mz_ifF (show ¬ (((nI WW) * (nI WW)) ≤ (nI k)) from (sm_nleN (sm_mulN rfl rfl) rfl (show k < (WW * WW) by omega) (show (WW * WW) < 2 ^ 31 by omega))) ?_
          refine mz_go 2 (c' := (12, [some (.ref 20), some (.int 3), some (.int (nI k)), some (.int 0), o4, o5], [], w)) rfl ?_
          exact hin
set_option maxHeartbeats 4000000 in
set_option maxRecDepth 100000 in
theorem vc_ali3 {w : mz_M} {WW : Nat} (hWW : WW ≤ 6) (h1W : 1 ≤ WW) (h202 : w 20 2 = nI WW) (h203 : w 20 3 = nI WW) {c : Nat → Nat → Nat} (hcn : ∀ i j, i < WW → j < WW → w 21 ((j * 6) + i) = nI (c i j)) (h9 : ∀ i j, i < WW → j < WW → c i j ≤ 9) : mz_Me 16 mz_r18 [.ref 20, .int 3] w (some (.int (vq_tv c 3 WW))) w := by
  have hWm : WW * WW ≤ 6 * 6 := Nat.mul_le_mul hWW hWW
  refine ⟨?_, by rcases vq_tv01 (c := c) (q := 3) (W := WW) with h | h <;> rw [h] <;> rfl⟩
  rcases vc_ala3 hWW h1W h202 h203 hcn h9 (WW * WW) 0 (by omega) none none none with ⟨⟨a, b, h1, h2, h3⟩, E⟩ | ⟨hall, E⟩
  · rw [vq_tvF (vq_tp2 h1 (by omega) h3)]
    refine mz_go 2 (c' := (2, [some (.ref 20), some (.int 3), some (.int 0), none, none, none], [], w)) rfl ?_
    exact E
  · rw [vq_tvT (vq_tp1 (fun a ha b hb => hall a (Nat.zero_le a) ha b hb))]
    refine mz_go 2 (c' := (2, [some (.ref 20), some (.int 3), some (.int 0), none, none, none], [], w)) rfl ?_
    exact E
theorem vq_in1 {f g : Nat → Int32} {k v : Nat} (h : ∀ v, v < k → f v = -1 ∧ g v = -1) (hv : v < k + 1) : (if v = k then -1 else f v) = -1 := by
  by_cases e : v = k
  · exact if_pos e
  · exact (if_neg e).trans (h v (by omega)).1
theorem vq_in2 {f g : Nat → Int32} {k v : Nat} (h : ∀ v, v < k → f v = -1 ∧ g v = -1) (hv : v < k + 1) : (if v = k then -1 else g v) = -1 := by
  by_cases e : v = k
  · exact if_pos e
  · exact (if_neg e).trans (h v (by omega)).2
set_option maxHeartbeats 4000000 in
set_option maxRecDepth 100000 in
theorem vr_tu0 {b : mz_M} (xa : Int32) : ∀ j k : Nat, k + j = 10 → ∀ (r72 r73 : Nat → Int32), (∀ v, v < k → r72 v = -1 ∧ r73 v = -1) → ∃ (s72 : Nat → Int32), ∃ (s73 : Nat → Int32), (∀ v, v < 10 → s72 v = -1 ∧ s73 v = -1) ∧ ∀ r, mz_Ex 100 mz_k201 (73, [some (.ref 65), some (.int xa), some (.int (nI 10)), none, none, none, none, none, none], [], mz_set (mz_set b 72 s72) 73 s73) r → mz_Ex 100 mz_k201 (47, [some (.ref 65), some (.int xa), some (.int (nI k)), none, none, none, none, none, none], [], mz_set (mz_set b 72 r72) 73 r73) r := by
  intro j
  induction j with
  | zero =>
    intro k hk r72 r73 hin
    rw [show k = 10 by omega] at hin ⊢
    exact ⟨r72, r73, hin, fun r hr => by
      refine mz_go 3 (c' := (if 10 ≤ (nI 10) then 73 else 53, [some (.ref 65), some (.int xa), some (.int (nI 10)), none, none, none, none, none, none], [], mz_set (mz_set b 72 r72) 73 r73)) rfl ?_
      refine mz_ifT (show (10 ≤ (nI 10)) from (sm_leN rfl rfl (show 10 ≤ 10 by omega) (show 10 < 2 ^ 31 by omega))) ?_
      exact hr⟩
  | succ j ih =>
    intro k hk r72 r73 hin
    have hm : mz_up (mz_up (mz_set (mz_set b 72 r72) 73 r73) 72 k (-1)) 73 k (-1) = mz_set (mz_set b 72 ((mz_up (mz_up (mz_set (mz_set b 72 r72) 73 r73) 72 k (-1)) 73 k (-1)) 72)) 73 ((mz_up (mz_up (mz_set (mz_set b 72 r72) 73 r73) 72 k (-1)) 73 k (-1)) 73) := sm_of2 (fun i h1 h2 => by simp only [mz_set_ne h1, mz_set_ne h2, mz_up_ne h1, mz_up_ne h2])
    obtain ⟨s72, s73, hin2, Er⟩ := ih (k + 1) (by omega) ((mz_up (mz_up (mz_set (mz_set b 72 r72) 73 r73) 72 k (-1)) 73 k (-1)) 72) ((mz_up (mz_up (mz_set (mz_set b 72 r72) 73 r73) 72 k (-1)) 73 k (-1)) 73) (fun v hv => ⟨(show (mz_up (mz_up (mz_set (mz_set b 72 r72) 73 r73) 72 k (-1)) 73 k (-1)) 72 v = if v = k then -1 else r72 v from by rw [mz_up_ne (show (72 : Nat) ≠ 73 by decide), mz_up_eq, mz_set_ne (show (72 : Nat) ≠ 73 by decide), mz_set_eq]).trans (vq_in1 hin hv), (show (mz_up (mz_up (mz_set (mz_set b 72 r72) 73 r73) 72 k (-1)) 73 k (-1)) 73 v = if v = k then -1 else r73 v from by rw [mz_up_eq, mz_up_ne (show (73 : Nat) ≠ 72 by decide), mz_set_eq]).trans (vq_in2 hin hv)⟩)
    refine ⟨s72, s73, hin2, fun r hr0 => ?_⟩
    have hr := Er r hr0
    rw [nI_succ k, ← hm] at hr
    refine mz_go 3 (c' := (if 10 ≤ (nI k) then 73 else 53, [some (.ref 65), some (.int xa), some (.int (nI k)), none, none, none, none, none, none], [], mz_set (mz_set b 72 r72) 73 r73)) rfl ?_
    refine mz_ifF (show ¬ (10 ≤ (nI k)) from (sm_nleN rfl rfl (show k < 10 by omega) (show 10 < 2 ^ 31 by omega))) ?_
    refine mz_go 4 (c' := (59, [some (.ref 65), some (.int xa), some (.int (nI k)), none, none, none, none, none, none], [.int (-1), .int (nI k), .ref 72], mz_set (mz_set b 72 r72) 73 r73)) rfl ?_
    refine mz_arr (c' := (60, [some (.ref 65), some (.int xa), some (.int (nI k)), none, none, none, none, none, none], [], mz_up (mz_set (mz_set b 72 r72) 73 r73) 72 ((nI k).toNatClampNeg) (-1))) rfl (show mz_in (nI k) 10 = true from sm_inN rfl (show k < 10 by omega) (by decide)) ?_
    rw [show (nI k : Int32).toNatClampNeg = k from sm_clN rfl (show k < 2 ^ 31 by omega)]
    refine mz_go 4 (c' := (66, [some (.ref 65), some (.int xa), some (.int (nI k)), none, none, none, none, none, none], [.int (-1), .int (nI k), .ref 73], mz_up (mz_set (mz_set b 72 r72) 73 r73) 72 k (-1))) rfl ?_
    refine mz_arr (c' := (67, [some (.ref 65), some (.int xa), some (.int (nI k)), none, none, none, none, none, none], [], mz_up (mz_up (mz_set (mz_set b 72 r72) 73 r73) 72 k (-1)) 73 ((nI k).toNatClampNeg) (-1))) rfl (show mz_in (nI k) 10 = true from sm_inN rfl (show k < 10 by omega) (by decide)) ?_
    rw [show (nI k : Int32).toNatClampNeg = k from sm_clN rfl (show k < 2 ^ 31 by omega)]
    refine mz_go 2 (c' := (47, [some (.ref 65), some (.int xa), some (.int ((nI k) + 1)), none, none, none, none, none, none], [], mz_up (mz_up (mz_set (mz_set b 72 r72) 73 r73) 72 k (-1)) 73 k (-1))) rfl ?_
    exact hr
set_option maxHeartbeats 4000000 in
set_option maxRecDepth 100000 in
theorem vr_tuj0 {w b : mz_M} {WW : Nat} (hWW : WW ≤ 6) (h1W : 1 ≤ WW) (h6660 : b 66 60 = nI WW) (hbc : ∀ i, i < 36 → b 66 (70 + i) = w 21 i) {c : Nat → Nat → Nat} (hcn : ∀ i j, i < WW → j < WW → w 21 ((j * 6) + i) = nI (c i j)) (h9 : ∀ i j, i < WW → j < WW → c i j ≤ 9) {I : Nat} (hI : I < WW) : ∀ j k : Nat, k + j = WW → ∀ (a0 : Int32) (o0 o1 o2 o3 : Option Value) (r72 r73 : Nat → Int32), vq_tI c 0 WW (I * WW + k) a0 r72 r73 → ∃ (b0 : Int32), ∃ (p0 : Option Value), ∃ (p1 : Option Value), ∃ (p2 : Option Value), ∃ (p3 : Option Value), ∃ (s72 : Nat → Int32), ∃ (s73 : Nat → Int32), vq_tI c 0 WW (I * WW + WW) b0 s72 s73 ∧ ∀ r, mz_Ex 100 mz_k201 (235, [some (.ref 65), some (.int 0), some (.int b0), some (.int (nI I)), some (.int (nI WW)), p0, p1, p2, p3], [], mz_set (mz_set b 72 s72) 73 s73) r → mz_Ex 100 mz_k201 (88, [some (.ref 65), some (.int 0), some (.int a0), some (.int (nI I)), some (.int (nI k)), o0, o1, o2, o3], [], mz_set (mz_set b 72 r72) 73 r73) r := by
  intro j
  induction j with
  | zero =>
    intro k hk a0 o0 o1 o2 o3 r72 r73 hin
    rw [show k = WW by omega] at hin ⊢
    exact ⟨a0, o0, o1, o2, o3, r72, r73, hin, fun r hr => by
      refine mz_go 2 (c' := (91, [some (.ref 65), some (.int 0), some (.int a0), some (.int (nI I)), some (.int (nI WW)), o0, o1, o2, o3], [.ref 65, .int (nI WW)], mz_set (mz_set b 72 r72) 73 r73)) rfl ?_
      refine mz_doQ (R := mz_r183) (as := [.ref 65]) (rest := [.int (nI WW)]) (r1 := some (.int (nI WW))) (m1 := mz_set (mz_set b 72 r72) 73 r73) mz_t183 mz_v183_65 rfl rfl rfl rfl rfl ⟨?_, rfl⟩ ?_
      · refine mz_go 4 (c' := (7, [some (.ref 65)], [.int (b 66 60)], mz_set (mz_set b 72 r72) 73 r73)) rfl ?_
        rw [h6660]
        exact mz_ret rfl
      refine mz_go 1 (c' := (if (nI WW) ≤ (nI WW) then 235 else 97, [some (.ref 65), some (.int 0), some (.int a0), some (.int (nI I)), some (.int (nI WW)), o0, o1, o2, o3], [], mz_set (mz_set b 72 r72) 73 r73)) rfl ?_
      refine mz_ifT (show ((nI WW) ≤ (nI WW)) from (sm_leN rfl rfl (show WW ≤ WW by omega) (show WW < 2 ^ 31 by omega))) ?_
      exact hr⟩
  | succ j ih =>
    intro k hk a0 o0 o1 o2 o3 r72 r73 hin
    have h9z1 : c I k ≤ 9 := h9 _ _ (by omega) (by omega)
    have Ez1 := vr_colw (w := w) (m := mz_set (mz_set b 72 r72) 73 r73) hbc (A := I) (B := k) (by omega) (by omega) (a := nI I) (b := nI k) rfl rfl
    rw [hcn I k (by omega) (by omega)] at Ez1
    have h9z2 : c I k ≤ 9 := h9 _ _ (by omega) (by omega)
    have Ez2 := vr_colw (w := w) (m := mz_set (mz_set b 72 r72) 73 r73) hbc (A := I) (B := k) (by omega) (by omega) (a := nI I) (b := nI k) rfl rfl
    rw [hcn I k (by omega) (by omega)] at Ez2
    by_cases q1 : a0 = 0
    · have hm : mz_up (mz_up (mz_set (mz_set b 72 r72) 73 r73) 72 (c I k) (nI (c I k))) 73 (c I k) (nI (c I k)) = mz_set (mz_set b 72 ((mz_up (mz_up (mz_set (mz_set b 72 r72) 73 r73) 72 (c I k) (nI (c I k))) 73 (c I k) (nI (c I k))) 72)) 73 ((mz_up (mz_up (mz_set (mz_set b 72 r72) 73 r73) 72 (c I k) (nI (c I k))) 73 (c I k) (nI (c I k))) 73) := sm_of2 (fun i h1 h2 => by simp only [mz_set_ne h1, mz_set_ne h2, mz_up_ne h1, mz_up_ne h2])
      obtain ⟨b0, p0, p1, p2, p3, s72, s73, hin2, Er⟩ := ih (k + 1) (by omega) 0 (some (.int (nI I))) (some (.int (nI k))) (some (.int (nI (c I k)))) (some (.int (nI (c I k)))) ((mz_up (mz_up (mz_set (mz_set b 72 r72) 73 r73) 72 (c I k) (nI (c I k))) 73 (c I k) (nI (c I k))) 72) ((mz_up (mz_up (mz_set (mz_set b 72 r72) 73 r73) 72 (c I k) (nI (c I k))) 73 (c I k) (nI (c I k))) 73) (vq_tuA hin q1)
      refine ⟨b0, p0, p1, p2, p3, s72, s73, hin2, fun r hr0 => ?_⟩
      have hr := Er r hr0
      rw [nI_succ k, ← hm] at hr
      refine mz_go 2 (c' := (91, [some (.ref 65), some (.int 0), some (.int a0), some (.int (nI I)), some (.int (nI k)), o0, o1, o2, o3], [.ref 65, .int (nI k)], mz_set (mz_set b 72 r72) 73 r73)) rfl ?_
      refine mz_doQ (R := mz_r183) (as := [.ref 65]) (rest := [.int (nI k)]) (r1 := some (.int (nI WW))) (m1 := mz_set (mz_set b 72 r72) 73 r73) mz_t183 mz_v183_65 rfl rfl rfl rfl rfl ⟨?_, rfl⟩ ?_
      · refine mz_go 4 (c' := (7, [some (.ref 65)], [.int (b 66 60)], mz_set (mz_set b 72 r72) 73 r73)) rfl ?_
        rw [h6660]
        exact mz_ret rfl
      refine mz_go 1 (c' := (if (nI WW) ≤ (nI k) then 235 else 97, [some (.ref 65), some (.int 0), some (.int a0), some (.int (nI I)), some (.int (nI k)), o0, o1, o2, o3], [], mz_set (mz_set b 72 r72) 73 r73)) rfl ?_
      refine mz_ifF (show ¬ ((nI WW) ≤ (nI k)) from (sm_nleN rfl rfl (show k < WW by omega) (show WW < 2 ^ 31 by omega))) ?_
      refine mz_go 12 (c' := (142, [some (.ref 65), some (.int 0), some (.int a0), some (.int (nI I)), some (.int (nI k)), some (.int (nI I)), some (.int (nI k)), some (.int 0), o3], [.int (nI k), .int (nI I), .ref 65], mz_set (mz_set b 72 r72) 73 r73)) rfl ?_
      refine mz_doQ (R := mz_r186) (as := [.ref 65, .int (nI I), .int (nI k)]) (rest := []) (r1 := some (.int (nI (c I k)))) (m1 := mz_set (mz_set b 72 r72) 73 r73) mz_t186 mz_v186_65 rfl rfl rfl rfl rfl (Ez1.deep (by decide)) ?_
      refine mz_go 4 (c' := (152, [some (.ref 65), some (.int 0), some (.int a0), some (.int (nI I)), some (.int (nI k)), some (.int (nI I)), some (.int (nI k)), some (.int (nI (c I k))), o3], [.int (nI k), .int (nI I), .ref 65], mz_set (mz_set b 72 r72) 73 r73)) rfl ?_
      refine mz_doQ (R := mz_r186) (as := [.ref 65, .int (nI I), .int (nI k)]) (rest := []) (r1 := some (.int (nI (c I k)))) (m1 := mz_set (mz_set b 72 r72) 73 r73) mz_t186 mz_v186_65 rfl rfl rfl rfl rfl (Ez2.deep (by decide)) ?_
      refine mz_go 3 (c' := (if a0 = 0 then 209 else 161, [some (.ref 65), some (.int 0), some (.int a0), some (.int (nI I)), some (.int (nI k)), some (.int (nI I)), some (.int (nI k)), some (.int (nI (c I k))), some (.int (nI (c I k)))], [], mz_set (mz_set b 72 r72) 73 r73)) rfl ?_
      refine mz_ifT q1 ?_
      refine mz_go 6 (c' := (219, [some (.ref 65), some (.int 0), some (.int 0), some (.int (nI I)), some (.int (nI k)), some (.int (nI I)), some (.int (nI k)), some (.int (nI (c I k))), some (.int (nI (c I k)))], [.int (nI (c I k)), .int (nI (c I k)), .ref 72], mz_set (mz_set b 72 r72) 73 r73)) rfl ?_
      refine mz_arr (c' := (220, [some (.ref 65), some (.int 0), some (.int 0), some (.int (nI I)), some (.int (nI k)), some (.int (nI I)), some (.int (nI k)), some (.int (nI (c I k))), some (.int (nI (c I k)))], [], mz_up (mz_set (mz_set b 72 r72) 73 r73) 72 ((nI (c I k)).toNatClampNeg) (nI (c I k)))) rfl (show mz_in (nI (c I k)) 10 = true from sm_inN rfl (show (c I k) < 10 by omega) (by decide)) ?_
      rw [show (nI (c I k) : Int32).toNatClampNeg = (c I k) from sm_clN rfl (show (c I k) < 2 ^ 31 by omega)]
      refine mz_go 4 (c' := (228, [some (.ref 65), some (.int 0), some (.int 0), some (.int (nI I)), some (.int (nI k)), some (.int (nI I)), some (.int (nI k)), some (.int (nI (c I k))), some (.int (nI (c I k)))], [.int (nI (c I k)), .int (nI (c I k)), .ref 73], mz_up (mz_set (mz_set b 72 r72) 73 r73) 72 (c I k) (nI (c I k)))) rfl ?_
      refine mz_arr (c' := (229, [some (.ref 65), some (.int 0), some (.int 0), some (.int (nI I)), some (.int (nI k)), some (.int (nI I)), some (.int (nI k)), some (.int (nI (c I k))), some (.int (nI (c I k)))], [], mz_up (mz_up (mz_set (mz_set b 72 r72) 73 r73) 72 (c I k) (nI (c I k))) 73 ((nI (c I k)).toNatClampNeg) (nI (c I k)))) rfl (show mz_in (nI (c I k)) 10 = true from sm_inN rfl (show (c I k) < 10 by omega) (by decide)) ?_
      rw [show (nI (c I k) : Int32).toNatClampNeg = (c I k) from sm_clN rfl (show (c I k) < 2 ^ 31 by omega)]
      refine mz_go 2 (c' := (88, [some (.ref 65), some (.int 0), some (.int 0), some (.int (nI I)), some (.int ((nI k) + 1)), some (.int (nI I)), some (.int (nI k)), some (.int (nI (c I k))), some (.int (nI (c I k)))], [], mz_up (mz_up (mz_set (mz_set b 72 r72) 73 r73) 72 (c I k) (nI (c I k))) 73 (c I k) (nI (c I k)))) rfl ?_
      exact hr
    · by_cases q2 : (r72 (c I k)) < 0
      · by_cases q3 : (r73 (c I k)) < 0
        · have hm : mz_up (mz_up (mz_set (mz_set b 72 r72) 73 r73) 72 (c I k) (nI (c I k))) 73 (c I k) (nI (c I k)) = mz_set (mz_set b 72 ((mz_up (mz_up (mz_set (mz_set b 72 r72) 73 r73) 72 (c I k) (nI (c I k))) 73 (c I k) (nI (c I k))) 72)) 73 ((mz_up (mz_up (mz_set (mz_set b 72 r72) 73 r73) 72 (c I k) (nI (c I k))) 73 (c I k) (nI (c I k))) 73) := sm_of2 (fun i h1 h2 => by simp only [mz_set_ne h1, mz_set_ne h2, mz_up_ne h1, mz_up_ne h2])
          obtain ⟨b0, p0, p1, p2, p3, s72, s73, hin2, Er⟩ := ih (k + 1) (by omega) 1 (some (.int (nI I))) (some (.int (nI k))) (some (.int (nI (c I k)))) (some (.int (nI (c I k)))) ((mz_up (mz_up (mz_set (mz_set b 72 r72) 73 r73) 72 (c I k) (nI (c I k))) 73 (c I k) (nI (c I k))) 72) ((mz_up (mz_up (mz_set (mz_set b 72 r72) 73 r73) 72 (c I k) (nI (c I k))) 73 (c I k) (nI (c I k))) 73) (vq_tuD h9 hI (by omega) hin q1 (Or.inl q2) (Or.inl q3) (fun v => by rw [mz_up_ne (show (72 : Nat) ≠ 73 by decide), mz_up_eq, mz_set_ne (show (72 : Nat) ≠ 73 by decide), mz_set_eq]; rfl) (fun v => by rw [mz_up_eq, mz_up_ne (show (73 : Nat) ≠ 72 by decide), mz_set_eq]; rfl))
          refine ⟨b0, p0, p1, p2, p3, s72, s73, hin2, fun r hr0 => ?_⟩
          have hr := Er r hr0
          rw [nI_succ k, ← hm] at hr
          refine mz_go 2 (c' := (91, [some (.ref 65), some (.int 0), some (.int a0), some (.int (nI I)), some (.int (nI k)), o0, o1, o2, o3], [.ref 65, .int (nI k)], mz_set (mz_set b 72 r72) 73 r73)) rfl ?_
          refine mz_doQ (R := mz_r183) (as := [.ref 65]) (rest := [.int (nI k)]) (r1 := some (.int (nI WW))) (m1 := mz_set (mz_set b 72 r72) 73 r73) mz_t183 mz_v183_65 rfl rfl rfl rfl rfl ⟨?_, rfl⟩ ?_
          · refine mz_go 4 (c' := (7, [some (.ref 65)], [.int (b 66 60)], mz_set (mz_set b 72 r72) 73 r73)) rfl ?_
            rw [h6660]
            exact mz_ret rfl
          refine mz_go 1 (c' := (if (nI WW) ≤ (nI k) then 235 else 97, [some (.ref 65), some (.int 0), some (.int a0), some (.int (nI I)), some (.int (nI k)), o0, o1, o2, o3], [], mz_set (mz_set b 72 r72) 73 r73)) rfl ?_
          refine mz_ifF (show ¬ ((nI WW) ≤ (nI k)) from (sm_nleN rfl rfl (show k < WW by omega) (show WW < 2 ^ 31 by omega))) ?_
          refine mz_go 12 (c' := (142, [some (.ref 65), some (.int 0), some (.int a0), some (.int (nI I)), some (.int (nI k)), some (.int (nI I)), some (.int (nI k)), some (.int 0), o3], [.int (nI k), .int (nI I), .ref 65], mz_set (mz_set b 72 r72) 73 r73)) rfl ?_
          refine mz_doQ (R := mz_r186) (as := [.ref 65, .int (nI I), .int (nI k)]) (rest := []) (r1 := some (.int (nI (c I k)))) (m1 := mz_set (mz_set b 72 r72) 73 r73) mz_t186 mz_v186_65 rfl rfl rfl rfl rfl (Ez1.deep (by decide)) ?_
          refine mz_go 4 (c' := (152, [some (.ref 65), some (.int 0), some (.int a0), some (.int (nI I)), some (.int (nI k)), some (.int (nI I)), some (.int (nI k)), some (.int (nI (c I k))), o3], [.int (nI k), .int (nI I), .ref 65], mz_set (mz_set b 72 r72) 73 r73)) rfl ?_
          refine mz_doQ (R := mz_r186) (as := [.ref 65, .int (nI I), .int (nI k)]) (rest := []) (r1 := some (.int (nI (c I k)))) (m1 := mz_set (mz_set b 72 r72) 73 r73) mz_t186 mz_v186_65 rfl rfl rfl rfl rfl (Ez2.deep (by decide)) ?_
          refine mz_go 3 (c' := (if a0 = 0 then 209 else 161, [some (.ref 65), some (.int 0), some (.int a0), some (.int (nI I)), some (.int (nI k)), some (.int (nI I)), some (.int (nI k)), some (.int (nI (c I k))), some (.int (nI (c I k)))], [], mz_set (mz_set b 72 r72) 73 r73)) rfl ?_
          refine mz_ifF q1 ?_
          refine mz_go 3 (c' := (167, [some (.ref 65), some (.int 0), some (.int a0), some (.int (nI I)), some (.int (nI k)), some (.int (nI I)), some (.int (nI k)), some (.int (nI (c I k))), some (.int (nI (c I k)))], [.int (nI (c I k)), .ref 72], mz_set (mz_set b 72 r72) 73 r73)) rfl ?_
          refine mz_arr (c' := (168, [some (.ref 65), some (.int 0), some (.int a0), some (.int (nI I)), some (.int (nI k)), some (.int (nI I)), some (.int (nI k)), some (.int (nI (c I k))), some (.int (nI (c I k)))], [.int (r72 ((nI (c I k)).toNatClampNeg))], mz_set (mz_set b 72 r72) 73 r73)) rfl (show mz_in (nI (c I k)) 10 = true from sm_inN rfl (show (c I k) < 10 by omega) (by decide)) ?_
          rw [show (nI (c I k) : Int32).toNatClampNeg = (c I k) from sm_clN rfl (show (c I k) < 2 ^ 31 by omega)]
          refine mz_go 1 (c' := (if (r72 (c I k)) < 0 then 183 else 171, [some (.ref 65), some (.int 0), some (.int a0), some (.int (nI I)), some (.int (nI k)), some (.int (nI I)), some (.int (nI k)), some (.int (nI (c I k))), some (.int (nI (c I k)))], [], mz_set (mz_set b 72 r72) 73 r73)) rfl ?_
          refine mz_ifT q2 ?_
          refine mz_go 3 (c' := (189, [some (.ref 65), some (.int 0), some (.int a0), some (.int (nI I)), some (.int (nI k)), some (.int (nI I)), some (.int (nI k)), some (.int (nI (c I k))), some (.int (nI (c I k)))], [.int (nI (c I k)), .ref 73], mz_set (mz_set b 72 r72) 73 r73)) rfl ?_
          refine mz_arr (c' := (190, [some (.ref 65), some (.int 0), some (.int a0), some (.int (nI I)), some (.int (nI k)), some (.int (nI I)), some (.int (nI k)), some (.int (nI (c I k))), some (.int (nI (c I k)))], [.int (r73 ((nI (c I k)).toNatClampNeg))], mz_set (mz_set b 72 r72) 73 r73)) rfl (show mz_in (nI (c I k)) 10 = true from sm_inN rfl (show (c I k) < 10 by omega) (by decide)) ?_
          rw [show (nI (c I k) : Int32).toNatClampNeg = (c I k) from sm_clN rfl (show (c I k) < 2 ^ 31 by omega)]
          refine mz_go 1 (c' := (if (r73 (c I k)) < 0 then 205 else 193, [some (.ref 65), some (.int 0), some (.int a0), some (.int (nI I)), some (.int (nI k)), some (.int (nI I)), some (.int (nI k)), some (.int (nI (c I k))), some (.int (nI (c I k)))], [], mz_set (mz_set b 72 r72) 73 r73)) rfl ?_
          refine mz_ifT q3 ?_
          refine mz_go 7 (c' := (219, [some (.ref 65), some (.int 0), some (.int 1), some (.int (nI I)), some (.int (nI k)), some (.int (nI I)), some (.int (nI k)), some (.int (nI (c I k))), some (.int (nI (c I k)))], [.int (nI (c I k)), .int (nI (c I k)), .ref 72], mz_set (mz_set b 72 r72) 73 r73)) rfl ?_
          refine mz_arr (c' := (220, [some (.ref 65), some (.int 0), some (.int 1), some (.int (nI I)), some (.int (nI k)), some (.int (nI I)), some (.int (nI k)), some (.int (nI (c I k))), some (.int (nI (c I k)))], [], mz_up (mz_set (mz_set b 72 r72) 73 r73) 72 ((nI (c I k)).toNatClampNeg) (nI (c I k)))) rfl (show mz_in (nI (c I k)) 10 = true from sm_inN rfl (show (c I k) < 10 by omega) (by decide)) ?_
          rw [show (nI (c I k) : Int32).toNatClampNeg = (c I k) from sm_clN rfl (show (c I k) < 2 ^ 31 by omega)]
          refine mz_go 4 (c' := (228, [some (.ref 65), some (.int 0), some (.int 1), some (.int (nI I)), some (.int (nI k)), some (.int (nI I)), some (.int (nI k)), some (.int (nI (c I k))), some (.int (nI (c I k)))], [.int (nI (c I k)), .int (nI (c I k)), .ref 73], mz_up (mz_set (mz_set b 72 r72) 73 r73) 72 (c I k) (nI (c I k)))) rfl ?_
          refine mz_arr (c' := (229, [some (.ref 65), some (.int 0), some (.int 1), some (.int (nI I)), some (.int (nI k)), some (.int (nI I)), some (.int (nI k)), some (.int (nI (c I k))), some (.int (nI (c I k)))], [], mz_up (mz_up (mz_set (mz_set b 72 r72) 73 r73) 72 (c I k) (nI (c I k))) 73 ((nI (c I k)).toNatClampNeg) (nI (c I k)))) rfl (show mz_in (nI (c I k)) 10 = true from sm_inN rfl (show (c I k) < 10 by omega) (by decide)) ?_
          rw [show (nI (c I k) : Int32).toNatClampNeg = (c I k) from sm_clN rfl (show (c I k) < 2 ^ 31 by omega)]
          refine mz_go 2 (c' := (88, [some (.ref 65), some (.int 0), some (.int 1), some (.int (nI I)), some (.int ((nI k) + 1)), some (.int (nI I)), some (.int (nI k)), some (.int (nI (c I k))), some (.int (nI (c I k)))], [], mz_up (mz_up (mz_set (mz_set b 72 r72) 73 r73) 72 (c I k) (nI (c I k))) 73 (c I k) (nI (c I k)))) rfl ?_
          exact hr
        · by_cases q4 : (r73 (c I k)) = (nI (c I k))
          · have hm : mz_up (mz_up (mz_set (mz_set b 72 r72) 73 r73) 72 (c I k) (nI (c I k))) 73 (c I k) (nI (c I k)) = mz_set (mz_set b 72 ((mz_up (mz_up (mz_set (mz_set b 72 r72) 73 r73) 72 (c I k) (nI (c I k))) 73 (c I k) (nI (c I k))) 72)) 73 ((mz_up (mz_up (mz_set (mz_set b 72 r72) 73 r73) 72 (c I k) (nI (c I k))) 73 (c I k) (nI (c I k))) 73) := sm_of2 (fun i h1 h2 => by simp only [mz_set_ne h1, mz_set_ne h2, mz_up_ne h1, mz_up_ne h2])
            obtain ⟨b0, p0, p1, p2, p3, s72, s73, hin2, Er⟩ := ih (k + 1) (by omega) 1 (some (.int (nI I))) (some (.int (nI k))) (some (.int (nI (c I k)))) (some (.int (nI (c I k)))) ((mz_up (mz_up (mz_set (mz_set b 72 r72) 73 r73) 72 (c I k) (nI (c I k))) 73 (c I k) (nI (c I k))) 72) ((mz_up (mz_up (mz_set (mz_set b 72 r72) 73 r73) 72 (c I k) (nI (c I k))) 73 (c I k) (nI (c I k))) 73) (vq_tuD h9 hI (by omega) hin q1 (Or.inl q2) (Or.inr q4) (fun v => by rw [mz_up_ne (show (72 : Nat) ≠ 73 by decide), mz_up_eq, mz_set_ne (show (72 : Nat) ≠ 73 by decide), mz_set_eq]; rfl) (fun v => by rw [mz_up_eq, mz_up_ne (show (73 : Nat) ≠ 72 by decide), mz_set_eq]; rfl))
            refine ⟨b0, p0, p1, p2, p3, s72, s73, hin2, fun r hr0 => ?_⟩
            have hr := Er r hr0
            rw [nI_succ k, ← hm] at hr
            refine mz_go 2 (c' := (91, [some (.ref 65), some (.int 0), some (.int a0), some (.int (nI I)), some (.int (nI k)), o0, o1, o2, o3], [.ref 65, .int (nI k)], mz_set (mz_set b 72 r72) 73 r73)) rfl ?_
            refine mz_doQ (R := mz_r183) (as := [.ref 65]) (rest := [.int (nI k)]) (r1 := some (.int (nI WW))) (m1 := mz_set (mz_set b 72 r72) 73 r73) mz_t183 mz_v183_65 rfl rfl rfl rfl rfl ⟨?_, rfl⟩ ?_
            · refine mz_go 4 (c' := (7, [some (.ref 65)], [.int (b 66 60)], mz_set (mz_set b 72 r72) 73 r73)) rfl ?_
              rw [h6660]
              exact mz_ret rfl
            refine mz_go 1 (c' := (if (nI WW) ≤ (nI k) then 235 else 97, [some (.ref 65), some (.int 0), some (.int a0), some (.int (nI I)), some (.int (nI k)), o0, o1, o2, o3], [], mz_set (mz_set b 72 r72) 73 r73)) rfl ?_
            refine mz_ifF (show ¬ ((nI WW) ≤ (nI k)) from (sm_nleN rfl rfl (show k < WW by omega) (show WW < 2 ^ 31 by omega))) ?_
            refine mz_go 12 (c' := (142, [some (.ref 65), some (.int 0), some (.int a0), some (.int (nI I)), some (.int (nI k)), some (.int (nI I)), some (.int (nI k)), some (.int 0), o3], [.int (nI k), .int (nI I), .ref 65], mz_set (mz_set b 72 r72) 73 r73)) rfl ?_
            refine mz_doQ (R := mz_r186) (as := [.ref 65, .int (nI I), .int (nI k)]) (rest := []) (r1 := some (.int (nI (c I k)))) (m1 := mz_set (mz_set b 72 r72) 73 r73) mz_t186 mz_v186_65 rfl rfl rfl rfl rfl (Ez1.deep (by decide)) ?_
            refine mz_go 4 (c' := (152, [some (.ref 65), some (.int 0), some (.int a0), some (.int (nI I)), some (.int (nI k)), some (.int (nI I)), some (.int (nI k)), some (.int (nI (c I k))), o3], [.int (nI k), .int (nI I), .ref 65], mz_set (mz_set b 72 r72) 73 r73)) rfl ?_
            refine mz_doQ (R := mz_r186) (as := [.ref 65, .int (nI I), .int (nI k)]) (rest := []) (r1 := some (.int (nI (c I k)))) (m1 := mz_set (mz_set b 72 r72) 73 r73) mz_t186 mz_v186_65 rfl rfl rfl rfl rfl (Ez2.deep (by decide)) ?_
            refine mz_go 3 (c' := (if a0 = 0 then 209 else 161, [some (.ref 65), some (.int 0), some (.int a0), some (.int (nI I)), some (.int (nI k)), some (.int (nI I)), some (.int (nI k)), some (.int (nI (c I k))), some (.int (nI (c I k)))], [], mz_set (mz_set b 72 r72) 73 r73)) rfl ?_
            refine mz_ifF q1 ?_
            refine mz_go 3 (c' := (167, [some (.ref 65), some (.int 0), some (.int a0), some (.int (nI I)), some (.int (nI k)), some (.int (nI I)), some (.int (nI k)), some (.int (nI (c I k))), some (.int (nI (c I k)))], [.int (nI (c I k)), .ref 72], mz_set (mz_set b 72 r72) 73 r73)) rfl ?_
            refine mz_arr (c' := (168, [some (.ref 65), some (.int 0), some (.int a0), some (.int (nI I)), some (.int (nI k)), some (.int (nI I)), some (.int (nI k)), some (.int (nI (c I k))), some (.int (nI (c I k)))], [.int (r72 ((nI (c I k)).toNatClampNeg))], mz_set (mz_set b 72 r72) 73 r73)) rfl (show mz_in (nI (c I k)) 10 = true from sm_inN rfl (show (c I k) < 10 by omega) (by decide)) ?_
            rw [show (nI (c I k) : Int32).toNatClampNeg = (c I k) from sm_clN rfl (show (c I k) < 2 ^ 31 by omega)]
            refine mz_go 1 (c' := (if (r72 (c I k)) < 0 then 183 else 171, [some (.ref 65), some (.int 0), some (.int a0), some (.int (nI I)), some (.int (nI k)), some (.int (nI I)), some (.int (nI k)), some (.int (nI (c I k))), some (.int (nI (c I k)))], [], mz_set (mz_set b 72 r72) 73 r73)) rfl ?_
            refine mz_ifT q2 ?_
            refine mz_go 3 (c' := (189, [some (.ref 65), some (.int 0), some (.int a0), some (.int (nI I)), some (.int (nI k)), some (.int (nI I)), some (.int (nI k)), some (.int (nI (c I k))), some (.int (nI (c I k)))], [.int (nI (c I k)), .ref 73], mz_set (mz_set b 72 r72) 73 r73)) rfl ?_
            refine mz_arr (c' := (190, [some (.ref 65), some (.int 0), some (.int a0), some (.int (nI I)), some (.int (nI k)), some (.int (nI I)), some (.int (nI k)), some (.int (nI (c I k))), some (.int (nI (c I k)))], [.int (r73 ((nI (c I k)).toNatClampNeg))], mz_set (mz_set b 72 r72) 73 r73)) rfl (show mz_in (nI (c I k)) 10 = true from sm_inN rfl (show (c I k) < 10 by omega) (by decide)) ?_
            rw [show (nI (c I k) : Int32).toNatClampNeg = (c I k) from sm_clN rfl (show (c I k) < 2 ^ 31 by omega)]
            refine mz_go 1 (c' := (if (r73 (c I k)) < 0 then 205 else 193, [some (.ref 65), some (.int 0), some (.int a0), some (.int (nI I)), some (.int (nI k)), some (.int (nI I)), some (.int (nI k)), some (.int (nI (c I k))), some (.int (nI (c I k)))], [], mz_set (mz_set b 72 r72) 73 r73)) rfl ?_
            refine mz_ifF q3 ?_
            refine mz_go 3 (c' := (199, [some (.ref 65), some (.int 0), some (.int a0), some (.int (nI I)), some (.int (nI k)), some (.int (nI I)), some (.int (nI k)), some (.int (nI (c I k))), some (.int (nI (c I k)))], [.int (nI (c I k)), .ref 73], mz_set (mz_set b 72 r72) 73 r73)) rfl ?_
            refine mz_arr (c' := (200, [some (.ref 65), some (.int 0), some (.int a0), some (.int (nI I)), some (.int (nI k)), some (.int (nI I)), some (.int (nI k)), some (.int (nI (c I k))), some (.int (nI (c I k)))], [.int (r73 ((nI (c I k)).toNatClampNeg))], mz_set (mz_set b 72 r72) 73 r73)) rfl (show mz_in (nI (c I k)) 10 = true from sm_inN rfl (show (c I k) < 10 by omega) (by decide)) ?_
            rw [show (nI (c I k) : Int32).toNatClampNeg = (c I k) from sm_clN rfl (show (c I k) < 2 ^ 31 by omega)]
            refine mz_go 2 (c' := (if (r73 (c I k)) = (nI (c I k)) then 205 else 209, [some (.ref 65), some (.int 0), some (.int a0), some (.int (nI I)), some (.int (nI k)), some (.int (nI I)), some (.int (nI k)), some (.int (nI (c I k))), some (.int (nI (c I k)))], [], mz_set (mz_set b 72 r72) 73 r73)) rfl ?_
            refine mz_ifT q4 ?_
            refine mz_go 7 (c' := (219, [some (.ref 65), some (.int 0), some (.int 1), some (.int (nI I)), some (.int (nI k)), some (.int (nI I)), some (.int (nI k)), some (.int (nI (c I k))), some (.int (nI (c I k)))], [.int (nI (c I k)), .int (nI (c I k)), .ref 72], mz_set (mz_set b 72 r72) 73 r73)) rfl ?_
            refine mz_arr (c' := (220, [some (.ref 65), some (.int 0), some (.int 1), some (.int (nI I)), some (.int (nI k)), some (.int (nI I)), some (.int (nI k)), some (.int (nI (c I k))), some (.int (nI (c I k)))], [], mz_up (mz_set (mz_set b 72 r72) 73 r73) 72 ((nI (c I k)).toNatClampNeg) (nI (c I k)))) rfl (show mz_in (nI (c I k)) 10 = true from sm_inN rfl (show (c I k) < 10 by omega) (by decide)) ?_
            rw [show (nI (c I k) : Int32).toNatClampNeg = (c I k) from sm_clN rfl (show (c I k) < 2 ^ 31 by omega)]
            refine mz_go 4 (c' := (228, [some (.ref 65), some (.int 0), some (.int 1), some (.int (nI I)), some (.int (nI k)), some (.int (nI I)), some (.int (nI k)), some (.int (nI (c I k))), some (.int (nI (c I k)))], [.int (nI (c I k)), .int (nI (c I k)), .ref 73], mz_up (mz_set (mz_set b 72 r72) 73 r73) 72 (c I k) (nI (c I k)))) rfl ?_
            refine mz_arr (c' := (229, [some (.ref 65), some (.int 0), some (.int 1), some (.int (nI I)), some (.int (nI k)), some (.int (nI I)), some (.int (nI k)), some (.int (nI (c I k))), some (.int (nI (c I k)))], [], mz_up (mz_up (mz_set (mz_set b 72 r72) 73 r73) 72 (c I k) (nI (c I k))) 73 ((nI (c I k)).toNatClampNeg) (nI (c I k)))) rfl (show mz_in (nI (c I k)) 10 = true from sm_inN rfl (show (c I k) < 10 by omega) (by decide)) ?_
            rw [show (nI (c I k) : Int32).toNatClampNeg = (c I k) from sm_clN rfl (show (c I k) < 2 ^ 31 by omega)]
            refine mz_go 2 (c' := (88, [some (.ref 65), some (.int 0), some (.int 1), some (.int (nI I)), some (.int ((nI k) + 1)), some (.int (nI I)), some (.int (nI k)), some (.int (nI (c I k))), some (.int (nI (c I k)))], [], mz_up (mz_up (mz_set (mz_set b 72 r72) 73 r73) 72 (c I k) (nI (c I k))) 73 (c I k) (nI (c I k)))) rfl ?_
            exact hr
          · have hm : mz_up (mz_up (mz_set (mz_set b 72 r72) 73 r73) 72 (c I k) (nI (c I k))) 73 (c I k) (nI (c I k)) = mz_set (mz_set b 72 ((mz_up (mz_up (mz_set (mz_set b 72 r72) 73 r73) 72 (c I k) (nI (c I k))) 73 (c I k) (nI (c I k))) 72)) 73 ((mz_up (mz_up (mz_set (mz_set b 72 r72) 73 r73) 72 (c I k) (nI (c I k))) 73 (c I k) (nI (c I k))) 73) := sm_of2 (fun i h1 h2 => by simp only [mz_set_ne h1, mz_set_ne h2, mz_up_ne h1, mz_up_ne h2])
            obtain ⟨b0, p0, p1, p2, p3, s72, s73, hin2, Er⟩ := ih (k + 1) (by omega) 0 (some (.int (nI I))) (some (.int (nI k))) (some (.int (nI (c I k)))) (some (.int (nI (c I k)))) ((mz_up (mz_up (mz_set (mz_set b 72 r72) 73 r73) 72 (c I k) (nI (c I k))) 73 (c I k) (nI (c I k))) 72) ((mz_up (mz_up (mz_set (mz_set b 72 r72) 73 r73) 72 (c I k) (nI (c I k))) 73 (c I k) (nI (c I k))) 73) (vq_tuC h9 hI (by omega) hin q1 q3 q4)
            refine ⟨b0, p0, p1, p2, p3, s72, s73, hin2, fun r hr0 => ?_⟩
            have hr := Er r hr0
            rw [nI_succ k, ← hm] at hr
            refine mz_go 2 (c' := (91, [some (.ref 65), some (.int 0), some (.int a0), some (.int (nI I)), some (.int (nI k)), o0, o1, o2, o3], [.ref 65, .int (nI k)], mz_set (mz_set b 72 r72) 73 r73)) rfl ?_
            refine mz_doQ (R := mz_r183) (as := [.ref 65]) (rest := [.int (nI k)]) (r1 := some (.int (nI WW))) (m1 := mz_set (mz_set b 72 r72) 73 r73) mz_t183 mz_v183_65 rfl rfl rfl rfl rfl ⟨?_, rfl⟩ ?_
            · refine mz_go 4 (c' := (7, [some (.ref 65)], [.int (b 66 60)], mz_set (mz_set b 72 r72) 73 r73)) rfl ?_
              rw [h6660]
              exact mz_ret rfl
            refine mz_go 1 (c' := (if (nI WW) ≤ (nI k) then 235 else 97, [some (.ref 65), some (.int 0), some (.int a0), some (.int (nI I)), some (.int (nI k)), o0, o1, o2, o3], [], mz_set (mz_set b 72 r72) 73 r73)) rfl ?_
            refine mz_ifF (show ¬ ((nI WW) ≤ (nI k)) from (sm_nleN rfl rfl (show k < WW by omega) (show WW < 2 ^ 31 by omega))) ?_
            refine mz_go 12 (c' := (142, [some (.ref 65), some (.int 0), some (.int a0), some (.int (nI I)), some (.int (nI k)), some (.int (nI I)), some (.int (nI k)), some (.int 0), o3], [.int (nI k), .int (nI I), .ref 65], mz_set (mz_set b 72 r72) 73 r73)) rfl ?_
            refine mz_doQ (R := mz_r186) (as := [.ref 65, .int (nI I), .int (nI k)]) (rest := []) (r1 := some (.int (nI (c I k)))) (m1 := mz_set (mz_set b 72 r72) 73 r73) mz_t186 mz_v186_65 rfl rfl rfl rfl rfl (Ez1.deep (by decide)) ?_
            refine mz_go 4 (c' := (152, [some (.ref 65), some (.int 0), some (.int a0), some (.int (nI I)), some (.int (nI k)), some (.int (nI I)), some (.int (nI k)), some (.int (nI (c I k))), o3], [.int (nI k), .int (nI I), .ref 65], mz_set (mz_set b 72 r72) 73 r73)) rfl ?_
            refine mz_doQ (R := mz_r186) (as := [.ref 65, .int (nI I), .int (nI k)]) (rest := []) (r1 := some (.int (nI (c I k)))) (m1 := mz_set (mz_set b 72 r72) 73 r73) mz_t186 mz_v186_65 rfl rfl rfl rfl rfl (Ez2.deep (by decide)) ?_
            refine mz_go 3 (c' := (if a0 = 0 then 209 else 161, [some (.ref 65), some (.int 0), some (.int a0), some (.int (nI I)), some (.int (nI k)), some (.int (nI I)), some (.int (nI k)), some (.int (nI (c I k))), some (.int (nI (c I k)))], [], mz_set (mz_set b 72 r72) 73 r73)) rfl ?_
            refine mz_ifF q1 ?_
            refine mz_go 3 (c' := (167, [some (.ref 65), some (.int 0), some (.int a0), some (.int (nI I)), some (.int (nI k)), some (.int (nI I)), some (.int (nI k)), some (.int (nI (c I k))), some (.int (nI (c I k)))], [.int (nI (c I k)), .ref 72], mz_set (mz_set b 72 r72) 73 r73)) rfl ?_
            refine mz_arr (c' := (168, [some (.ref 65), some (.int 0), some (.int a0), some (.int (nI I)), some (.int (nI k)), some (.int (nI I)), some (.int (nI k)), some (.int (nI (c I k))), some (.int (nI (c I k)))], [.int (r72 ((nI (c I k)).toNatClampNeg))], mz_set (mz_set b 72 r72) 73 r73)) rfl (show mz_in (nI (c I k)) 10 = true from sm_inN rfl (show (c I k) < 10 by omega) (by decide)) ?_
            rw [show (nI (c I k) : Int32).toNatClampNeg = (c I k) from sm_clN rfl (show (c I k) < 2 ^ 31 by omega)]
            refine mz_go 1 (c' := (if (r72 (c I k)) < 0 then 183 else 171, [some (.ref 65), some (.int 0), some (.int a0), some (.int (nI I)), some (.int (nI k)), some (.int (nI I)), some (.int (nI k)), some (.int (nI (c I k))), some (.int (nI (c I k)))], [], mz_set (mz_set b 72 r72) 73 r73)) rfl ?_
            refine mz_ifT q2 ?_
            refine mz_go 3 (c' := (189, [some (.ref 65), some (.int 0), some (.int a0), some (.int (nI I)), some (.int (nI k)), some (.int (nI I)), some (.int (nI k)), some (.int (nI (c I k))), some (.int (nI (c I k)))], [.int (nI (c I k)), .ref 73], mz_set (mz_set b 72 r72) 73 r73)) rfl ?_
            refine mz_arr (c' := (190, [some (.ref 65), some (.int 0), some (.int a0), some (.int (nI I)), some (.int (nI k)), some (.int (nI I)), some (.int (nI k)), some (.int (nI (c I k))), some (.int (nI (c I k)))], [.int (r73 ((nI (c I k)).toNatClampNeg))], mz_set (mz_set b 72 r72) 73 r73)) rfl (show mz_in (nI (c I k)) 10 = true from sm_inN rfl (show (c I k) < 10 by omega) (by decide)) ?_
            rw [show (nI (c I k) : Int32).toNatClampNeg = (c I k) from sm_clN rfl (show (c I k) < 2 ^ 31 by omega)]
            refine mz_go 1 (c' := (if (r73 (c I k)) < 0 then 205 else 193, [some (.ref 65), some (.int 0), some (.int a0), some (.int (nI I)), some (.int (nI k)), some (.int (nI I)), some (.int (nI k)), some (.int (nI (c I k))), some (.int (nI (c I k)))], [], mz_set (mz_set b 72 r72) 73 r73)) rfl ?_
            refine mz_ifF q3 ?_
            refine mz_go 3 (c' := (199, [some (.ref 65), some (.int 0), some (.int a0), some (.int (nI I)), some (.int (nI k)), some (.int (nI I)), some (.int (nI k)), some (.int (nI (c I k))), some (.int (nI (c I k)))], [.int (nI (c I k)), .ref 73], mz_set (mz_set b 72 r72) 73 r73)) rfl ?_
            refine mz_arr (c' := (200, [some (.ref 65), some (.int 0), some (.int a0), some (.int (nI I)), some (.int (nI k)), some (.int (nI I)), some (.int (nI k)), some (.int (nI (c I k))), some (.int (nI (c I k)))], [.int (r73 ((nI (c I k)).toNatClampNeg))], mz_set (mz_set b 72 r72) 73 r73)) rfl (show mz_in (nI (c I k)) 10 = true from sm_inN rfl (show (c I k) < 10 by omega) (by decide)) ?_
            rw [show (nI (c I k) : Int32).toNatClampNeg = (c I k) from sm_clN rfl (show (c I k) < 2 ^ 31 by omega)]
            refine mz_go 2 (c' := (if (r73 (c I k)) = (nI (c I k)) then 205 else 209, [some (.ref 65), some (.int 0), some (.int a0), some (.int (nI I)), some (.int (nI k)), some (.int (nI I)), some (.int (nI k)), some (.int (nI (c I k))), some (.int (nI (c I k)))], [], mz_set (mz_set b 72 r72) 73 r73)) rfl ?_
            refine mz_ifF q4 ?_
            refine mz_go 6 (c' := (219, [some (.ref 65), some (.int 0), some (.int 0), some (.int (nI I)), some (.int (nI k)), some (.int (nI I)), some (.int (nI k)), some (.int (nI (c I k))), some (.int (nI (c I k)))], [.int (nI (c I k)), .int (nI (c I k)), .ref 72], mz_set (mz_set b 72 r72) 73 r73)) rfl ?_
            refine mz_arr (c' := (220, [some (.ref 65), some (.int 0), some (.int 0), some (.int (nI I)), some (.int (nI k)), some (.int (nI I)), some (.int (nI k)), some (.int (nI (c I k))), some (.int (nI (c I k)))], [], mz_up (mz_set (mz_set b 72 r72) 73 r73) 72 ((nI (c I k)).toNatClampNeg) (nI (c I k)))) rfl (show mz_in (nI (c I k)) 10 = true from sm_inN rfl (show (c I k) < 10 by omega) (by decide)) ?_
            rw [show (nI (c I k) : Int32).toNatClampNeg = (c I k) from sm_clN rfl (show (c I k) < 2 ^ 31 by omega)]
            refine mz_go 4 (c' := (228, [some (.ref 65), some (.int 0), some (.int 0), some (.int (nI I)), some (.int (nI k)), some (.int (nI I)), some (.int (nI k)), some (.int (nI (c I k))), some (.int (nI (c I k)))], [.int (nI (c I k)), .int (nI (c I k)), .ref 73], mz_up (mz_set (mz_set b 72 r72) 73 r73) 72 (c I k) (nI (c I k)))) rfl ?_
            refine mz_arr (c' := (229, [some (.ref 65), some (.int 0), some (.int 0), some (.int (nI I)), some (.int (nI k)), some (.int (nI I)), some (.int (nI k)), some (.int (nI (c I k))), some (.int (nI (c I k)))], [], mz_up (mz_up (mz_set (mz_set b 72 r72) 73 r73) 72 (c I k) (nI (c I k))) 73 ((nI (c I k)).toNatClampNeg) (nI (c I k)))) rfl (show mz_in (nI (c I k)) 10 = true from sm_inN rfl (show (c I k) < 10 by omega) (by decide)) ?_
            rw [show (nI (c I k) : Int32).toNatClampNeg = (c I k) from sm_clN rfl (show (c I k) < 2 ^ 31 by omega)]
            refine mz_go 2 (c' := (88, [some (.ref 65), some (.int 0), some (.int 0), some (.int (nI I)), some (.int ((nI k) + 1)), some (.int (nI I)), some (.int (nI k)), some (.int (nI (c I k))), some (.int (nI (c I k)))], [], mz_up (mz_up (mz_set (mz_set b 72 r72) 73 r73) 72 (c I k) (nI (c I k))) 73 (c I k) (nI (c I k)))) rfl ?_
            exact hr
      · by_cases q5 : (r72 (c I k)) = (nI (c I k))
        · by_cases q6 : (r73 (c I k)) < 0
          · have hm : mz_up (mz_up (mz_set (mz_set b 72 r72) 73 r73) 72 (c I k) (nI (c I k))) 73 (c I k) (nI (c I k)) = mz_set (mz_set b 72 ((mz_up (mz_up (mz_set (mz_set b 72 r72) 73 r73) 72 (c I k) (nI (c I k))) 73 (c I k) (nI (c I k))) 72)) 73 ((mz_up (mz_up (mz_set (mz_set b 72 r72) 73 r73) 72 (c I k) (nI (c I k))) 73 (c I k) (nI (c I k))) 73) := sm_of2 (fun i h1 h2 => by simp only [mz_set_ne h1, mz_set_ne h2, mz_up_ne h1, mz_up_ne h2])
            obtain ⟨b0, p0, p1, p2, p3, s72, s73, hin2, Er⟩ := ih (k + 1) (by omega) 1 (some (.int (nI I))) (some (.int (nI k))) (some (.int (nI (c I k)))) (some (.int (nI (c I k)))) ((mz_up (mz_up (mz_set (mz_set b 72 r72) 73 r73) 72 (c I k) (nI (c I k))) 73 (c I k) (nI (c I k))) 72) ((mz_up (mz_up (mz_set (mz_set b 72 r72) 73 r73) 72 (c I k) (nI (c I k))) 73 (c I k) (nI (c I k))) 73) (vq_tuD h9 hI (by omega) hin q1 (Or.inr q5) (Or.inl q6) (fun v => by rw [mz_up_ne (show (72 : Nat) ≠ 73 by decide), mz_up_eq, mz_set_ne (show (72 : Nat) ≠ 73 by decide), mz_set_eq]; rfl) (fun v => by rw [mz_up_eq, mz_up_ne (show (73 : Nat) ≠ 72 by decide), mz_set_eq]; rfl))
            refine ⟨b0, p0, p1, p2, p3, s72, s73, hin2, fun r hr0 => ?_⟩
            have hr := Er r hr0
            rw [nI_succ k, ← hm] at hr
            refine mz_go 2 (c' := (91, [some (.ref 65), some (.int 0), some (.int a0), some (.int (nI I)), some (.int (nI k)), o0, o1, o2, o3], [.ref 65, .int (nI k)], mz_set (mz_set b 72 r72) 73 r73)) rfl ?_
            refine mz_doQ (R := mz_r183) (as := [.ref 65]) (rest := [.int (nI k)]) (r1 := some (.int (nI WW))) (m1 := mz_set (mz_set b 72 r72) 73 r73) mz_t183 mz_v183_65 rfl rfl rfl rfl rfl ⟨?_, rfl⟩ ?_
            · refine mz_go 4 (c' := (7, [some (.ref 65)], [.int (b 66 60)], mz_set (mz_set b 72 r72) 73 r73)) rfl ?_
              rw [h6660]
              exact mz_ret rfl
            refine mz_go 1 (c' := (if (nI WW) ≤ (nI k) then 235 else 97, [some (.ref 65), some (.int 0), some (.int a0), some (.int (nI I)), some (.int (nI k)), o0, o1, o2, o3], [], mz_set (mz_set b 72 r72) 73 r73)) rfl ?_
            refine mz_ifF (show ¬ ((nI WW) ≤ (nI k)) from (sm_nleN rfl rfl (show k < WW by omega) (show WW < 2 ^ 31 by omega))) ?_
            refine mz_go 12 (c' := (142, [some (.ref 65), some (.int 0), some (.int a0), some (.int (nI I)), some (.int (nI k)), some (.int (nI I)), some (.int (nI k)), some (.int 0), o3], [.int (nI k), .int (nI I), .ref 65], mz_set (mz_set b 72 r72) 73 r73)) rfl ?_
            refine mz_doQ (R := mz_r186) (as := [.ref 65, .int (nI I), .int (nI k)]) (rest := []) (r1 := some (.int (nI (c I k)))) (m1 := mz_set (mz_set b 72 r72) 73 r73) mz_t186 mz_v186_65 rfl rfl rfl rfl rfl (Ez1.deep (by decide)) ?_
            refine mz_go 4 (c' := (152, [some (.ref 65), some (.int 0), some (.int a0), some (.int (nI I)), some (.int (nI k)), some (.int (nI I)), some (.int (nI k)), some (.int (nI (c I k))), o3], [.int (nI k), .int (nI I), .ref 65], mz_set (mz_set b 72 r72) 73 r73)) rfl ?_
            refine mz_doQ (R := mz_r186) (as := [.ref 65, .int (nI I), .int (nI k)]) (rest := []) (r1 := some (.int (nI (c I k)))) (m1 := mz_set (mz_set b 72 r72) 73 r73) mz_t186 mz_v186_65 rfl rfl rfl rfl rfl (Ez2.deep (by decide)) ?_
            refine mz_go 3 (c' := (if a0 = 0 then 209 else 161, [some (.ref 65), some (.int 0), some (.int a0), some (.int (nI I)), some (.int (nI k)), some (.int (nI I)), some (.int (nI k)), some (.int (nI (c I k))), some (.int (nI (c I k)))], [], mz_set (mz_set b 72 r72) 73 r73)) rfl ?_
            refine mz_ifF q1 ?_
            refine mz_go 3 (c' := (167, [some (.ref 65), some (.int 0), some (.int a0), some (.int (nI I)), some (.int (nI k)), some (.int (nI I)), some (.int (nI k)), some (.int (nI (c I k))), some (.int (nI (c I k)))], [.int (nI (c I k)), .ref 72], mz_set (mz_set b 72 r72) 73 r73)) rfl ?_
            refine mz_arr (c' := (168, [some (.ref 65), some (.int 0), some (.int a0), some (.int (nI I)), some (.int (nI k)), some (.int (nI I)), some (.int (nI k)), some (.int (nI (c I k))), some (.int (nI (c I k)))], [.int (r72 ((nI (c I k)).toNatClampNeg))], mz_set (mz_set b 72 r72) 73 r73)) rfl (show mz_in (nI (c I k)) 10 = true from sm_inN rfl (show (c I k) < 10 by omega) (by decide)) ?_
            rw [show (nI (c I k) : Int32).toNatClampNeg = (c I k) from sm_clN rfl (show (c I k) < 2 ^ 31 by omega)]
            refine mz_go 1 (c' := (if (r72 (c I k)) < 0 then 183 else 171, [some (.ref 65), some (.int 0), some (.int a0), some (.int (nI I)), some (.int (nI k)), some (.int (nI I)), some (.int (nI k)), some (.int (nI (c I k))), some (.int (nI (c I k)))], [], mz_set (mz_set b 72 r72) 73 r73)) rfl ?_
            refine mz_ifF q2 ?_
            refine mz_go 3 (c' := (177, [some (.ref 65), some (.int 0), some (.int a0), some (.int (nI I)), some (.int (nI k)), some (.int (nI I)), some (.int (nI k)), some (.int (nI (c I k))), some (.int (nI (c I k)))], [.int (nI (c I k)), .ref 72], mz_set (mz_set b 72 r72) 73 r73)) rfl ?_
            refine mz_arr (c' := (178, [some (.ref 65), some (.int 0), some (.int a0), some (.int (nI I)), some (.int (nI k)), some (.int (nI I)), some (.int (nI k)), some (.int (nI (c I k))), some (.int (nI (c I k)))], [.int (r72 ((nI (c I k)).toNatClampNeg))], mz_set (mz_set b 72 r72) 73 r73)) rfl (show mz_in (nI (c I k)) 10 = true from sm_inN rfl (show (c I k) < 10 by omega) (by decide)) ?_
            rw [show (nI (c I k) : Int32).toNatClampNeg = (c I k) from sm_clN rfl (show (c I k) < 2 ^ 31 by omega)]
            refine mz_go 2 (c' := (if (r72 (c I k)) = (nI (c I k)) then 183 else 209, [some (.ref 65), some (.int 0), some (.int a0), some (.int (nI I)), some (.int (nI k)), some (.int (nI I)), some (.int (nI k)), some (.int (nI (c I k))), some (.int (nI (c I k)))], [], mz_set (mz_set b 72 r72) 73 r73)) rfl ?_
            refine mz_ifT q5 ?_
            refine mz_go 3 (c' := (189, [some (.ref 65), some (.int 0), some (.int a0), some (.int (nI I)), some (.int (nI k)), some (.int (nI I)), some (.int (nI k)), some (.int (nI (c I k))), some (.int (nI (c I k)))], [.int (nI (c I k)), .ref 73], mz_set (mz_set b 72 r72) 73 r73)) rfl ?_
            refine mz_arr (c' := (190, [some (.ref 65), some (.int 0), some (.int a0), some (.int (nI I)), some (.int (nI k)), some (.int (nI I)), some (.int (nI k)), some (.int (nI (c I k))), some (.int (nI (c I k)))], [.int (r73 ((nI (c I k)).toNatClampNeg))], mz_set (mz_set b 72 r72) 73 r73)) rfl (show mz_in (nI (c I k)) 10 = true from sm_inN rfl (show (c I k) < 10 by omega) (by decide)) ?_
            rw [show (nI (c I k) : Int32).toNatClampNeg = (c I k) from sm_clN rfl (show (c I k) < 2 ^ 31 by omega)]
            refine mz_go 1 (c' := (if (r73 (c I k)) < 0 then 205 else 193, [some (.ref 65), some (.int 0), some (.int a0), some (.int (nI I)), some (.int (nI k)), some (.int (nI I)), some (.int (nI k)), some (.int (nI (c I k))), some (.int (nI (c I k)))], [], mz_set (mz_set b 72 r72) 73 r73)) rfl ?_
            refine mz_ifT q6 ?_
            refine mz_go 7 (c' := (219, [some (.ref 65), some (.int 0), some (.int 1), some (.int (nI I)), some (.int (nI k)), some (.int (nI I)), some (.int (nI k)), some (.int (nI (c I k))), some (.int (nI (c I k)))], [.int (nI (c I k)), .int (nI (c I k)), .ref 72], mz_set (mz_set b 72 r72) 73 r73)) rfl ?_
            refine mz_arr (c' := (220, [some (.ref 65), some (.int 0), some (.int 1), some (.int (nI I)), some (.int (nI k)), some (.int (nI I)), some (.int (nI k)), some (.int (nI (c I k))), some (.int (nI (c I k)))], [], mz_up (mz_set (mz_set b 72 r72) 73 r73) 72 ((nI (c I k)).toNatClampNeg) (nI (c I k)))) rfl (show mz_in (nI (c I k)) 10 = true from sm_inN rfl (show (c I k) < 10 by omega) (by decide)) ?_
            rw [show (nI (c I k) : Int32).toNatClampNeg = (c I k) from sm_clN rfl (show (c I k) < 2 ^ 31 by omega)]
            refine mz_go 4 (c' := (228, [some (.ref 65), some (.int 0), some (.int 1), some (.int (nI I)), some (.int (nI k)), some (.int (nI I)), some (.int (nI k)), some (.int (nI (c I k))), some (.int (nI (c I k)))], [.int (nI (c I k)), .int (nI (c I k)), .ref 73], mz_up (mz_set (mz_set b 72 r72) 73 r73) 72 (c I k) (nI (c I k)))) rfl ?_
            refine mz_arr (c' := (229, [some (.ref 65), some (.int 0), some (.int 1), some (.int (nI I)), some (.int (nI k)), some (.int (nI I)), some (.int (nI k)), some (.int (nI (c I k))), some (.int (nI (c I k)))], [], mz_up (mz_up (mz_set (mz_set b 72 r72) 73 r73) 72 (c I k) (nI (c I k))) 73 ((nI (c I k)).toNatClampNeg) (nI (c I k)))) rfl (show mz_in (nI (c I k)) 10 = true from sm_inN rfl (show (c I k) < 10 by omega) (by decide)) ?_
            rw [show (nI (c I k) : Int32).toNatClampNeg = (c I k) from sm_clN rfl (show (c I k) < 2 ^ 31 by omega)]
            refine mz_go 2 (c' := (88, [some (.ref 65), some (.int 0), some (.int 1), some (.int (nI I)), some (.int ((nI k) + 1)), some (.int (nI I)), some (.int (nI k)), some (.int (nI (c I k))), some (.int (nI (c I k)))], [], mz_up (mz_up (mz_set (mz_set b 72 r72) 73 r73) 72 (c I k) (nI (c I k))) 73 (c I k) (nI (c I k)))) rfl ?_
            exact hr
          · by_cases q7 : (r73 (c I k)) = (nI (c I k))
            · have hm : mz_up (mz_up (mz_set (mz_set b 72 r72) 73 r73) 72 (c I k) (nI (c I k))) 73 (c I k) (nI (c I k)) = mz_set (mz_set b 72 ((mz_up (mz_up (mz_set (mz_set b 72 r72) 73 r73) 72 (c I k) (nI (c I k))) 73 (c I k) (nI (c I k))) 72)) 73 ((mz_up (mz_up (mz_set (mz_set b 72 r72) 73 r73) 72 (c I k) (nI (c I k))) 73 (c I k) (nI (c I k))) 73) := sm_of2 (fun i h1 h2 => by simp only [mz_set_ne h1, mz_set_ne h2, mz_up_ne h1, mz_up_ne h2])
              obtain ⟨b0, p0, p1, p2, p3, s72, s73, hin2, Er⟩ := ih (k + 1) (by omega) 1 (some (.int (nI I))) (some (.int (nI k))) (some (.int (nI (c I k)))) (some (.int (nI (c I k)))) ((mz_up (mz_up (mz_set (mz_set b 72 r72) 73 r73) 72 (c I k) (nI (c I k))) 73 (c I k) (nI (c I k))) 72) ((mz_up (mz_up (mz_set (mz_set b 72 r72) 73 r73) 72 (c I k) (nI (c I k))) 73 (c I k) (nI (c I k))) 73) (vq_tuD h9 hI (by omega) hin q1 (Or.inr q5) (Or.inr q7) (fun v => by rw [mz_up_ne (show (72 : Nat) ≠ 73 by decide), mz_up_eq, mz_set_ne (show (72 : Nat) ≠ 73 by decide), mz_set_eq]; rfl) (fun v => by rw [mz_up_eq, mz_up_ne (show (73 : Nat) ≠ 72 by decide), mz_set_eq]; rfl))
              refine ⟨b0, p0, p1, p2, p3, s72, s73, hin2, fun r hr0 => ?_⟩
              have hr := Er r hr0
              rw [nI_succ k, ← hm] at hr
              refine mz_go 2 (c' := (91, [some (.ref 65), some (.int 0), some (.int a0), some (.int (nI I)), some (.int (nI k)), o0, o1, o2, o3], [.ref 65, .int (nI k)], mz_set (mz_set b 72 r72) 73 r73)) rfl ?_
              refine mz_doQ (R := mz_r183) (as := [.ref 65]) (rest := [.int (nI k)]) (r1 := some (.int (nI WW))) (m1 := mz_set (mz_set b 72 r72) 73 r73) mz_t183 mz_v183_65 rfl rfl rfl rfl rfl ⟨?_, rfl⟩ ?_
              · refine mz_go 4 (c' := (7, [some (.ref 65)], [.int (b 66 60)], mz_set (mz_set b 72 r72) 73 r73)) rfl ?_
                rw [h6660]
                exact mz_ret rfl
              refine mz_go 1 (c' := (if (nI WW) ≤ (nI k) then 235 else 97, [some (.ref 65), some (.int 0), some (.int a0), some (.int (nI I)), some (.int (nI k)), o0, o1, o2, o3], [], mz_set (mz_set b 72 r72) 73 r73)) rfl ?_
              refine mz_ifF (show ¬ ((nI WW) ≤ (nI k)) from (sm_nleN rfl rfl (show k < WW by omega) (show WW < 2 ^ 31 by omega))) ?_
              refine mz_go 12 (c' := (142, [some (.ref 65), some (.int 0), some (.int a0), some (.int (nI I)), some (.int (nI k)), some (.int (nI I)), some (.int (nI k)), some (.int 0), o3], [.int (nI k), .int (nI I), .ref 65], mz_set (mz_set b 72 r72) 73 r73)) rfl ?_
              refine mz_doQ (R := mz_r186) (as := [.ref 65, .int (nI I), .int (nI k)]) (rest := []) (r1 := some (.int (nI (c I k)))) (m1 := mz_set (mz_set b 72 r72) 73 r73) mz_t186 mz_v186_65 rfl rfl rfl rfl rfl (Ez1.deep (by decide)) ?_
              refine mz_go 4 (c' := (152, [some (.ref 65), some (.int 0), some (.int a0), some (.int (nI I)), some (.int (nI k)), some (.int (nI I)), some (.int (nI k)), some (.int (nI (c I k))), o3], [.int (nI k), .int (nI I), .ref 65], mz_set (mz_set b 72 r72) 73 r73)) rfl ?_
              refine mz_doQ (R := mz_r186) (as := [.ref 65, .int (nI I), .int (nI k)]) (rest := []) (r1 := some (.int (nI (c I k)))) (m1 := mz_set (mz_set b 72 r72) 73 r73) mz_t186 mz_v186_65 rfl rfl rfl rfl rfl (Ez2.deep (by decide)) ?_
              refine mz_go 3 (c' := (if a0 = 0 then 209 else 161, [some (.ref 65), some (.int 0), some (.int a0), some (.int (nI I)), some (.int (nI k)), some (.int (nI I)), some (.int (nI k)), some (.int (nI (c I k))), some (.int (nI (c I k)))], [], mz_set (mz_set b 72 r72) 73 r73)) rfl ?_
              refine mz_ifF q1 ?_
              refine mz_go 3 (c' := (167, [some (.ref 65), some (.int 0), some (.int a0), some (.int (nI I)), some (.int (nI k)), some (.int (nI I)), some (.int (nI k)), some (.int (nI (c I k))), some (.int (nI (c I k)))], [.int (nI (c I k)), .ref 72], mz_set (mz_set b 72 r72) 73 r73)) rfl ?_
              refine mz_arr (c' := (168, [some (.ref 65), some (.int 0), some (.int a0), some (.int (nI I)), some (.int (nI k)), some (.int (nI I)), some (.int (nI k)), some (.int (nI (c I k))), some (.int (nI (c I k)))], [.int (r72 ((nI (c I k)).toNatClampNeg))], mz_set (mz_set b 72 r72) 73 r73)) rfl (show mz_in (nI (c I k)) 10 = true from sm_inN rfl (show (c I k) < 10 by omega) (by decide)) ?_
              rw [show (nI (c I k) : Int32).toNatClampNeg = (c I k) from sm_clN rfl (show (c I k) < 2 ^ 31 by omega)]
              refine mz_go 1 (c' := (if (r72 (c I k)) < 0 then 183 else 171, [some (.ref 65), some (.int 0), some (.int a0), some (.int (nI I)), some (.int (nI k)), some (.int (nI I)), some (.int (nI k)), some (.int (nI (c I k))), some (.int (nI (c I k)))], [], mz_set (mz_set b 72 r72) 73 r73)) rfl ?_
              refine mz_ifF q2 ?_
              refine mz_go 3 (c' := (177, [some (.ref 65), some (.int 0), some (.int a0), some (.int (nI I)), some (.int (nI k)), some (.int (nI I)), some (.int (nI k)), some (.int (nI (c I k))), some (.int (nI (c I k)))], [.int (nI (c I k)), .ref 72], mz_set (mz_set b 72 r72) 73 r73)) rfl ?_
              refine mz_arr (c' := (178, [some (.ref 65), some (.int 0), some (.int a0), some (.int (nI I)), some (.int (nI k)), some (.int (nI I)), some (.int (nI k)), some (.int (nI (c I k))), some (.int (nI (c I k)))], [.int (r72 ((nI (c I k)).toNatClampNeg))], mz_set (mz_set b 72 r72) 73 r73)) rfl (show mz_in (nI (c I k)) 10 = true from sm_inN rfl (show (c I k) < 10 by omega) (by decide)) ?_
              rw [show (nI (c I k) : Int32).toNatClampNeg = (c I k) from sm_clN rfl (show (c I k) < 2 ^ 31 by omega)]
              refine mz_go 2 (c' := (if (r72 (c I k)) = (nI (c I k)) then 183 else 209, [some (.ref 65), some (.int 0), some (.int a0), some (.int (nI I)), some (.int (nI k)), some (.int (nI I)), some (.int (nI k)), some (.int (nI (c I k))), some (.int (nI (c I k)))], [], mz_set (mz_set b 72 r72) 73 r73)) rfl ?_
              refine mz_ifT q5 ?_
              refine mz_go 3 (c' := (189, [some (.ref 65), some (.int 0), some (.int a0), some (.int (nI I)), some (.int (nI k)), some (.int (nI I)), some (.int (nI k)), some (.int (nI (c I k))), some (.int (nI (c I k)))], [.int (nI (c I k)), .ref 73], mz_set (mz_set b 72 r72) 73 r73)) rfl ?_
              refine mz_arr (c' := (190, [some (.ref 65), some (.int 0), some (.int a0), some (.int (nI I)), some (.int (nI k)), some (.int (nI I)), some (.int (nI k)), some (.int (nI (c I k))), some (.int (nI (c I k)))], [.int (r73 ((nI (c I k)).toNatClampNeg))], mz_set (mz_set b 72 r72) 73 r73)) rfl (show mz_in (nI (c I k)) 10 = true from sm_inN rfl (show (c I k) < 10 by omega) (by decide)) ?_
              rw [show (nI (c I k) : Int32).toNatClampNeg = (c I k) from sm_clN rfl (show (c I k) < 2 ^ 31 by omega)]
              refine mz_go 1 (c' := (if (r73 (c I k)) < 0 then 205 else 193, [some (.ref 65), some (.int 0), some (.int a0), some (.int (nI I)), some (.int (nI k)), some (.int (nI I)), some (.int (nI k)), some (.int (nI (c I k))), some (.int (nI (c I k)))], [], mz_set (mz_set b 72 r72) 73 r73)) rfl ?_
              refine mz_ifF q6 ?_
              refine mz_go 3 (c' := (199, [some (.ref 65), some (.int 0), some (.int a0), some (.int (nI I)), some (.int (nI k)), some (.int (nI I)), some (.int (nI k)), some (.int (nI (c I k))), some (.int (nI (c I k)))], [.int (nI (c I k)), .ref 73], mz_set (mz_set b 72 r72) 73 r73)) rfl ?_
              refine mz_arr (c' := (200, [some (.ref 65), some (.int 0), some (.int a0), some (.int (nI I)), some (.int (nI k)), some (.int (nI I)), some (.int (nI k)), some (.int (nI (c I k))), some (.int (nI (c I k)))], [.int (r73 ((nI (c I k)).toNatClampNeg))], mz_set (mz_set b 72 r72) 73 r73)) rfl (show mz_in (nI (c I k)) 10 = true from sm_inN rfl (show (c I k) < 10 by omega) (by decide)) ?_
              rw [show (nI (c I k) : Int32).toNatClampNeg = (c I k) from sm_clN rfl (show (c I k) < 2 ^ 31 by omega)]
              refine mz_go 2 (c' := (if (r73 (c I k)) = (nI (c I k)) then 205 else 209, [some (.ref 65), some (.int 0), some (.int a0), some (.int (nI I)), some (.int (nI k)), some (.int (nI I)), some (.int (nI k)), some (.int (nI (c I k))), some (.int (nI (c I k)))], [], mz_set (mz_set b 72 r72) 73 r73)) rfl ?_
              refine mz_ifT q7 ?_
              refine mz_go 7 (c' := (219, [some (.ref 65), some (.int 0), some (.int 1), some (.int (nI I)), some (.int (nI k)), some (.int (nI I)), some (.int (nI k)), some (.int (nI (c I k))), some (.int (nI (c I k)))], [.int (nI (c I k)), .int (nI (c I k)), .ref 72], mz_set (mz_set b 72 r72) 73 r73)) rfl ?_
              refine mz_arr (c' := (220, [some (.ref 65), some (.int 0), some (.int 1), some (.int (nI I)), some (.int (nI k)), some (.int (nI I)), some (.int (nI k)), some (.int (nI (c I k))), some (.int (nI (c I k)))], [], mz_up (mz_set (mz_set b 72 r72) 73 r73) 72 ((nI (c I k)).toNatClampNeg) (nI (c I k)))) rfl (show mz_in (nI (c I k)) 10 = true from sm_inN rfl (show (c I k) < 10 by omega) (by decide)) ?_
              rw [show (nI (c I k) : Int32).toNatClampNeg = (c I k) from sm_clN rfl (show (c I k) < 2 ^ 31 by omega)]
              refine mz_go 4 (c' := (228, [some (.ref 65), some (.int 0), some (.int 1), some (.int (nI I)), some (.int (nI k)), some (.int (nI I)), some (.int (nI k)), some (.int (nI (c I k))), some (.int (nI (c I k)))], [.int (nI (c I k)), .int (nI (c I k)), .ref 73], mz_up (mz_set (mz_set b 72 r72) 73 r73) 72 (c I k) (nI (c I k)))) rfl ?_
              refine mz_arr (c' := (229, [some (.ref 65), some (.int 0), some (.int 1), some (.int (nI I)), some (.int (nI k)), some (.int (nI I)), some (.int (nI k)), some (.int (nI (c I k))), some (.int (nI (c I k)))], [], mz_up (mz_up (mz_set (mz_set b 72 r72) 73 r73) 72 (c I k) (nI (c I k))) 73 ((nI (c I k)).toNatClampNeg) (nI (c I k)))) rfl (show mz_in (nI (c I k)) 10 = true from sm_inN rfl (show (c I k) < 10 by omega) (by decide)) ?_
              rw [show (nI (c I k) : Int32).toNatClampNeg = (c I k) from sm_clN rfl (show (c I k) < 2 ^ 31 by omega)]
              refine mz_go 2 (c' := (88, [some (.ref 65), some (.int 0), some (.int 1), some (.int (nI I)), some (.int ((nI k) + 1)), some (.int (nI I)), some (.int (nI k)), some (.int (nI (c I k))), some (.int (nI (c I k)))], [], mz_up (mz_up (mz_set (mz_set b 72 r72) 73 r73) 72 (c I k) (nI (c I k))) 73 (c I k) (nI (c I k)))) rfl ?_
              exact hr
            · have hm : mz_up (mz_up (mz_set (mz_set b 72 r72) 73 r73) 72 (c I k) (nI (c I k))) 73 (c I k) (nI (c I k)) = mz_set (mz_set b 72 ((mz_up (mz_up (mz_set (mz_set b 72 r72) 73 r73) 72 (c I k) (nI (c I k))) 73 (c I k) (nI (c I k))) 72)) 73 ((mz_up (mz_up (mz_set (mz_set b 72 r72) 73 r73) 72 (c I k) (nI (c I k))) 73 (c I k) (nI (c I k))) 73) := sm_of2 (fun i h1 h2 => by simp only [mz_set_ne h1, mz_set_ne h2, mz_up_ne h1, mz_up_ne h2])
              obtain ⟨b0, p0, p1, p2, p3, s72, s73, hin2, Er⟩ := ih (k + 1) (by omega) 0 (some (.int (nI I))) (some (.int (nI k))) (some (.int (nI (c I k)))) (some (.int (nI (c I k)))) ((mz_up (mz_up (mz_set (mz_set b 72 r72) 73 r73) 72 (c I k) (nI (c I k))) 73 (c I k) (nI (c I k))) 72) ((mz_up (mz_up (mz_set (mz_set b 72 r72) 73 r73) 72 (c I k) (nI (c I k))) 73 (c I k) (nI (c I k))) 73) (vq_tuC h9 hI (by omega) hin q1 q6 q7)
              refine ⟨b0, p0, p1, p2, p3, s72, s73, hin2, fun r hr0 => ?_⟩
              have hr := Er r hr0
              rw [nI_succ k, ← hm] at hr
              refine mz_go 2 (c' := (91, [some (.ref 65), some (.int 0), some (.int a0), some (.int (nI I)), some (.int (nI k)), o0, o1, o2, o3], [.ref 65, .int (nI k)], mz_set (mz_set b 72 r72) 73 r73)) rfl ?_
              refine mz_doQ (R := mz_r183) (as := [.ref 65]) (rest := [.int (nI k)]) (r1 := some (.int (nI WW))) (m1 := mz_set (mz_set b 72 r72) 73 r73) mz_t183 mz_v183_65 rfl rfl rfl rfl rfl ⟨?_, rfl⟩ ?_
              · refine mz_go 4 (c' := (7, [some (.ref 65)], [.int (b 66 60)], mz_set (mz_set b 72 r72) 73 r73)) rfl ?_
                rw [h6660]
                exact mz_ret rfl
              refine mz_go 1 (c' := (if (nI WW) ≤ (nI k) then 235 else 97, [some (.ref 65), some (.int 0), some (.int a0), some (.int (nI I)), some (.int (nI k)), o0, o1, o2, o3], [], mz_set (mz_set b 72 r72) 73 r73)) rfl ?_
              refine mz_ifF (show ¬ ((nI WW) ≤ (nI k)) from (sm_nleN rfl rfl (show k < WW by omega) (show WW < 2 ^ 31 by omega))) ?_
              refine mz_go 12 (c' := (142, [some (.ref 65), some (.int 0), some (.int a0), some (.int (nI I)), some (.int (nI k)), some (.int (nI I)), some (.int (nI k)), some (.int 0), o3], [.int (nI k), .int (nI I), .ref 65], mz_set (mz_set b 72 r72) 73 r73)) rfl ?_
              refine mz_doQ (R := mz_r186) (as := [.ref 65, .int (nI I), .int (nI k)]) (rest := []) (r1 := some (.int (nI (c I k)))) (m1 := mz_set (mz_set b 72 r72) 73 r73) mz_t186 mz_v186_65 rfl rfl rfl rfl rfl (Ez1.deep (by decide)) ?_
              refine mz_go 4 (c' := (152, [some (.ref 65), some (.int 0), some (.int a0), some (.int (nI I)), some (.int (nI k)), some (.int (nI I)), some (.int (nI k)), some (.int (nI (c I k))), o3], [.int (nI k), .int (nI I), .ref 65], mz_set (mz_set b 72 r72) 73 r73)) rfl ?_
              refine mz_doQ (R := mz_r186) (as := [.ref 65, .int (nI I), .int (nI k)]) (rest := []) (r1 := some (.int (nI (c I k)))) (m1 := mz_set (mz_set b 72 r72) 73 r73) mz_t186 mz_v186_65 rfl rfl rfl rfl rfl (Ez2.deep (by decide)) ?_
              refine mz_go 3 (c' := (if a0 = 0 then 209 else 161, [some (.ref 65), some (.int 0), some (.int a0), some (.int (nI I)), some (.int (nI k)), some (.int (nI I)), some (.int (nI k)), some (.int (nI (c I k))), some (.int (nI (c I k)))], [], mz_set (mz_set b 72 r72) 73 r73)) rfl ?_
              refine mz_ifF q1 ?_
              refine mz_go 3 (c' := (167, [some (.ref 65), some (.int 0), some (.int a0), some (.int (nI I)), some (.int (nI k)), some (.int (nI I)), some (.int (nI k)), some (.int (nI (c I k))), some (.int (nI (c I k)))], [.int (nI (c I k)), .ref 72], mz_set (mz_set b 72 r72) 73 r73)) rfl ?_
              refine mz_arr (c' := (168, [some (.ref 65), some (.int 0), some (.int a0), some (.int (nI I)), some (.int (nI k)), some (.int (nI I)), some (.int (nI k)), some (.int (nI (c I k))), some (.int (nI (c I k)))], [.int (r72 ((nI (c I k)).toNatClampNeg))], mz_set (mz_set b 72 r72) 73 r73)) rfl (show mz_in (nI (c I k)) 10 = true from sm_inN rfl (show (c I k) < 10 by omega) (by decide)) ?_
              rw [show (nI (c I k) : Int32).toNatClampNeg = (c I k) from sm_clN rfl (show (c I k) < 2 ^ 31 by omega)]
              refine mz_go 1 (c' := (if (r72 (c I k)) < 0 then 183 else 171, [some (.ref 65), some (.int 0), some (.int a0), some (.int (nI I)), some (.int (nI k)), some (.int (nI I)), some (.int (nI k)), some (.int (nI (c I k))), some (.int (nI (c I k)))], [], mz_set (mz_set b 72 r72) 73 r73)) rfl ?_
              refine mz_ifF q2 ?_
              refine mz_go 3 (c' := (177, [some (.ref 65), some (.int 0), some (.int a0), some (.int (nI I)), some (.int (nI k)), some (.int (nI I)), some (.int (nI k)), some (.int (nI (c I k))), some (.int (nI (c I k)))], [.int (nI (c I k)), .ref 72], mz_set (mz_set b 72 r72) 73 r73)) rfl ?_
              refine mz_arr (c' := (178, [some (.ref 65), some (.int 0), some (.int a0), some (.int (nI I)), some (.int (nI k)), some (.int (nI I)), some (.int (nI k)), some (.int (nI (c I k))), some (.int (nI (c I k)))], [.int (r72 ((nI (c I k)).toNatClampNeg))], mz_set (mz_set b 72 r72) 73 r73)) rfl (show mz_in (nI (c I k)) 10 = true from sm_inN rfl (show (c I k) < 10 by omega) (by decide)) ?_
              rw [show (nI (c I k) : Int32).toNatClampNeg = (c I k) from sm_clN rfl (show (c I k) < 2 ^ 31 by omega)]
              refine mz_go 2 (c' := (if (r72 (c I k)) = (nI (c I k)) then 183 else 209, [some (.ref 65), some (.int 0), some (.int a0), some (.int (nI I)), some (.int (nI k)), some (.int (nI I)), some (.int (nI k)), some (.int (nI (c I k))), some (.int (nI (c I k)))], [], mz_set (mz_set b 72 r72) 73 r73)) rfl ?_
              refine mz_ifT q5 ?_
              refine mz_go 3 (c' := (189, [some (.ref 65), some (.int 0), some (.int a0), some (.int (nI I)), some (.int (nI k)), some (.int (nI I)), some (.int (nI k)), some (.int (nI (c I k))), some (.int (nI (c I k)))], [.int (nI (c I k)), .ref 73], mz_set (mz_set b 72 r72) 73 r73)) rfl ?_
              refine mz_arr (c' := (190, [some (.ref 65), some (.int 0), some (.int a0), some (.int (nI I)), some (.int (nI k)), some (.int (nI I)), some (.int (nI k)), some (.int (nI (c I k))), some (.int (nI (c I k)))], [.int (r73 ((nI (c I k)).toNatClampNeg))], mz_set (mz_set b 72 r72) 73 r73)) rfl (show mz_in (nI (c I k)) 10 = true from sm_inN rfl (show (c I k) < 10 by omega) (by decide)) ?_
              rw [show (nI (c I k) : Int32).toNatClampNeg = (c I k) from sm_clN rfl (show (c I k) < 2 ^ 31 by omega)]
              refine mz_go 1 (c' := (if (r73 (c I k)) < 0 then 205 else 193, [some (.ref 65), some (.int 0), some (.int a0), some (.int (nI I)), some (.int (nI k)), some (.int (nI I)), some (.int (nI k)), some (.int (nI (c I k))), some (.int (nI (c I k)))], [], mz_set (mz_set b 72 r72) 73 r73)) rfl ?_
              refine mz_ifF q6 ?_
              refine mz_go 3 (c' := (199, [some (.ref 65), some (.int 0), some (.int a0), some (.int (nI I)), some (.int (nI k)), some (.int (nI I)), some (.int (nI k)), some (.int (nI (c I k))), some (.int (nI (c I k)))], [.int (nI (c I k)), .ref 73], mz_set (mz_set b 72 r72) 73 r73)) rfl ?_
              refine mz_arr (c' := (200, [some (.ref 65), some (.int 0), some (.int a0), some (.int (nI I)), some (.int (nI k)), some (.int (nI I)), some (.int (nI k)), some (.int (nI (c I k))), some (.int (nI (c I k)))], [.int (r73 ((nI (c I k)).toNatClampNeg))], mz_set (mz_set b 72 r72) 73 r73)) rfl (show mz_in (nI (c I k)) 10 = true from sm_inN rfl (show (c I k) < 10 by omega) (by decide)) ?_
              rw [show (nI (c I k) : Int32).toNatClampNeg = (c I k) from sm_clN rfl (show (c I k) < 2 ^ 31 by omega)]
              refine mz_go 2 (c' := (if (r73 (c I k)) = (nI (c I k)) then 205 else 209, [some (.ref 65), some (.int 0), some (.int a0), some (.int (nI I)), some (.int (nI k)), some (.int (nI I)), some (.int (nI k)), some (.int (nI (c I k))), some (.int (nI (c I k)))], [], mz_set (mz_set b 72 r72) 73 r73)) rfl ?_
              refine mz_ifF q7 ?_
              refine mz_go 6 (c' := (219, [some (.ref 65), some (.int 0), some (.int 0), some (.int (nI I)), some (.int (nI k)), some (.int (nI I)), some (.int (nI k)), some (.int (nI (c I k))), some (.int (nI (c I k)))], [.int (nI (c I k)), .int (nI (c I k)), .ref 72], mz_set (mz_set b 72 r72) 73 r73)) rfl ?_
              refine mz_arr (c' := (220, [some (.ref 65), some (.int 0), some (.int 0), some (.int (nI I)), some (.int (nI k)), some (.int (nI I)), some (.int (nI k)), some (.int (nI (c I k))), some (.int (nI (c I k)))], [], mz_up (mz_set (mz_set b 72 r72) 73 r73) 72 ((nI (c I k)).toNatClampNeg) (nI (c I k)))) rfl (show mz_in (nI (c I k)) 10 = true from sm_inN rfl (show (c I k) < 10 by omega) (by decide)) ?_
              rw [show (nI (c I k) : Int32).toNatClampNeg = (c I k) from sm_clN rfl (show (c I k) < 2 ^ 31 by omega)]
              refine mz_go 4 (c' := (228, [some (.ref 65), some (.int 0), some (.int 0), some (.int (nI I)), some (.int (nI k)), some (.int (nI I)), some (.int (nI k)), some (.int (nI (c I k))), some (.int (nI (c I k)))], [.int (nI (c I k)), .int (nI (c I k)), .ref 73], mz_up (mz_set (mz_set b 72 r72) 73 r73) 72 (c I k) (nI (c I k)))) rfl ?_
              refine mz_arr (c' := (229, [some (.ref 65), some (.int 0), some (.int 0), some (.int (nI I)), some (.int (nI k)), some (.int (nI I)), some (.int (nI k)), some (.int (nI (c I k))), some (.int (nI (c I k)))], [], mz_up (mz_up (mz_set (mz_set b 72 r72) 73 r73) 72 (c I k) (nI (c I k))) 73 ((nI (c I k)).toNatClampNeg) (nI (c I k)))) rfl (show mz_in (nI (c I k)) 10 = true from sm_inN rfl (show (c I k) < 10 by omega) (by decide)) ?_
              rw [show (nI (c I k) : Int32).toNatClampNeg = (c I k) from sm_clN rfl (show (c I k) < 2 ^ 31 by omega)]
              refine mz_go 2 (c' := (88, [some (.ref 65), some (.int 0), some (.int 0), some (.int (nI I)), some (.int ((nI k) + 1)), some (.int (nI I)), some (.int (nI k)), some (.int (nI (c I k))), some (.int (nI (c I k)))], [], mz_up (mz_up (mz_set (mz_set b 72 r72) 73 r73) 72 (c I k) (nI (c I k))) 73 (c I k) (nI (c I k)))) rfl ?_
              exact hr
        · have hm : mz_up (mz_up (mz_set (mz_set b 72 r72) 73 r73) 72 (c I k) (nI (c I k))) 73 (c I k) (nI (c I k)) = mz_set (mz_set b 72 ((mz_up (mz_up (mz_set (mz_set b 72 r72) 73 r73) 72 (c I k) (nI (c I k))) 73 (c I k) (nI (c I k))) 72)) 73 ((mz_up (mz_up (mz_set (mz_set b 72 r72) 73 r73) 72 (c I k) (nI (c I k))) 73 (c I k) (nI (c I k))) 73) := sm_of2 (fun i h1 h2 => by simp only [mz_set_ne h1, mz_set_ne h2, mz_up_ne h1, mz_up_ne h2])
          obtain ⟨b0, p0, p1, p2, p3, s72, s73, hin2, Er⟩ := ih (k + 1) (by omega) 0 (some (.int (nI I))) (some (.int (nI k))) (some (.int (nI (c I k)))) (some (.int (nI (c I k)))) ((mz_up (mz_up (mz_set (mz_set b 72 r72) 73 r73) 72 (c I k) (nI (c I k))) 73 (c I k) (nI (c I k))) 72) ((mz_up (mz_up (mz_set (mz_set b 72 r72) 73 r73) 72 (c I k) (nI (c I k))) 73 (c I k) (nI (c I k))) 73) (vq_tuB h9 hI (by omega) hin q1 q2 q5)
          refine ⟨b0, p0, p1, p2, p3, s72, s73, hin2, fun r hr0 => ?_⟩
          have hr := Er r hr0
          rw [nI_succ k, ← hm] at hr
          refine mz_go 2 (c' := (91, [some (.ref 65), some (.int 0), some (.int a0), some (.int (nI I)), some (.int (nI k)), o0, o1, o2, o3], [.ref 65, .int (nI k)], mz_set (mz_set b 72 r72) 73 r73)) rfl ?_
          refine mz_doQ (R := mz_r183) (as := [.ref 65]) (rest := [.int (nI k)]) (r1 := some (.int (nI WW))) (m1 := mz_set (mz_set b 72 r72) 73 r73) mz_t183 mz_v183_65 rfl rfl rfl rfl rfl ⟨?_, rfl⟩ ?_
          · refine mz_go 4 (c' := (7, [some (.ref 65)], [.int (b 66 60)], mz_set (mz_set b 72 r72) 73 r73)) rfl ?_
            rw [h6660]
            exact mz_ret rfl
          refine mz_go 1 (c' := (if (nI WW) ≤ (nI k) then 235 else 97, [some (.ref 65), some (.int 0), some (.int a0), some (.int (nI I)), some (.int (nI k)), o0, o1, o2, o3], [], mz_set (mz_set b 72 r72) 73 r73)) rfl ?_
          refine mz_ifF (show ¬ ((nI WW) ≤ (nI k)) from (sm_nleN rfl rfl (show k < WW by omega) (show WW < 2 ^ 31 by omega))) ?_
          refine mz_go 12 (c' := (142, [some (.ref 65), some (.int 0), some (.int a0), some (.int (nI I)), some (.int (nI k)), some (.int (nI I)), some (.int (nI k)), some (.int 0), o3], [.int (nI k), .int (nI I), .ref 65], mz_set (mz_set b 72 r72) 73 r73)) rfl ?_
          refine mz_doQ (R := mz_r186) (as := [.ref 65, .int (nI I), .int (nI k)]) (rest := []) (r1 := some (.int (nI (c I k)))) (m1 := mz_set (mz_set b 72 r72) 73 r73) mz_t186 mz_v186_65 rfl rfl rfl rfl rfl (Ez1.deep (by decide)) ?_
          refine mz_go 4 (c' := (152, [some (.ref 65), some (.int 0), some (.int a0), some (.int (nI I)), some (.int (nI k)), some (.int (nI I)), some (.int (nI k)), some (.int (nI (c I k))), o3], [.int (nI k), .int (nI I), .ref 65], mz_set (mz_set b 72 r72) 73 r73)) rfl ?_
          refine mz_doQ (R := mz_r186) (as := [.ref 65, .int (nI I), .int (nI k)]) (rest := []) (r1 := some (.int (nI (c I k)))) (m1 := mz_set (mz_set b 72 r72) 73 r73) mz_t186 mz_v186_65 rfl rfl rfl rfl rfl (Ez2.deep (by decide)) ?_
          refine mz_go 3 (c' := (if a0 = 0 then 209 else 161, [some (.ref 65), some (.int 0), some (.int a0), some (.int (nI I)), some (.int (nI k)), some (.int (nI I)), some (.int (nI k)), some (.int (nI (c I k))), some (.int (nI (c I k)))], [], mz_set (mz_set b 72 r72) 73 r73)) rfl ?_
          refine mz_ifF q1 ?_
          refine mz_go 3 (c' := (167, [some (.ref 65), some (.int 0), some (.int a0), some (.int (nI I)), some (.int (nI k)), some (.int (nI I)), some (.int (nI k)), some (.int (nI (c I k))), some (.int (nI (c I k)))], [.int (nI (c I k)), .ref 72], mz_set (mz_set b 72 r72) 73 r73)) rfl ?_
          refine mz_arr (c' := (168, [some (.ref 65), some (.int 0), some (.int a0), some (.int (nI I)), some (.int (nI k)), some (.int (nI I)), some (.int (nI k)), some (.int (nI (c I k))), some (.int (nI (c I k)))], [.int (r72 ((nI (c I k)).toNatClampNeg))], mz_set (mz_set b 72 r72) 73 r73)) rfl (show mz_in (nI (c I k)) 10 = true from sm_inN rfl (show (c I k) < 10 by omega) (by decide)) ?_
          rw [show (nI (c I k) : Int32).toNatClampNeg = (c I k) from sm_clN rfl (show (c I k) < 2 ^ 31 by omega)]
          refine mz_go 1 (c' := (if (r72 (c I k)) < 0 then 183 else 171, [some (.ref 65), some (.int 0), some (.int a0), some (.int (nI I)), some (.int (nI k)), some (.int (nI I)), some (.int (nI k)), some (.int (nI (c I k))), some (.int (nI (c I k)))], [], mz_set (mz_set b 72 r72) 73 r73)) rfl ?_
          refine mz_ifF q2 ?_
          refine mz_go 3 (c' := (177, [some (.ref 65), some (.int 0), some (.int a0), some (.int (nI I)), some (.int (nI k)), some (.int (nI I)), some (.int (nI k)), some (.int (nI (c I k))), some (.int (nI (c I k)))], [.int (nI (c I k)), .ref 72], mz_set (mz_set b 72 r72) 73 r73)) rfl ?_
          refine mz_arr (c' := (178, [some (.ref 65), some (.int 0), some (.int a0), some (.int (nI I)), some (.int (nI k)), some (.int (nI I)), some (.int (nI k)), some (.int (nI (c I k))), some (.int (nI (c I k)))], [.int (r72 ((nI (c I k)).toNatClampNeg))], mz_set (mz_set b 72 r72) 73 r73)) rfl (show mz_in (nI (c I k)) 10 = true from sm_inN rfl (show (c I k) < 10 by omega) (by decide)) ?_
          rw [show (nI (c I k) : Int32).toNatClampNeg = (c I k) from sm_clN rfl (show (c I k) < 2 ^ 31 by omega)]
          refine mz_go 2 (c' := (if (r72 (c I k)) = (nI (c I k)) then 183 else 209, [some (.ref 65), some (.int 0), some (.int a0), some (.int (nI I)), some (.int (nI k)), some (.int (nI I)), some (.int (nI k)), some (.int (nI (c I k))), some (.int (nI (c I k)))], [], mz_set (mz_set b 72 r72) 73 r73)) rfl ?_
          refine mz_ifF q5 ?_
          refine mz_go 6 (c' := (219, [some (.ref 65), some (.int 0), some (.int 0), some (.int (nI I)), some (.int (nI k)), some (.int (nI I)), some (.int (nI k)), some (.int (nI (c I k))), some (.int (nI (c I k)))], [.int (nI (c I k)), .int (nI (c I k)), .ref 72], mz_set (mz_set b 72 r72) 73 r73)) rfl ?_
          refine mz_arr (c' := (220, [some (.ref 65), some (.int 0), some (.int 0), some (.int (nI I)), some (.int (nI k)), some (.int (nI I)), some (.int (nI k)), some (.int (nI (c I k))), some (.int (nI (c I k)))], [], mz_up (mz_set (mz_set b 72 r72) 73 r73) 72 ((nI (c I k)).toNatClampNeg) (nI (c I k)))) rfl (show mz_in (nI (c I k)) 10 = true from sm_inN rfl (show (c I k) < 10 by omega) (by decide)) ?_
          rw [show (nI (c I k) : Int32).toNatClampNeg = (c I k) from sm_clN rfl (show (c I k) < 2 ^ 31 by omega)]
          refine mz_go 4 (c' := (228, [some (.ref 65), some (.int 0), some (.int 0), some (.int (nI I)), some (.int (nI k)), some (.int (nI I)), some (.int (nI k)), some (.int (nI (c I k))), some (.int (nI (c I k)))], [.int (nI (c I k)), .int (nI (c I k)), .ref 73], mz_up (mz_set (mz_set b 72 r72) 73 r73) 72 (c I k) (nI (c I k)))) rfl ?_
          refine mz_arr (c' := (229, [some (.ref 65), some (.int 0), some (.int 0), some (.int (nI I)), some (.int (nI k)), some (.int (nI I)), some (.int (nI k)), some (.int (nI (c I k))), some (.int (nI (c I k)))], [], mz_up (mz_up (mz_set (mz_set b 72 r72) 73 r73) 72 (c I k) (nI (c I k))) 73 ((nI (c I k)).toNatClampNeg) (nI (c I k)))) rfl (show mz_in (nI (c I k)) 10 = true from sm_inN rfl (show (c I k) < 10 by omega) (by decide)) ?_
          rw [show (nI (c I k) : Int32).toNatClampNeg = (c I k) from sm_clN rfl (show (c I k) < 2 ^ 31 by omega)]
          refine mz_go 2 (c' := (88, [some (.ref 65), some (.int 0), some (.int 0), some (.int (nI I)), some (.int ((nI k) + 1)), some (.int (nI I)), some (.int (nI k)), some (.int (nI (c I k))), some (.int (nI (c I k)))], [], mz_up (mz_up (mz_set (mz_set b 72 r72) 73 r73) 72 (c I k) (nI (c I k))) 73 (c I k) (nI (c I k)))) rfl ?_
          exact hr
set_option maxHeartbeats 4000000 in
set_option maxRecDepth 100000 in
theorem vr_tui0 {w b : mz_M} {WW : Nat} (hWW : WW ≤ 6) (h1W : 1 ≤ WW) (h6660 : b 66 60 = nI WW) (hbc : ∀ i, i < 36 → b 66 (70 + i) = w 21 i) {c : Nat → Nat → Nat} (hcn : ∀ i j, i < WW → j < WW → w 21 ((j * 6) + i) = nI (c i j)) (h9 : ∀ i j, i < WW → j < WW → c i j ≤ 9) : ∀ j k : Nat, k + j = WW → ∀ (a0 : Int32) (o0 o1 o2 o3 o4 : Option Value) (r72 r73 : Nat → Int32), vq_tI c 0 WW (k * WW) a0 r72 r73 → ∃ (b0 : Int32), ∃ (p0 : Option Value), ∃ (p1 : Option Value), ∃ (p2 : Option Value), ∃ (p3 : Option Value), ∃ (p4 : Option Value), ∃ (s72 : Nat → Int32), ∃ (s73 : Nat → Int32), vq_tI c 0 WW (WW * WW) b0 s72 s73 ∧ ∀ r, mz_Ex 100 mz_k201 (241, [some (.ref 65), some (.int 0), some (.int b0), some (.int (nI WW)), p0, p1, p2, p3, p4], [], mz_set (mz_set b 72 s72) 73 s73) r → mz_Ex 100 mz_k201 (77, [some (.ref 65), some (.int 0), some (.int a0), some (.int (nI k)), o0, o1, o2, o3, o4], [], mz_set (mz_set b 72 r72) 73 r73) r := by
  intro j
  induction j with
  | zero =>
    intro k hk a0 o0 o1 o2 o3 o4 r72 r73 hin
    rw [show k = WW by omega] at hin ⊢
    exact ⟨a0, o0, o1, o2, o3, o4, r72, r73, hin, fun r hr => by
      refine mz_go 2 (c' := (79, [some (.ref 65), some (.int 0), some (.int a0), some (.int (nI WW)), o0, o1, o2, o3, o4], [.ref 65, .int (nI WW)], mz_set (mz_set b 72 r72) 73 r73)) rfl ?_
      refine mz_doQ (R := mz_r183) (as := [.ref 65]) (rest := [.int (nI WW)]) (r1 := some (.int (nI WW))) (m1 := mz_set (mz_set b 72 r72) 73 r73) mz_t183 mz_v183_65 rfl rfl rfl rfl rfl ⟨?_, rfl⟩ ?_
      · refine mz_go 4 (c' := (7, [some (.ref 65)], [.int (b 66 60)], mz_set (mz_set b 72 r72) 73 r73)) rfl ?_
        rw [h6660]
        exact mz_ret rfl
      refine mz_go 1 (c' := (if (nI WW) ≤ (nI WW) then 241 else 85, [some (.ref 65), some (.int 0), some (.int a0), some (.int (nI WW)), o0, o1, o2, o3, o4], [], mz_set (mz_set b 72 r72) 73 r73)) rfl ?_
      refine mz_ifT (show ((nI WW) ≤ (nI WW)) from (sm_leN rfl rfl (show WW ≤ WW by omega) (show WW < 2 ^ 31 by omega))) ?_
      exact hr⟩
  | succ j ih =>
    intro k hk a0 o0 o1 o2 o3 o4 r72 r73 hin
    obtain ⟨by1, p5y1, p6y1, p7y1, p8y1, s72y1, s73y1, hiny1, Ey1⟩ := vr_tuj0 hWW h1W h6660 hbc hcn h9 (I := k) (by omega) WW 0 (by omega) a0 o1 o2 o3 o4 r72 r73 hin
    obtain ⟨b0, p0, p1, p2, p3, p4, s72, s73, hin2, Er⟩ := ih (k + 1) (by omega) by1 (some (.int (nI WW))) p5y1 p6y1 p7y1 p8y1 s72y1 s73y1 (by rw [Nat.succ_mul]; exact hiny1)
    refine ⟨b0, p0, p1, p2, p3, p4, s72, s73, hin2, fun r hr0 => ?_⟩
    have hr := Er r hr0
    rw [nI_succ k] at hr
    refine mz_go 2 (c' := (79, [some (.ref 65), some (.int 0), some (.int a0), some (.int (nI k)), o0, o1, o2, o3, o4], [.ref 65, .int (nI k)], mz_set (mz_set b 72 r72) 73 r73)) rfl ?_
    refine mz_doQ (R := mz_r183) (as := [.ref 65]) (rest := [.int (nI k)]) (r1 := some (.int (nI WW))) (m1 := mz_set (mz_set b 72 r72) 73 r73) mz_t183 mz_v183_65 rfl rfl rfl rfl rfl ⟨?_, rfl⟩ ?_
    · refine mz_go 4 (c' := (7, [some (.ref 65)], [.int (b 66 60)], mz_set (mz_set b 72 r72) 73 r73)) rfl ?_
      rw [h6660]
      exact mz_ret rfl
    refine mz_go 1 (c' := (if (nI WW) ≤ (nI k) then 241 else 85, [some (.ref 65), some (.int 0), some (.int a0), some (.int (nI k)), o0, o1, o2, o3, o4], [], mz_set (mz_set b 72 r72) 73 r73)) rfl ?_
    refine mz_ifF (show ¬ ((nI WW) ≤ (nI k)) from (sm_nleN rfl rfl (show k < WW by omega) (show WW < 2 ^ 31 by omega))) ?_
    refine mz_go 2 (c' := (88, [some (.ref 65), some (.int 0), some (.int a0), some (.int (nI k)), some (.int 0), o1, o2, o3, o4], [], mz_set (mz_set b 72 r72) 73 r73)) rfl ?_
    refine Ey1 _ ?_
    refine mz_go 2 (c' := (77, [some (.ref 65), some (.int 0), some (.int by1), some (.int ((nI k) + 1)), some (.int (nI WW)), p5y1, p6y1, p7y1, p8y1], [], mz_set (mz_set b 72 s72y1) 73 s73y1)) rfl ?_
    exact hr
set_option maxHeartbeats 4000000 in
set_option maxRecDepth 100000 in
theorem vr_tuj1 {w b : mz_M} {WW : Nat} (hWW : WW ≤ 6) (h1W : 1 ≤ WW) (h6660 : b 66 60 = nI WW) (hbc : ∀ i, i < 36 → b 66 (70 + i) = w 21 i) {c : Nat → Nat → Nat} (hcn : ∀ i j, i < WW → j < WW → w 21 ((j * 6) + i) = nI (c i j)) (h9 : ∀ i j, i < WW → j < WW → c i j ≤ 9) {I : Nat} (hI : I < WW) : ∀ j k : Nat, k + j = WW → ∀ (a0 : Int32) (o0 o1 o2 o3 : Option Value) (r72 r73 : Nat → Int32), vq_tI c 1 WW (I * WW + k) a0 r72 r73 → ∃ (b0 : Int32), ∃ (p0 : Option Value), ∃ (p1 : Option Value), ∃ (p2 : Option Value), ∃ (p3 : Option Value), ∃ (s72 : Nat → Int32), ∃ (s73 : Nat → Int32), vq_tI c 1 WW (I * WW + WW) b0 s72 s73 ∧ ∀ r, mz_Ex 100 mz_k201 (235, [some (.ref 65), some (.int 1), some (.int b0), some (.int (nI I)), some (.int (nI WW)), p0, p1, p2, p3], [], mz_set (mz_set b 72 s72) 73 s73) r → mz_Ex 100 mz_k201 (88, [some (.ref 65), some (.int 1), some (.int a0), some (.int (nI I)), some (.int (nI k)), o0, o1, o2, o3], [], mz_set (mz_set b 72 r72) 73 r73) r := by
  intro j
  induction j with
  | zero =>
    intro k hk a0 o0 o1 o2 o3 r72 r73 hin
    rw [show k = WW by omega] at hin ⊢
    exact ⟨a0, o0, o1, o2, o3, r72, r73, hin, fun r hr => by
      refine mz_go 2 (c' := (91, [some (.ref 65), some (.int 1), some (.int a0), some (.int (nI I)), some (.int (nI WW)), o0, o1, o2, o3], [.ref 65, .int (nI WW)], mz_set (mz_set b 72 r72) 73 r73)) rfl ?_
      refine mz_doQ (R := mz_r183) (as := [.ref 65]) (rest := [.int (nI WW)]) (r1 := some (.int (nI WW))) (m1 := mz_set (mz_set b 72 r72) 73 r73) mz_t183 mz_v183_65 rfl rfl rfl rfl rfl ⟨?_, rfl⟩ ?_
      · refine mz_go 4 (c' := (7, [some (.ref 65)], [.int (b 66 60)], mz_set (mz_set b 72 r72) 73 r73)) rfl ?_
        rw [h6660]
        exact mz_ret rfl
      refine mz_go 1 (c' := (if (nI WW) ≤ (nI WW) then 235 else 97, [some (.ref 65), some (.int 1), some (.int a0), some (.int (nI I)), some (.int (nI WW)), o0, o1, o2, o3], [], mz_set (mz_set b 72 r72) 73 r73)) rfl ?_
      refine mz_ifT (show ((nI WW) ≤ (nI WW)) from (sm_leN rfl rfl (show WW ≤ WW by omega) (show WW < 2 ^ 31 by omega))) ?_
      exact hr⟩
  | succ j ih =>
    intro k hk a0 o0 o1 o2 o3 r72 r73 hin
    have h9z1 : c I k ≤ 9 := h9 _ _ (by omega) (by omega)
    have Ez1 := vr_colw (w := w) (m := mz_set (mz_set b 72 r72) 73 r73) hbc (A := I) (B := k) (by omega) (by omega) (a := nI I) (b := nI k) rfl rfl
    rw [hcn I k (by omega) (by omega)] at Ez1
    have h9z2 : c ((WW - 1) - k) I ≤ 9 := h9 _ _ (by omega) (by omega)
    have Ez2 := vr_colw (w := w) (m := mz_set (mz_set b 72 r72) 73 r73) hbc (A := ((WW - 1) - k)) (B := I) (by omega) (by omega) (a := ((nI WW) - 1) - (nI k)) (b := nI I) (sm_subN (a := (WW - 1)) (b := k) (sm_subN (a := WW) (b := 1) rfl rfl (by omega)) rfl (by omega)) rfl
    rw [hcn ((WW - 1) - k) I (by omega) (by omega)] at Ez2
    by_cases q1 : a0 = 0
    · have hm : mz_up (mz_up (mz_set (mz_set b 72 r72) 73 r73) 72 (c I k) (nI (c ((WW - 1) - k) I))) 73 (c ((WW - 1) - k) I) (nI (c I k)) = mz_set (mz_set b 72 ((mz_up (mz_up (mz_set (mz_set b 72 r72) 73 r73) 72 (c I k) (nI (c ((WW - 1) - k) I))) 73 (c ((WW - 1) - k) I) (nI (c I k))) 72)) 73 ((mz_up (mz_up (mz_set (mz_set b 72 r72) 73 r73) 72 (c I k) (nI (c ((WW - 1) - k) I))) 73 (c ((WW - 1) - k) I) (nI (c I k))) 73) := sm_of2 (fun i h1 h2 => by simp only [mz_set_ne h1, mz_set_ne h2, mz_up_ne h1, mz_up_ne h2])
      obtain ⟨b0, p0, p1, p2, p3, s72, s73, hin2, Er⟩ := ih (k + 1) (by omega) 0 (some (.int (((nI WW) - 1) - (nI k)))) (some (.int (nI I))) (some (.int (nI (c I k)))) (some (.int (nI (c ((WW - 1) - k) I)))) ((mz_up (mz_up (mz_set (mz_set b 72 r72) 73 r73) 72 (c I k) (nI (c ((WW - 1) - k) I))) 73 (c ((WW - 1) - k) I) (nI (c I k))) 72) ((mz_up (mz_up (mz_set (mz_set b 72 r72) 73 r73) 72 (c I k) (nI (c ((WW - 1) - k) I))) 73 (c ((WW - 1) - k) I) (nI (c I k))) 73) (vq_tuA hin q1)
      refine ⟨b0, p0, p1, p2, p3, s72, s73, hin2, fun r hr0 => ?_⟩
      have hr := Er r hr0
      rw [nI_succ k, ← hm] at hr
      refine mz_go 2 (c' := (91, [some (.ref 65), some (.int 1), some (.int a0), some (.int (nI I)), some (.int (nI k)), o0, o1, o2, o3], [.ref 65, .int (nI k)], mz_set (mz_set b 72 r72) 73 r73)) rfl ?_
      refine mz_doQ (R := mz_r183) (as := [.ref 65]) (rest := [.int (nI k)]) (r1 := some (.int (nI WW))) (m1 := mz_set (mz_set b 72 r72) 73 r73) mz_t183 mz_v183_65 rfl rfl rfl rfl rfl ⟨?_, rfl⟩ ?_
      · refine mz_go 4 (c' := (7, [some (.ref 65)], [.int (b 66 60)], mz_set (mz_set b 72 r72) 73 r73)) rfl ?_
        rw [h6660]
        exact mz_ret rfl
      refine mz_go 1 (c' := (if (nI WW) ≤ (nI k) then 235 else 97, [some (.ref 65), some (.int 1), some (.int a0), some (.int (nI I)), some (.int (nI k)), o0, o1, o2, o3], [], mz_set (mz_set b 72 r72) 73 r73)) rfl ?_
      refine mz_ifF (show ¬ ((nI WW) ≤ (nI k)) from (sm_nleN rfl rfl (show k < WW by omega) (show WW < 2 ^ 31 by omega))) ?_
      refine mz_go 12 (c' := (118, [some (.ref 65), some (.int 1), some (.int a0), some (.int (nI I)), some (.int (nI k)), some (.int (nI I)), some (.int (nI k)), some (.int 0), some (.int (nI I))], [.ref 65], mz_set (mz_set b 72 r72) 73 r73)) rfl ?_
      refine mz_doQ (R := mz_r183) (as := [.ref 65]) (rest := []) (r1 := some (.int (nI WW))) (m1 := mz_set (mz_set b 72 r72) 73 r73) mz_t183 mz_v183_65 rfl rfl rfl rfl rfl ⟨?_, rfl⟩ ?_
      · refine mz_go 4 (c' := (7, [some (.ref 65)], [.int (b 66 60)], mz_set (mz_set b 72 r72) 73 r73)) rfl ?_
        rw [h6660]
        exact mz_ret rfl
      refine mz_go 15 (c' := (142, [some (.ref 65), some (.int 1), some (.int a0), some (.int (nI I)), some (.int (nI k)), some (.int (((nI WW) - 1) - (nI k))), some (.int (nI I)), some (.int 1), some (.int (nI I))], [.int (nI k), .int (nI I), .ref 65], mz_set (mz_set b 72 r72) 73 r73)) rfl ?_
      refine mz_doQ (R := mz_r186) (as := [.ref 65, .int (nI I), .int (nI k)]) (rest := []) (r1 := some (.int (nI (c I k)))) (m1 := mz_set (mz_set b 72 r72) 73 r73) mz_t186 mz_v186_65 rfl rfl rfl rfl rfl (Ez1.deep (by decide)) ?_
      refine mz_go 4 (c' := (152, [some (.ref 65), some (.int 1), some (.int a0), some (.int (nI I)), some (.int (nI k)), some (.int (((nI WW) - 1) - (nI k))), some (.int (nI I)), some (.int (nI (c I k))), some (.int (nI I))], [.int (nI I), .int (((nI WW) - 1) - (nI k)), .ref 65], mz_set (mz_set b 72 r72) 73 r73)) rfl ?_
      refine mz_doQ (R := mz_r186) (as := [.ref 65, .int (((nI WW) - 1) - (nI k)), .int (nI I)]) (rest := []) (r1 := some (.int (nI (c ((WW - 1) - k) I)))) (m1 := mz_set (mz_set b 72 r72) 73 r73) mz_t186 mz_v186_65 rfl rfl rfl rfl rfl (Ez2.deep (by decide)) ?_
      refine mz_go 3 (c' := (if a0 = 0 then 209 else 161, [some (.ref 65), some (.int 1), some (.int a0), some (.int (nI I)), some (.int (nI k)), some (.int (((nI WW) - 1) - (nI k))), some (.int (nI I)), some (.int (nI (c I k))), some (.int (nI (c ((WW - 1) - k) I)))], [], mz_set (mz_set b 72 r72) 73 r73)) rfl ?_
      refine mz_ifT q1 ?_
      refine mz_go 6 (c' := (219, [some (.ref 65), some (.int 1), some (.int 0), some (.int (nI I)), some (.int (nI k)), some (.int (((nI WW) - 1) - (nI k))), some (.int (nI I)), some (.int (nI (c I k))), some (.int (nI (c ((WW - 1) - k) I)))], [.int (nI (c ((WW - 1) - k) I)), .int (nI (c I k)), .ref 72], mz_set (mz_set b 72 r72) 73 r73)) rfl ?_
      refine mz_arr (c' := (220, [some (.ref 65), some (.int 1), some (.int 0), some (.int (nI I)), some (.int (nI k)), some (.int (((nI WW) - 1) - (nI k))), some (.int (nI I)), some (.int (nI (c I k))), some (.int (nI (c ((WW - 1) - k) I)))], [], mz_up (mz_set (mz_set b 72 r72) 73 r73) 72 ((nI (c I k)).toNatClampNeg) (nI (c ((WW - 1) - k) I)))) rfl (show mz_in (nI (c I k)) 10 = true from sm_inN rfl (show (c I k) < 10 by omega) (by decide)) ?_
      rw [show (nI (c I k) : Int32).toNatClampNeg = (c I k) from sm_clN rfl (show (c I k) < 2 ^ 31 by omega)]
      refine mz_go 4 (c' := (228, [some (.ref 65), some (.int 1), some (.int 0), some (.int (nI I)), some (.int (nI k)), some (.int (((nI WW) - 1) - (nI k))), some (.int (nI I)), some (.int (nI (c I k))), some (.int (nI (c ((WW - 1) - k) I)))], [.int (nI (c I k)), .int (nI (c ((WW - 1) - k) I)), .ref 73], mz_up (mz_set (mz_set b 72 r72) 73 r73) 72 (c I k) (nI (c ((WW - 1) - k) I)))) rfl ?_
      refine mz_arr (c' := (229, [some (.ref 65), some (.int 1), some (.int 0), some (.int (nI I)), some (.int (nI k)), some (.int (((nI WW) - 1) - (nI k))), some (.int (nI I)), some (.int (nI (c I k))), some (.int (nI (c ((WW - 1) - k) I)))], [], mz_up (mz_up (mz_set (mz_set b 72 r72) 73 r73) 72 (c I k) (nI (c ((WW - 1) - k) I))) 73 ((nI (c ((WW - 1) - k) I)).toNatClampNeg) (nI (c I k)))) rfl (show mz_in (nI (c ((WW - 1) - k) I)) 10 = true from sm_inN rfl (show (c ((WW - 1) - k) I) < 10 by omega) (by decide)) ?_
      rw [show (nI (c ((WW - 1) - k) I) : Int32).toNatClampNeg = (c ((WW - 1) - k) I) from sm_clN rfl (show (c ((WW - 1) - k) I) < 2 ^ 31 by omega)]
      refine mz_go 2 (c' := (88, [some (.ref 65), some (.int 1), some (.int 0), some (.int (nI I)), some (.int ((nI k) + 1)), some (.int (((nI WW) - 1) - (nI k))), some (.int (nI I)), some (.int (nI (c I k))), some (.int (nI (c ((WW - 1) - k) I)))], [], mz_up (mz_up (mz_set (mz_set b 72 r72) 73 r73) 72 (c I k) (nI (c ((WW - 1) - k) I))) 73 (c ((WW - 1) - k) I) (nI (c I k)))) rfl ?_
      exact hr
    · by_cases q2 : (r72 (c I k)) < 0
      · by_cases q3 : (r73 (c ((WW - 1) - k) I)) < 0
        · have hm : mz_up (mz_up (mz_set (mz_set b 72 r72) 73 r73) 72 (c I k) (nI (c ((WW - 1) - k) I))) 73 (c ((WW - 1) - k) I) (nI (c I k)) = mz_set (mz_set b 72 ((mz_up (mz_up (mz_set (mz_set b 72 r72) 73 r73) 72 (c I k) (nI (c ((WW - 1) - k) I))) 73 (c ((WW - 1) - k) I) (nI (c I k))) 72)) 73 ((mz_up (mz_up (mz_set (mz_set b 72 r72) 73 r73) 72 (c I k) (nI (c ((WW - 1) - k) I))) 73 (c ((WW - 1) - k) I) (nI (c I k))) 73) := sm_of2 (fun i h1 h2 => by simp only [mz_set_ne h1, mz_set_ne h2, mz_up_ne h1, mz_up_ne h2])
          obtain ⟨b0, p0, p1, p2, p3, s72, s73, hin2, Er⟩ := ih (k + 1) (by omega) 1 (some (.int (((nI WW) - 1) - (nI k)))) (some (.int (nI I))) (some (.int (nI (c I k)))) (some (.int (nI (c ((WW - 1) - k) I)))) ((mz_up (mz_up (mz_set (mz_set b 72 r72) 73 r73) 72 (c I k) (nI (c ((WW - 1) - k) I))) 73 (c ((WW - 1) - k) I) (nI (c I k))) 72) ((mz_up (mz_up (mz_set (mz_set b 72 r72) 73 r73) 72 (c I k) (nI (c ((WW - 1) - k) I))) 73 (c ((WW - 1) - k) I) (nI (c I k))) 73) (vq_tuD h9 hI (by omega) hin q1 (Or.inl q2) (Or.inl q3) (fun v => by rw [mz_up_ne (show (72 : Nat) ≠ 73 by decide), mz_up_eq, mz_set_ne (show (72 : Nat) ≠ 73 by decide), mz_set_eq]; rfl) (fun v => by rw [mz_up_eq, mz_up_ne (show (73 : Nat) ≠ 72 by decide), mz_set_eq]; rfl))
          refine ⟨b0, p0, p1, p2, p3, s72, s73, hin2, fun r hr0 => ?_⟩
          have hr := Er r hr0
          rw [nI_succ k, ← hm] at hr
          refine mz_go 2 (c' := (91, [some (.ref 65), some (.int 1), some (.int a0), some (.int (nI I)), some (.int (nI k)), o0, o1, o2, o3], [.ref 65, .int (nI k)], mz_set (mz_set b 72 r72) 73 r73)) rfl ?_
          refine mz_doQ (R := mz_r183) (as := [.ref 65]) (rest := [.int (nI k)]) (r1 := some (.int (nI WW))) (m1 := mz_set (mz_set b 72 r72) 73 r73) mz_t183 mz_v183_65 rfl rfl rfl rfl rfl ⟨?_, rfl⟩ ?_
          · refine mz_go 4 (c' := (7, [some (.ref 65)], [.int (b 66 60)], mz_set (mz_set b 72 r72) 73 r73)) rfl ?_
            rw [h6660]
            exact mz_ret rfl
          refine mz_go 1 (c' := (if (nI WW) ≤ (nI k) then 235 else 97, [some (.ref 65), some (.int 1), some (.int a0), some (.int (nI I)), some (.int (nI k)), o0, o1, o2, o3], [], mz_set (mz_set b 72 r72) 73 r73)) rfl ?_
          refine mz_ifF (show ¬ ((nI WW) ≤ (nI k)) from (sm_nleN rfl rfl (show k < WW by omega) (show WW < 2 ^ 31 by omega))) ?_
          refine mz_go 12 (c' := (118, [some (.ref 65), some (.int 1), some (.int a0), some (.int (nI I)), some (.int (nI k)), some (.int (nI I)), some (.int (nI k)), some (.int 0), some (.int (nI I))], [.ref 65], mz_set (mz_set b 72 r72) 73 r73)) rfl ?_
          refine mz_doQ (R := mz_r183) (as := [.ref 65]) (rest := []) (r1 := some (.int (nI WW))) (m1 := mz_set (mz_set b 72 r72) 73 r73) mz_t183 mz_v183_65 rfl rfl rfl rfl rfl ⟨?_, rfl⟩ ?_
          · refine mz_go 4 (c' := (7, [some (.ref 65)], [.int (b 66 60)], mz_set (mz_set b 72 r72) 73 r73)) rfl ?_
            rw [h6660]
            exact mz_ret rfl
          refine mz_go 15 (c' := (142, [some (.ref 65), some (.int 1), some (.int a0), some (.int (nI I)), some (.int (nI k)), some (.int (((nI WW) - 1) - (nI k))), some (.int (nI I)), some (.int 1), some (.int (nI I))], [.int (nI k), .int (nI I), .ref 65], mz_set (mz_set b 72 r72) 73 r73)) rfl ?_
          refine mz_doQ (R := mz_r186) (as := [.ref 65, .int (nI I), .int (nI k)]) (rest := []) (r1 := some (.int (nI (c I k)))) (m1 := mz_set (mz_set b 72 r72) 73 r73) mz_t186 mz_v186_65 rfl rfl rfl rfl rfl (Ez1.deep (by decide)) ?_
          refine mz_go 4 (c' := (152, [some (.ref 65), some (.int 1), some (.int a0), some (.int (nI I)), some (.int (nI k)), some (.int (((nI WW) - 1) - (nI k))), some (.int (nI I)), some (.int (nI (c I k))), some (.int (nI I))], [.int (nI I), .int (((nI WW) - 1) - (nI k)), .ref 65], mz_set (mz_set b 72 r72) 73 r73)) rfl ?_
          refine mz_doQ (R := mz_r186) (as := [.ref 65, .int (((nI WW) - 1) - (nI k)), .int (nI I)]) (rest := []) (r1 := some (.int (nI (c ((WW - 1) - k) I)))) (m1 := mz_set (mz_set b 72 r72) 73 r73) mz_t186 mz_v186_65 rfl rfl rfl rfl rfl (Ez2.deep (by decide)) ?_
          refine mz_go 3 (c' := (if a0 = 0 then 209 else 161, [some (.ref 65), some (.int 1), some (.int a0), some (.int (nI I)), some (.int (nI k)), some (.int (((nI WW) - 1) - (nI k))), some (.int (nI I)), some (.int (nI (c I k))), some (.int (nI (c ((WW - 1) - k) I)))], [], mz_set (mz_set b 72 r72) 73 r73)) rfl ?_
          refine mz_ifF q1 ?_
          refine mz_go 3 (c' := (167, [some (.ref 65), some (.int 1), some (.int a0), some (.int (nI I)), some (.int (nI k)), some (.int (((nI WW) - 1) - (nI k))), some (.int (nI I)), some (.int (nI (c I k))), some (.int (nI (c ((WW - 1) - k) I)))], [.int (nI (c I k)), .ref 72], mz_set (mz_set b 72 r72) 73 r73)) rfl ?_
          refine mz_arr (c' := (168, [some (.ref 65), some (.int 1), some (.int a0), some (.int (nI I)), some (.int (nI k)), some (.int (((nI WW) - 1) - (nI k))), some (.int (nI I)), some (.int (nI (c I k))), some (.int (nI (c ((WW - 1) - k) I)))], [.int (r72 ((nI (c I k)).toNatClampNeg))], mz_set (mz_set b 72 r72) 73 r73)) rfl (show mz_in (nI (c I k)) 10 = true from sm_inN rfl (show (c I k) < 10 by omega) (by decide)) ?_
          rw [show (nI (c I k) : Int32).toNatClampNeg = (c I k) from sm_clN rfl (show (c I k) < 2 ^ 31 by omega)]
          refine mz_go 1 (c' := (if (r72 (c I k)) < 0 then 183 else 171, [some (.ref 65), some (.int 1), some (.int a0), some (.int (nI I)), some (.int (nI k)), some (.int (((nI WW) - 1) - (nI k))), some (.int (nI I)), some (.int (nI (c I k))), some (.int (nI (c ((WW - 1) - k) I)))], [], mz_set (mz_set b 72 r72) 73 r73)) rfl ?_
          refine mz_ifT q2 ?_
          refine mz_go 3 (c' := (189, [some (.ref 65), some (.int 1), some (.int a0), some (.int (nI I)), some (.int (nI k)), some (.int (((nI WW) - 1) - (nI k))), some (.int (nI I)), some (.int (nI (c I k))), some (.int (nI (c ((WW - 1) - k) I)))], [.int (nI (c ((WW - 1) - k) I)), .ref 73], mz_set (mz_set b 72 r72) 73 r73)) rfl ?_
          refine mz_arr (c' := (190, [some (.ref 65), some (.int 1), some (.int a0), some (.int (nI I)), some (.int (nI k)), some (.int (((nI WW) - 1) - (nI k))), some (.int (nI I)), some (.int (nI (c I k))), some (.int (nI (c ((WW - 1) - k) I)))], [.int (r73 ((nI (c ((WW - 1) - k) I)).toNatClampNeg))], mz_set (mz_set b 72 r72) 73 r73)) rfl (show mz_in (nI (c ((WW - 1) - k) I)) 10 = true from sm_inN rfl (show (c ((WW - 1) - k) I) < 10 by omega) (by decide)) ?_
          rw [show (nI (c ((WW - 1) - k) I) : Int32).toNatClampNeg = (c ((WW - 1) - k) I) from sm_clN rfl (show (c ((WW - 1) - k) I) < 2 ^ 31 by omega)]
          refine mz_go 1 (c' := (if (r73 (c ((WW - 1) - k) I)) < 0 then 205 else 193, [some (.ref 65), some (.int 1), some (.int a0), some (.int (nI I)), some (.int (nI k)), some (.int (((nI WW) - 1) - (nI k))), some (.int (nI I)), some (.int (nI (c I k))), some (.int (nI (c ((WW - 1) - k) I)))], [], mz_set (mz_set b 72 r72) 73 r73)) rfl ?_
          refine mz_ifT q3 ?_
          refine mz_go 7 (c' := (219, [some (.ref 65), some (.int 1), some (.int 1), some (.int (nI I)), some (.int (nI k)), some (.int (((nI WW) - 1) - (nI k))), some (.int (nI I)), some (.int (nI (c I k))), some (.int (nI (c ((WW - 1) - k) I)))], [.int (nI (c ((WW - 1) - k) I)), .int (nI (c I k)), .ref 72], mz_set (mz_set b 72 r72) 73 r73)) rfl ?_
          refine mz_arr (c' := (220, [some (.ref 65), some (.int 1), some (.int 1), some (.int (nI I)), some (.int (nI k)), some (.int (((nI WW) - 1) - (nI k))), some (.int (nI I)), some (.int (nI (c I k))), some (.int (nI (c ((WW - 1) - k) I)))], [], mz_up (mz_set (mz_set b 72 r72) 73 r73) 72 ((nI (c I k)).toNatClampNeg) (nI (c ((WW - 1) - k) I)))) rfl (show mz_in (nI (c I k)) 10 = true from sm_inN rfl (show (c I k) < 10 by omega) (by decide)) ?_
          rw [show (nI (c I k) : Int32).toNatClampNeg = (c I k) from sm_clN rfl (show (c I k) < 2 ^ 31 by omega)]
          refine mz_go 4 (c' := (228, [some (.ref 65), some (.int 1), some (.int 1), some (.int (nI I)), some (.int (nI k)), some (.int (((nI WW) - 1) - (nI k))), some (.int (nI I)), some (.int (nI (c I k))), some (.int (nI (c ((WW - 1) - k) I)))], [.int (nI (c I k)), .int (nI (c ((WW - 1) - k) I)), .ref 73], mz_up (mz_set (mz_set b 72 r72) 73 r73) 72 (c I k) (nI (c ((WW - 1) - k) I)))) rfl ?_
          refine mz_arr (c' := (229, [some (.ref 65), some (.int 1), some (.int 1), some (.int (nI I)), some (.int (nI k)), some (.int (((nI WW) - 1) - (nI k))), some (.int (nI I)), some (.int (nI (c I k))), some (.int (nI (c ((WW - 1) - k) I)))], [], mz_up (mz_up (mz_set (mz_set b 72 r72) 73 r73) 72 (c I k) (nI (c ((WW - 1) - k) I))) 73 ((nI (c ((WW - 1) - k) I)).toNatClampNeg) (nI (c I k)))) rfl (show mz_in (nI (c ((WW - 1) - k) I)) 10 = true from sm_inN rfl (show (c ((WW - 1) - k) I) < 10 by omega) (by decide)) ?_
          rw [show (nI (c ((WW - 1) - k) I) : Int32).toNatClampNeg = (c ((WW - 1) - k) I) from sm_clN rfl (show (c ((WW - 1) - k) I) < 2 ^ 31 by omega)]
          refine mz_go 2 (c' := (88, [some (.ref 65), some (.int 1), some (.int 1), some (.int (nI I)), some (.int ((nI k) + 1)), some (.int (((nI WW) - 1) - (nI k))), some (.int (nI I)), some (.int (nI (c I k))), some (.int (nI (c ((WW - 1) - k) I)))], [], mz_up (mz_up (mz_set (mz_set b 72 r72) 73 r73) 72 (c I k) (nI (c ((WW - 1) - k) I))) 73 (c ((WW - 1) - k) I) (nI (c I k)))) rfl ?_
          exact hr
        · by_cases q4 : (r73 (c ((WW - 1) - k) I)) = (nI (c I k))
          · have hm : mz_up (mz_up (mz_set (mz_set b 72 r72) 73 r73) 72 (c I k) (nI (c ((WW - 1) - k) I))) 73 (c ((WW - 1) - k) I) (nI (c I k)) = mz_set (mz_set b 72 ((mz_up (mz_up (mz_set (mz_set b 72 r72) 73 r73) 72 (c I k) (nI (c ((WW - 1) - k) I))) 73 (c ((WW - 1) - k) I) (nI (c I k))) 72)) 73 ((mz_up (mz_up (mz_set (mz_set b 72 r72) 73 r73) 72 (c I k) (nI (c ((WW - 1) - k) I))) 73 (c ((WW - 1) - k) I) (nI (c I k))) 73) := sm_of2 (fun i h1 h2 => by simp only [mz_set_ne h1, mz_set_ne h2, mz_up_ne h1, mz_up_ne h2])
            obtain ⟨b0, p0, p1, p2, p3, s72, s73, hin2, Er⟩ := ih (k + 1) (by omega) 1 (some (.int (((nI WW) - 1) - (nI k)))) (some (.int (nI I))) (some (.int (nI (c I k)))) (some (.int (nI (c ((WW - 1) - k) I)))) ((mz_up (mz_up (mz_set (mz_set b 72 r72) 73 r73) 72 (c I k) (nI (c ((WW - 1) - k) I))) 73 (c ((WW - 1) - k) I) (nI (c I k))) 72) ((mz_up (mz_up (mz_set (mz_set b 72 r72) 73 r73) 72 (c I k) (nI (c ((WW - 1) - k) I))) 73 (c ((WW - 1) - k) I) (nI (c I k))) 73) (vq_tuD h9 hI (by omega) hin q1 (Or.inl q2) (Or.inr q4) (fun v => by rw [mz_up_ne (show (72 : Nat) ≠ 73 by decide), mz_up_eq, mz_set_ne (show (72 : Nat) ≠ 73 by decide), mz_set_eq]; rfl) (fun v => by rw [mz_up_eq, mz_up_ne (show (73 : Nat) ≠ 72 by decide), mz_set_eq]; rfl))
            refine ⟨b0, p0, p1, p2, p3, s72, s73, hin2, fun r hr0 => ?_⟩
            have hr := Er r hr0
            rw [nI_succ k, ← hm] at hr
            refine mz_go 2 (c' := (91, [some (.ref 65), some (.int 1), some (.int a0), some (.int (nI I)), some (.int (nI k)), o0, o1, o2, o3], [.ref 65, .int (nI k)], mz_set (mz_set b 72 r72) 73 r73)) rfl ?_
            refine mz_doQ (R := mz_r183) (as := [.ref 65]) (rest := [.int (nI k)]) (r1 := some (.int (nI WW))) (m1 := mz_set (mz_set b 72 r72) 73 r73) mz_t183 mz_v183_65 rfl rfl rfl rfl rfl ⟨?_, rfl⟩ ?_
            · refine mz_go 4 (c' := (7, [some (.ref 65)], [.int (b 66 60)], mz_set (mz_set b 72 r72) 73 r73)) rfl ?_
              rw [h6660]
              exact mz_ret rfl
            refine mz_go 1 (c' := (if (nI WW) ≤ (nI k) then 235 else 97, [some (.ref 65), some (.int 1), some (.int a0), some (.int (nI I)), some (.int (nI k)), o0, o1, o2, o3], [], mz_set (mz_set b 72 r72) 73 r73)) rfl ?_
            refine mz_ifF (show ¬ ((nI WW) ≤ (nI k)) from (sm_nleN rfl rfl (show k < WW by omega) (show WW < 2 ^ 31 by omega))) ?_
            refine mz_go 12 (c' := (118, [some (.ref 65), some (.int 1), some (.int a0), some (.int (nI I)), some (.int (nI k)), some (.int (nI I)), some (.int (nI k)), some (.int 0), some (.int (nI I))], [.ref 65], mz_set (mz_set b 72 r72) 73 r73)) rfl ?_
            refine mz_doQ (R := mz_r183) (as := [.ref 65]) (rest := []) (r1 := some (.int (nI WW))) (m1 := mz_set (mz_set b 72 r72) 73 r73) mz_t183 mz_v183_65 rfl rfl rfl rfl rfl ⟨?_, rfl⟩ ?_
            · refine mz_go 4 (c' := (7, [some (.ref 65)], [.int (b 66 60)], mz_set (mz_set b 72 r72) 73 r73)) rfl ?_
              rw [h6660]
              exact mz_ret rfl
            refine mz_go 15 (c' := (142, [some (.ref 65), some (.int 1), some (.int a0), some (.int (nI I)), some (.int (nI k)), some (.int (((nI WW) - 1) - (nI k))), some (.int (nI I)), some (.int 1), some (.int (nI I))], [.int (nI k), .int (nI I), .ref 65], mz_set (mz_set b 72 r72) 73 r73)) rfl ?_
            refine mz_doQ (R := mz_r186) (as := [.ref 65, .int (nI I), .int (nI k)]) (rest := []) (r1 := some (.int (nI (c I k)))) (m1 := mz_set (mz_set b 72 r72) 73 r73) mz_t186 mz_v186_65 rfl rfl rfl rfl rfl (Ez1.deep (by decide)) ?_
            refine mz_go 4 (c' := (152, [some (.ref 65), some (.int 1), some (.int a0), some (.int (nI I)), some (.int (nI k)), some (.int (((nI WW) - 1) - (nI k))), some (.int (nI I)), some (.int (nI (c I k))), some (.int (nI I))], [.int (nI I), .int (((nI WW) - 1) - (nI k)), .ref 65], mz_set (mz_set b 72 r72) 73 r73)) rfl ?_
            refine mz_doQ (R := mz_r186) (as := [.ref 65, .int (((nI WW) - 1) - (nI k)), .int (nI I)]) (rest := []) (r1 := some (.int (nI (c ((WW - 1) - k) I)))) (m1 := mz_set (mz_set b 72 r72) 73 r73) mz_t186 mz_v186_65 rfl rfl rfl rfl rfl (Ez2.deep (by decide)) ?_
            refine mz_go 3 (c' := (if a0 = 0 then 209 else 161, [some (.ref 65), some (.int 1), some (.int a0), some (.int (nI I)), some (.int (nI k)), some (.int (((nI WW) - 1) - (nI k))), some (.int (nI I)), some (.int (nI (c I k))), some (.int (nI (c ((WW - 1) - k) I)))], [], mz_set (mz_set b 72 r72) 73 r73)) rfl ?_
            refine mz_ifF q1 ?_
            refine mz_go 3 (c' := (167, [some (.ref 65), some (.int 1), some (.int a0), some (.int (nI I)), some (.int (nI k)), some (.int (((nI WW) - 1) - (nI k))), some (.int (nI I)), some (.int (nI (c I k))), some (.int (nI (c ((WW - 1) - k) I)))], [.int (nI (c I k)), .ref 72], mz_set (mz_set b 72 r72) 73 r73)) rfl ?_
            refine mz_arr (c' := (168, [some (.ref 65), some (.int 1), some (.int a0), some (.int (nI I)), some (.int (nI k)), some (.int (((nI WW) - 1) - (nI k))), some (.int (nI I)), some (.int (nI (c I k))), some (.int (nI (c ((WW - 1) - k) I)))], [.int (r72 ((nI (c I k)).toNatClampNeg))], mz_set (mz_set b 72 r72) 73 r73)) rfl (show mz_in (nI (c I k)) 10 = true from sm_inN rfl (show (c I k) < 10 by omega) (by decide)) ?_
            rw [show (nI (c I k) : Int32).toNatClampNeg = (c I k) from sm_clN rfl (show (c I k) < 2 ^ 31 by omega)]
            refine mz_go 1 (c' := (if (r72 (c I k)) < 0 then 183 else 171, [some (.ref 65), some (.int 1), some (.int a0), some (.int (nI I)), some (.int (nI k)), some (.int (((nI WW) - 1) - (nI k))), some (.int (nI I)), some (.int (nI (c I k))), some (.int (nI (c ((WW - 1) - k) I)))], [], mz_set (mz_set b 72 r72) 73 r73)) rfl ?_
            refine mz_ifT q2 ?_
            refine mz_go 3 (c' := (189, [some (.ref 65), some (.int 1), some (.int a0), some (.int (nI I)), some (.int (nI k)), some (.int (((nI WW) - 1) - (nI k))), some (.int (nI I)), some (.int (nI (c I k))), some (.int (nI (c ((WW - 1) - k) I)))], [.int (nI (c ((WW - 1) - k) I)), .ref 73], mz_set (mz_set b 72 r72) 73 r73)) rfl ?_
            refine mz_arr (c' := (190, [some (.ref 65), some (.int 1), some (.int a0), some (.int (nI I)), some (.int (nI k)), some (.int (((nI WW) - 1) - (nI k))), some (.int (nI I)), some (.int (nI (c I k))), some (.int (nI (c ((WW - 1) - k) I)))], [.int (r73 ((nI (c ((WW - 1) - k) I)).toNatClampNeg))], mz_set (mz_set b 72 r72) 73 r73)) rfl (show mz_in (nI (c ((WW - 1) - k) I)) 10 = true from sm_inN rfl (show (c ((WW - 1) - k) I) < 10 by omega) (by decide)) ?_
            rw [show (nI (c ((WW - 1) - k) I) : Int32).toNatClampNeg = (c ((WW - 1) - k) I) from sm_clN rfl (show (c ((WW - 1) - k) I) < 2 ^ 31 by omega)]
            refine mz_go 1 (c' := (if (r73 (c ((WW - 1) - k) I)) < 0 then 205 else 193, [some (.ref 65), some (.int 1), some (.int a0), some (.int (nI I)), some (.int (nI k)), some (.int (((nI WW) - 1) - (nI k))), some (.int (nI I)), some (.int (nI (c I k))), some (.int (nI (c ((WW - 1) - k) I)))], [], mz_set (mz_set b 72 r72) 73 r73)) rfl ?_
            refine mz_ifF q3 ?_
            refine mz_go 3 (c' := (199, [some (.ref 65), some (.int 1), some (.int a0), some (.int (nI I)), some (.int (nI k)), some (.int (((nI WW) - 1) - (nI k))), some (.int (nI I)), some (.int (nI (c I k))), some (.int (nI (c ((WW - 1) - k) I)))], [.int (nI (c ((WW - 1) - k) I)), .ref 73], mz_set (mz_set b 72 r72) 73 r73)) rfl ?_
            refine mz_arr (c' := (200, [some (.ref 65), some (.int 1), some (.int a0), some (.int (nI I)), some (.int (nI k)), some (.int (((nI WW) - 1) - (nI k))), some (.int (nI I)), some (.int (nI (c I k))), some (.int (nI (c ((WW - 1) - k) I)))], [.int (r73 ((nI (c ((WW - 1) - k) I)).toNatClampNeg))], mz_set (mz_set b 72 r72) 73 r73)) rfl (show mz_in (nI (c ((WW - 1) - k) I)) 10 = true from sm_inN rfl (show (c ((WW - 1) - k) I) < 10 by omega) (by decide)) ?_
            rw [show (nI (c ((WW - 1) - k) I) : Int32).toNatClampNeg = (c ((WW - 1) - k) I) from sm_clN rfl (show (c ((WW - 1) - k) I) < 2 ^ 31 by omega)]
            refine mz_go 2 (c' := (if (r73 (c ((WW - 1) - k) I)) = (nI (c I k)) then 205 else 209, [some (.ref 65), some (.int 1), some (.int a0), some (.int (nI I)), some (.int (nI k)), some (.int (((nI WW) - 1) - (nI k))), some (.int (nI I)), some (.int (nI (c I k))), some (.int (nI (c ((WW - 1) - k) I)))], [], mz_set (mz_set b 72 r72) 73 r73)) rfl ?_
            refine mz_ifT q4 ?_
            refine mz_go 7 (c' := (219, [some (.ref 65), some (.int 1), some (.int 1), some (.int (nI I)), some (.int (nI k)), some (.int (((nI WW) - 1) - (nI k))), some (.int (nI I)), some (.int (nI (c I k))), some (.int (nI (c ((WW - 1) - k) I)))], [.int (nI (c ((WW - 1) - k) I)), .int (nI (c I k)), .ref 72], mz_set (mz_set b 72 r72) 73 r73)) rfl ?_
            refine mz_arr (c' := (220, [some (.ref 65), some (.int 1), some (.int 1), some (.int (nI I)), some (.int (nI k)), some (.int (((nI WW) - 1) - (nI k))), some (.int (nI I)), some (.int (nI (c I k))), some (.int (nI (c ((WW - 1) - k) I)))], [], mz_up (mz_set (mz_set b 72 r72) 73 r73) 72 ((nI (c I k)).toNatClampNeg) (nI (c ((WW - 1) - k) I)))) rfl (show mz_in (nI (c I k)) 10 = true from sm_inN rfl (show (c I k) < 10 by omega) (by decide)) ?_
            rw [show (nI (c I k) : Int32).toNatClampNeg = (c I k) from sm_clN rfl (show (c I k) < 2 ^ 31 by omega)]
            refine mz_go 4 (c' := (228, [some (.ref 65), some (.int 1), some (.int 1), some (.int (nI I)), some (.int (nI k)), some (.int (((nI WW) - 1) - (nI k))), some (.int (nI I)), some (.int (nI (c I k))), some (.int (nI (c ((WW - 1) - k) I)))], [.int (nI (c I k)), .int (nI (c ((WW - 1) - k) I)), .ref 73], mz_up (mz_set (mz_set b 72 r72) 73 r73) 72 (c I k) (nI (c ((WW - 1) - k) I)))) rfl ?_
            refine mz_arr (c' := (229, [some (.ref 65), some (.int 1), some (.int 1), some (.int (nI I)), some (.int (nI k)), some (.int (((nI WW) - 1) - (nI k))), some (.int (nI I)), some (.int (nI (c I k))), some (.int (nI (c ((WW - 1) - k) I)))], [], mz_up (mz_up (mz_set (mz_set b 72 r72) 73 r73) 72 (c I k) (nI (c ((WW - 1) - k) I))) 73 ((nI (c ((WW - 1) - k) I)).toNatClampNeg) (nI (c I k)))) rfl (show mz_in (nI (c ((WW - 1) - k) I)) 10 = true from sm_inN rfl (show (c ((WW - 1) - k) I) < 10 by omega) (by decide)) ?_
            rw [show (nI (c ((WW - 1) - k) I) : Int32).toNatClampNeg = (c ((WW - 1) - k) I) from sm_clN rfl (show (c ((WW - 1) - k) I) < 2 ^ 31 by omega)]
            refine mz_go 2 (c' := (88, [some (.ref 65), some (.int 1), some (.int 1), some (.int (nI I)), some (.int ((nI k) + 1)), some (.int (((nI WW) - 1) - (nI k))), some (.int (nI I)), some (.int (nI (c I k))), some (.int (nI (c ((WW - 1) - k) I)))], [], mz_up (mz_up (mz_set (mz_set b 72 r72) 73 r73) 72 (c I k) (nI (c ((WW - 1) - k) I))) 73 (c ((WW - 1) - k) I) (nI (c I k)))) rfl ?_
            exact hr
          · have hm : mz_up (mz_up (mz_set (mz_set b 72 r72) 73 r73) 72 (c I k) (nI (c ((WW - 1) - k) I))) 73 (c ((WW - 1) - k) I) (nI (c I k)) = mz_set (mz_set b 72 ((mz_up (mz_up (mz_set (mz_set b 72 r72) 73 r73) 72 (c I k) (nI (c ((WW - 1) - k) I))) 73 (c ((WW - 1) - k) I) (nI (c I k))) 72)) 73 ((mz_up (mz_up (mz_set (mz_set b 72 r72) 73 r73) 72 (c I k) (nI (c ((WW - 1) - k) I))) 73 (c ((WW - 1) - k) I) (nI (c I k))) 73) := sm_of2 (fun i h1 h2 => by simp only [mz_set_ne h1, mz_set_ne h2, mz_up_ne h1, mz_up_ne h2])
            obtain ⟨b0, p0, p1, p2, p3, s72, s73, hin2, Er⟩ := ih (k + 1) (by omega) 0 (some (.int (((nI WW) - 1) - (nI k)))) (some (.int (nI I))) (some (.int (nI (c I k)))) (some (.int (nI (c ((WW - 1) - k) I)))) ((mz_up (mz_up (mz_set (mz_set b 72 r72) 73 r73) 72 (c I k) (nI (c ((WW - 1) - k) I))) 73 (c ((WW - 1) - k) I) (nI (c I k))) 72) ((mz_up (mz_up (mz_set (mz_set b 72 r72) 73 r73) 72 (c I k) (nI (c ((WW - 1) - k) I))) 73 (c ((WW - 1) - k) I) (nI (c I k))) 73) (vq_tuC h9 hI (by omega) hin q1 q3 q4)
            refine ⟨b0, p0, p1, p2, p3, s72, s73, hin2, fun r hr0 => ?_⟩
            have hr := Er r hr0
            rw [nI_succ k, ← hm] at hr
            refine mz_go 2 (c' := (91, [some (.ref 65), some (.int 1), some (.int a0), some (.int (nI I)), some (.int (nI k)), o0, o1, o2, o3], [.ref 65, .int (nI k)], mz_set (mz_set b 72 r72) 73 r73)) rfl ?_
            refine mz_doQ (R := mz_r183) (as := [.ref 65]) (rest := [.int (nI k)]) (r1 := some (.int (nI WW))) (m1 := mz_set (mz_set b 72 r72) 73 r73) mz_t183 mz_v183_65 rfl rfl rfl rfl rfl ⟨?_, rfl⟩ ?_
            · refine mz_go 4 (c' := (7, [some (.ref 65)], [.int (b 66 60)], mz_set (mz_set b 72 r72) 73 r73)) rfl ?_
              rw [h6660]
              exact mz_ret rfl
            refine mz_go 1 (c' := (if (nI WW) ≤ (nI k) then 235 else 97, [some (.ref 65), some (.int 1), some (.int a0), some (.int (nI I)), some (.int (nI k)), o0, o1, o2, o3], [], mz_set (mz_set b 72 r72) 73 r73)) rfl ?_
            refine mz_ifF (show ¬ ((nI WW) ≤ (nI k)) from (sm_nleN rfl rfl (show k < WW by omega) (show WW < 2 ^ 31 by omega))) ?_
            refine mz_go 12 (c' := (118, [some (.ref 65), some (.int 1), some (.int a0), some (.int (nI I)), some (.int (nI k)), some (.int (nI I)), some (.int (nI k)), some (.int 0), some (.int (nI I))], [.ref 65], mz_set (mz_set b 72 r72) 73 r73)) rfl ?_
            refine mz_doQ (R := mz_r183) (as := [.ref 65]) (rest := []) (r1 := some (.int (nI WW))) (m1 := mz_set (mz_set b 72 r72) 73 r73) mz_t183 mz_v183_65 rfl rfl rfl rfl rfl ⟨?_, rfl⟩ ?_
            · refine mz_go 4 (c' := (7, [some (.ref 65)], [.int (b 66 60)], mz_set (mz_set b 72 r72) 73 r73)) rfl ?_
              rw [h6660]
              exact mz_ret rfl
            refine mz_go 15 (c' := (142, [some (.ref 65), some (.int 1), some (.int a0), some (.int (nI I)), some (.int (nI k)), some (.int (((nI WW) - 1) - (nI k))), some (.int (nI I)), some (.int 1), some (.int (nI I))], [.int (nI k), .int (nI I), .ref 65], mz_set (mz_set b 72 r72) 73 r73)) rfl ?_
            refine mz_doQ (R := mz_r186) (as := [.ref 65, .int (nI I), .int (nI k)]) (rest := []) (r1 := some (.int (nI (c I k)))) (m1 := mz_set (mz_set b 72 r72) 73 r73) mz_t186 mz_v186_65 rfl rfl rfl rfl rfl (Ez1.deep (by decide)) ?_
            refine mz_go 4 (c' := (152, [some (.ref 65), some (.int 1), some (.int a0), some (.int (nI I)), some (.int (nI k)), some (.int (((nI WW) - 1) - (nI k))), some (.int (nI I)), some (.int (nI (c I k))), some (.int (nI I))], [.int (nI I), .int (((nI WW) - 1) - (nI k)), .ref 65], mz_set (mz_set b 72 r72) 73 r73)) rfl ?_
            refine mz_doQ (R := mz_r186) (as := [.ref 65, .int (((nI WW) - 1) - (nI k)), .int (nI I)]) (rest := []) (r1 := some (.int (nI (c ((WW - 1) - k) I)))) (m1 := mz_set (mz_set b 72 r72) 73 r73) mz_t186 mz_v186_65 rfl rfl rfl rfl rfl (Ez2.deep (by decide)) ?_
            refine mz_go 3 (c' := (if a0 = 0 then 209 else 161, [some (.ref 65), some (.int 1), some (.int a0), some (.int (nI I)), some (.int (nI k)), some (.int (((nI WW) - 1) - (nI k))), some (.int (nI I)), some (.int (nI (c I k))), some (.int (nI (c ((WW - 1) - k) I)))], [], mz_set (mz_set b 72 r72) 73 r73)) rfl ?_
            refine mz_ifF q1 ?_
            refine mz_go 3 (c' := (167, [some (.ref 65), some (.int 1), some (.int a0), some (.int (nI I)), some (.int (nI k)), some (.int (((nI WW) - 1) - (nI k))), some (.int (nI I)), some (.int (nI (c I k))), some (.int (nI (c ((WW - 1) - k) I)))], [.int (nI (c I k)), .ref 72], mz_set (mz_set b 72 r72) 73 r73)) rfl ?_
            refine mz_arr (c' := (168, [some (.ref 65), some (.int 1), some (.int a0), some (.int (nI I)), some (.int (nI k)), some (.int (((nI WW) - 1) - (nI k))), some (.int (nI I)), some (.int (nI (c I k))), some (.int (nI (c ((WW - 1) - k) I)))], [.int (r72 ((nI (c I k)).toNatClampNeg))], mz_set (mz_set b 72 r72) 73 r73)) rfl (show mz_in (nI (c I k)) 10 = true from sm_inN rfl (show (c I k) < 10 by omega) (by decide)) ?_
            rw [show (nI (c I k) : Int32).toNatClampNeg = (c I k) from sm_clN rfl (show (c I k) < 2 ^ 31 by omega)]
            refine mz_go 1 (c' := (if (r72 (c I k)) < 0 then 183 else 171, [some (.ref 65), some (.int 1), some (.int a0), some (.int (nI I)), some (.int (nI k)), some (.int (((nI WW) - 1) - (nI k))), some (.int (nI I)), some (.int (nI (c I k))), some (.int (nI (c ((WW - 1) - k) I)))], [], mz_set (mz_set b 72 r72) 73 r73)) rfl ?_
            refine mz_ifT q2 ?_
            refine mz_go 3 (c' := (189, [some (.ref 65), some (.int 1), some (.int a0), some (.int (nI I)), some (.int (nI k)), some (.int (((nI WW) - 1) - (nI k))), some (.int (nI I)), some (.int (nI (c I k))), some (.int (nI (c ((WW - 1) - k) I)))], [.int (nI (c ((WW - 1) - k) I)), .ref 73], mz_set (mz_set b 72 r72) 73 r73)) rfl ?_
            refine mz_arr (c' := (190, [some (.ref 65), some (.int 1), some (.int a0), some (.int (nI I)), some (.int (nI k)), some (.int (((nI WW) - 1) - (nI k))), some (.int (nI I)), some (.int (nI (c I k))), some (.int (nI (c ((WW - 1) - k) I)))], [.int (r73 ((nI (c ((WW - 1) - k) I)).toNatClampNeg))], mz_set (mz_set b 72 r72) 73 r73)) rfl (show mz_in (nI (c ((WW - 1) - k) I)) 10 = true from sm_inN rfl (show (c ((WW - 1) - k) I) < 10 by omega) (by decide)) ?_
            rw [show (nI (c ((WW - 1) - k) I) : Int32).toNatClampNeg = (c ((WW - 1) - k) I) from sm_clN rfl (show (c ((WW - 1) - k) I) < 2 ^ 31 by omega)]
            refine mz_go 1 (c' := (if (r73 (c ((WW - 1) - k) I)) < 0 then 205 else 193, [some (.ref 65), some (.int 1), some (.int a0), some (.int (nI I)), some (.int (nI k)), some (.int (((nI WW) - 1) - (nI k))), some (.int (nI I)), some (.int (nI (c I k))), some (.int (nI (c ((WW - 1) - k) I)))], [], mz_set (mz_set b 72 r72) 73 r73)) rfl ?_
            refine mz_ifF q3 ?_
            refine mz_go 3 (c' := (199, [some (.ref 65), some (.int 1), some (.int a0), some (.int (nI I)), some (.int (nI k)), some (.int (((nI WW) - 1) - (nI k))), some (.int (nI I)), some (.int (nI (c I k))), some (.int (nI (c ((WW - 1) - k) I)))], [.int (nI (c ((WW - 1) - k) I)), .ref 73], mz_set (mz_set b 72 r72) 73 r73)) rfl ?_
            refine mz_arr (c' := (200, [some (.ref 65), some (.int 1), some (.int a0), some (.int (nI I)), some (.int (nI k)), some (.int (((nI WW) - 1) - (nI k))), some (.int (nI I)), some (.int (nI (c I k))), some (.int (nI (c ((WW - 1) - k) I)))], [.int (r73 ((nI (c ((WW - 1) - k) I)).toNatClampNeg))], mz_set (mz_set b 72 r72) 73 r73)) rfl (show mz_in (nI (c ((WW - 1) - k) I)) 10 = true from sm_inN rfl (show (c ((WW - 1) - k) I) < 10 by omega) (by decide)) ?_
            rw [show (nI (c ((WW - 1) - k) I) : Int32).toNatClampNeg = (c ((WW - 1) - k) I) from sm_clN rfl (show (c ((WW - 1) - k) I) < 2 ^ 31 by omega)]
            refine mz_go 2 (c' := (if (r73 (c ((WW - 1) - k) I)) = (nI (c I k)) then 205 else 209, [some (.ref 65), some (.int 1), some (.int a0), some (.int (nI I)), some (.int (nI k)), some (.int (((nI WW) - 1) - (nI k))), some (.int (nI I)), some (.int (nI (c I k))), some (.int (nI (c ((WW - 1) - k) I)))], [], mz_set (mz_set b 72 r72) 73 r73)) rfl ?_
            refine mz_ifF q4 ?_
            refine mz_go 6 (c' := (219, [some (.ref 65), some (.int 1), some (.int 0), some (.int (nI I)), some (.int (nI k)), some (.int (((nI WW) - 1) - (nI k))), some (.int (nI I)), some (.int (nI (c I k))), some (.int (nI (c ((WW - 1) - k) I)))], [.int (nI (c ((WW - 1) - k) I)), .int (nI (c I k)), .ref 72], mz_set (mz_set b 72 r72) 73 r73)) rfl ?_
            refine mz_arr (c' := (220, [some (.ref 65), some (.int 1), some (.int 0), some (.int (nI I)), some (.int (nI k)), some (.int (((nI WW) - 1) - (nI k))), some (.int (nI I)), some (.int (nI (c I k))), some (.int (nI (c ((WW - 1) - k) I)))], [], mz_up (mz_set (mz_set b 72 r72) 73 r73) 72 ((nI (c I k)).toNatClampNeg) (nI (c ((WW - 1) - k) I)))) rfl (show mz_in (nI (c I k)) 10 = true from sm_inN rfl (show (c I k) < 10 by omega) (by decide)) ?_
            rw [show (nI (c I k) : Int32).toNatClampNeg = (c I k) from sm_clN rfl (show (c I k) < 2 ^ 31 by omega)]
            refine mz_go 4 (c' := (228, [some (.ref 65), some (.int 1), some (.int 0), some (.int (nI I)), some (.int (nI k)), some (.int (((nI WW) - 1) - (nI k))), some (.int (nI I)), some (.int (nI (c I k))), some (.int (nI (c ((WW - 1) - k) I)))], [.int (nI (c I k)), .int (nI (c ((WW - 1) - k) I)), .ref 73], mz_up (mz_set (mz_set b 72 r72) 73 r73) 72 (c I k) (nI (c ((WW - 1) - k) I)))) rfl ?_
            refine mz_arr (c' := (229, [some (.ref 65), some (.int 1), some (.int 0), some (.int (nI I)), some (.int (nI k)), some (.int (((nI WW) - 1) - (nI k))), some (.int (nI I)), some (.int (nI (c I k))), some (.int (nI (c ((WW - 1) - k) I)))], [], mz_up (mz_up (mz_set (mz_set b 72 r72) 73 r73) 72 (c I k) (nI (c ((WW - 1) - k) I))) 73 ((nI (c ((WW - 1) - k) I)).toNatClampNeg) (nI (c I k)))) rfl (show mz_in (nI (c ((WW - 1) - k) I)) 10 = true from sm_inN rfl (show (c ((WW - 1) - k) I) < 10 by omega) (by decide)) ?_
            rw [show (nI (c ((WW - 1) - k) I) : Int32).toNatClampNeg = (c ((WW - 1) - k) I) from sm_clN rfl (show (c ((WW - 1) - k) I) < 2 ^ 31 by omega)]
            refine mz_go 2 (c' := (88, [some (.ref 65), some (.int 1), some (.int 0), some (.int (nI I)), some (.int ((nI k) + 1)), some (.int (((nI WW) - 1) - (nI k))), some (.int (nI I)), some (.int (nI (c I k))), some (.int (nI (c ((WW - 1) - k) I)))], [], mz_up (mz_up (mz_set (mz_set b 72 r72) 73 r73) 72 (c I k) (nI (c ((WW - 1) - k) I))) 73 (c ((WW - 1) - k) I) (nI (c I k)))) rfl ?_
            exact hr
      · by_cases q5 : (r72 (c I k)) = (nI (c ((WW - 1) - k) I))
        · by_cases q6 : (r73 (c ((WW - 1) - k) I)) < 0
          · have hm : mz_up (mz_up (mz_set (mz_set b 72 r72) 73 r73) 72 (c I k) (nI (c ((WW - 1) - k) I))) 73 (c ((WW - 1) - k) I) (nI (c I k)) = mz_set (mz_set b 72 ((mz_up (mz_up (mz_set (mz_set b 72 r72) 73 r73) 72 (c I k) (nI (c ((WW - 1) - k) I))) 73 (c ((WW - 1) - k) I) (nI (c I k))) 72)) 73 ((mz_up (mz_up (mz_set (mz_set b 72 r72) 73 r73) 72 (c I k) (nI (c ((WW - 1) - k) I))) 73 (c ((WW - 1) - k) I) (nI (c I k))) 73) := sm_of2 (fun i h1 h2 => by simp only [mz_set_ne h1, mz_set_ne h2, mz_up_ne h1, mz_up_ne h2])
            obtain ⟨b0, p0, p1, p2, p3, s72, s73, hin2, Er⟩ := ih (k + 1) (by omega) 1 (some (.int (((nI WW) - 1) - (nI k)))) (some (.int (nI I))) (some (.int (nI (c I k)))) (some (.int (nI (c ((WW - 1) - k) I)))) ((mz_up (mz_up (mz_set (mz_set b 72 r72) 73 r73) 72 (c I k) (nI (c ((WW - 1) - k) I))) 73 (c ((WW - 1) - k) I) (nI (c I k))) 72) ((mz_up (mz_up (mz_set (mz_set b 72 r72) 73 r73) 72 (c I k) (nI (c ((WW - 1) - k) I))) 73 (c ((WW - 1) - k) I) (nI (c I k))) 73) (vq_tuD h9 hI (by omega) hin q1 (Or.inr q5) (Or.inl q6) (fun v => by rw [mz_up_ne (show (72 : Nat) ≠ 73 by decide), mz_up_eq, mz_set_ne (show (72 : Nat) ≠ 73 by decide), mz_set_eq]; rfl) (fun v => by rw [mz_up_eq, mz_up_ne (show (73 : Nat) ≠ 72 by decide), mz_set_eq]; rfl))
            refine ⟨b0, p0, p1, p2, p3, s72, s73, hin2, fun r hr0 => ?_⟩
            have hr := Er r hr0
            rw [nI_succ k, ← hm] at hr
            refine mz_go 2 (c' := (91, [some (.ref 65), some (.int 1), some (.int a0), some (.int (nI I)), some (.int (nI k)), o0, o1, o2, o3], [.ref 65, .int (nI k)], mz_set (mz_set b 72 r72) 73 r73)) rfl ?_
            refine mz_doQ (R := mz_r183) (as := [.ref 65]) (rest := [.int (nI k)]) (r1 := some (.int (nI WW))) (m1 := mz_set (mz_set b 72 r72) 73 r73) mz_t183 mz_v183_65 rfl rfl rfl rfl rfl ⟨?_, rfl⟩ ?_
            · refine mz_go 4 (c' := (7, [some (.ref 65)], [.int (b 66 60)], mz_set (mz_set b 72 r72) 73 r73)) rfl ?_
              rw [h6660]
              exact mz_ret rfl
            refine mz_go 1 (c' := (if (nI WW) ≤ (nI k) then 235 else 97, [some (.ref 65), some (.int 1), some (.int a0), some (.int (nI I)), some (.int (nI k)), o0, o1, o2, o3], [], mz_set (mz_set b 72 r72) 73 r73)) rfl ?_
            refine mz_ifF (show ¬ ((nI WW) ≤ (nI k)) from (sm_nleN rfl rfl (show k < WW by omega) (show WW < 2 ^ 31 by omega))) ?_
            refine mz_go 12 (c' := (118, [some (.ref 65), some (.int 1), some (.int a0), some (.int (nI I)), some (.int (nI k)), some (.int (nI I)), some (.int (nI k)), some (.int 0), some (.int (nI I))], [.ref 65], mz_set (mz_set b 72 r72) 73 r73)) rfl ?_
            refine mz_doQ (R := mz_r183) (as := [.ref 65]) (rest := []) (r1 := some (.int (nI WW))) (m1 := mz_set (mz_set b 72 r72) 73 r73) mz_t183 mz_v183_65 rfl rfl rfl rfl rfl ⟨?_, rfl⟩ ?_
            · refine mz_go 4 (c' := (7, [some (.ref 65)], [.int (b 66 60)], mz_set (mz_set b 72 r72) 73 r73)) rfl ?_
              rw [h6660]
              exact mz_ret rfl
            refine mz_go 15 (c' := (142, [some (.ref 65), some (.int 1), some (.int a0), some (.int (nI I)), some (.int (nI k)), some (.int (((nI WW) - 1) - (nI k))), some (.int (nI I)), some (.int 1), some (.int (nI I))], [.int (nI k), .int (nI I), .ref 65], mz_set (mz_set b 72 r72) 73 r73)) rfl ?_
            refine mz_doQ (R := mz_r186) (as := [.ref 65, .int (nI I), .int (nI k)]) (rest := []) (r1 := some (.int (nI (c I k)))) (m1 := mz_set (mz_set b 72 r72) 73 r73) mz_t186 mz_v186_65 rfl rfl rfl rfl rfl (Ez1.deep (by decide)) ?_
            refine mz_go 4 (c' := (152, [some (.ref 65), some (.int 1), some (.int a0), some (.int (nI I)), some (.int (nI k)), some (.int (((nI WW) - 1) - (nI k))), some (.int (nI I)), some (.int (nI (c I k))), some (.int (nI I))], [.int (nI I), .int (((nI WW) - 1) - (nI k)), .ref 65], mz_set (mz_set b 72 r72) 73 r73)) rfl ?_
            refine mz_doQ (R := mz_r186) (as := [.ref 65, .int (((nI WW) - 1) - (nI k)), .int (nI I)]) (rest := []) (r1 := some (.int (nI (c ((WW - 1) - k) I)))) (m1 := mz_set (mz_set b 72 r72) 73 r73) mz_t186 mz_v186_65 rfl rfl rfl rfl rfl (Ez2.deep (by decide)) ?_
            refine mz_go 3 (c' := (if a0 = 0 then 209 else 161, [some (.ref 65), some (.int 1), some (.int a0), some (.int (nI I)), some (.int (nI k)), some (.int (((nI WW) - 1) - (nI k))), some (.int (nI I)), some (.int (nI (c I k))), some (.int (nI (c ((WW - 1) - k) I)))], [], mz_set (mz_set b 72 r72) 73 r73)) rfl ?_
            refine mz_ifF q1 ?_
            refine mz_go 3 (c' := (167, [some (.ref 65), some (.int 1), some (.int a0), some (.int (nI I)), some (.int (nI k)), some (.int (((nI WW) - 1) - (nI k))), some (.int (nI I)), some (.int (nI (c I k))), some (.int (nI (c ((WW - 1) - k) I)))], [.int (nI (c I k)), .ref 72], mz_set (mz_set b 72 r72) 73 r73)) rfl ?_
            refine mz_arr (c' := (168, [some (.ref 65), some (.int 1), some (.int a0), some (.int (nI I)), some (.int (nI k)), some (.int (((nI WW) - 1) - (nI k))), some (.int (nI I)), some (.int (nI (c I k))), some (.int (nI (c ((WW - 1) - k) I)))], [.int (r72 ((nI (c I k)).toNatClampNeg))], mz_set (mz_set b 72 r72) 73 r73)) rfl (show mz_in (nI (c I k)) 10 = true from sm_inN rfl (show (c I k) < 10 by omega) (by decide)) ?_
            rw [show (nI (c I k) : Int32).toNatClampNeg = (c I k) from sm_clN rfl (show (c I k) < 2 ^ 31 by omega)]
            refine mz_go 1 (c' := (if (r72 (c I k)) < 0 then 183 else 171, [some (.ref 65), some (.int 1), some (.int a0), some (.int (nI I)), some (.int (nI k)), some (.int (((nI WW) - 1) - (nI k))), some (.int (nI I)), some (.int (nI (c I k))), some (.int (nI (c ((WW - 1) - k) I)))], [], mz_set (mz_set b 72 r72) 73 r73)) rfl ?_
            refine mz_ifF q2 ?_
            refine mz_go 3 (c' := (177, [some (.ref 65), some (.int 1), some (.int a0), some (.int (nI I)), some (.int (nI k)), some (.int (((nI WW) - 1) - (nI k))), some (.int (nI I)), some (.int (nI (c I k))), some (.int (nI (c ((WW - 1) - k) I)))], [.int (nI (c I k)), .ref 72], mz_set (mz_set b 72 r72) 73 r73)) rfl ?_
            refine mz_arr (c' := (178, [some (.ref 65), some (.int 1), some (.int a0), some (.int (nI I)), some (.int (nI k)), some (.int (((nI WW) - 1) - (nI k))), some (.int (nI I)), some (.int (nI (c I k))), some (.int (nI (c ((WW - 1) - k) I)))], [.int (r72 ((nI (c I k)).toNatClampNeg))], mz_set (mz_set b 72 r72) 73 r73)) rfl (show mz_in (nI (c I k)) 10 = true from sm_inN rfl (show (c I k) < 10 by omega) (by decide)) ?_
            rw [show (nI (c I k) : Int32).toNatClampNeg = (c I k) from sm_clN rfl (show (c I k) < 2 ^ 31 by omega)]
            refine mz_go 2 (c' := (if (r72 (c I k)) = (nI (c ((WW - 1) - k) I)) then 183 else 209, [some (.ref 65), some (.int 1), some (.int a0), some (.int (nI I)), some (.int (nI k)), some (.int (((nI WW) - 1) - (nI k))), some (.int (nI I)), some (.int (nI (c I k))), some (.int (nI (c ((WW - 1) - k) I)))], [], mz_set (mz_set b 72 r72) 73 r73)) rfl ?_
            refine mz_ifT q5 ?_
            refine mz_go 3 (c' := (189, [some (.ref 65), some (.int 1), some (.int a0), some (.int (nI I)), some (.int (nI k)), some (.int (((nI WW) - 1) - (nI k))), some (.int (nI I)), some (.int (nI (c I k))), some (.int (nI (c ((WW - 1) - k) I)))], [.int (nI (c ((WW - 1) - k) I)), .ref 73], mz_set (mz_set b 72 r72) 73 r73)) rfl ?_
            refine mz_arr (c' := (190, [some (.ref 65), some (.int 1), some (.int a0), some (.int (nI I)), some (.int (nI k)), some (.int (((nI WW) - 1) - (nI k))), some (.int (nI I)), some (.int (nI (c I k))), some (.int (nI (c ((WW - 1) - k) I)))], [.int (r73 ((nI (c ((WW - 1) - k) I)).toNatClampNeg))], mz_set (mz_set b 72 r72) 73 r73)) rfl (show mz_in (nI (c ((WW - 1) - k) I)) 10 = true from sm_inN rfl (show (c ((WW - 1) - k) I) < 10 by omega) (by decide)) ?_
            rw [show (nI (c ((WW - 1) - k) I) : Int32).toNatClampNeg = (c ((WW - 1) - k) I) from sm_clN rfl (show (c ((WW - 1) - k) I) < 2 ^ 31 by omega)]
            refine mz_go 1 (c' := (if (r73 (c ((WW - 1) - k) I)) < 0 then 205 else 193, [some (.ref 65), some (.int 1), some (.int a0), some (.int (nI I)), some (.int (nI k)), some (.int (((nI WW) - 1) - (nI k))), some (.int (nI I)), some (.int (nI (c I k))), some (.int (nI (c ((WW - 1) - k) I)))], [], mz_set (mz_set b 72 r72) 73 r73)) rfl ?_
            refine mz_ifT q6 ?_
            refine mz_go 7 (c' := (219, [some (.ref 65), some (.int 1), some (.int 1), some (.int (nI I)), some (.int (nI k)), some (.int (((nI WW) - 1) - (nI k))), some (.int (nI I)), some (.int (nI (c I k))), some (.int (nI (c ((WW - 1) - k) I)))], [.int (nI (c ((WW - 1) - k) I)), .int (nI (c I k)), .ref 72], mz_set (mz_set b 72 r72) 73 r73)) rfl ?_
            refine mz_arr (c' := (220, [some (.ref 65), some (.int 1), some (.int 1), some (.int (nI I)), some (.int (nI k)), some (.int (((nI WW) - 1) - (nI k))), some (.int (nI I)), some (.int (nI (c I k))), some (.int (nI (c ((WW - 1) - k) I)))], [], mz_up (mz_set (mz_set b 72 r72) 73 r73) 72 ((nI (c I k)).toNatClampNeg) (nI (c ((WW - 1) - k) I)))) rfl (show mz_in (nI (c I k)) 10 = true from sm_inN rfl (show (c I k) < 10 by omega) (by decide)) ?_
            rw [show (nI (c I k) : Int32).toNatClampNeg = (c I k) from sm_clN rfl (show (c I k) < 2 ^ 31 by omega)]
            refine mz_go 4 (c' := (228, [some (.ref 65), some (.int 1), some (.int 1), some (.int (nI I)), some (.int (nI k)), some (.int (((nI WW) - 1) - (nI k))), some (.int (nI I)), some (.int (nI (c I k))), some (.int (nI (c ((WW - 1) - k) I)))], [.int (nI (c I k)), .int (nI (c ((WW - 1) - k) I)), .ref 73], mz_up (mz_set (mz_set b 72 r72) 73 r73) 72 (c I k) (nI (c ((WW - 1) - k) I)))) rfl ?_
            refine mz_arr (c' := (229, [some (.ref 65), some (.int 1), some (.int 1), some (.int (nI I)), some (.int (nI k)), some (.int (((nI WW) - 1) - (nI k))), some (.int (nI I)), some (.int (nI (c I k))), some (.int (nI (c ((WW - 1) - k) I)))], [], mz_up (mz_up (mz_set (mz_set b 72 r72) 73 r73) 72 (c I k) (nI (c ((WW - 1) - k) I))) 73 ((nI (c ((WW - 1) - k) I)).toNatClampNeg) (nI (c I k)))) rfl (show mz_in (nI (c ((WW - 1) - k) I)) 10 = true from sm_inN rfl (show (c ((WW - 1) - k) I) < 10 by omega) (by decide)) ?_
            rw [show (nI (c ((WW - 1) - k) I) : Int32).toNatClampNeg = (c ((WW - 1) - k) I) from sm_clN rfl (show (c ((WW - 1) - k) I) < 2 ^ 31 by omega)]
            refine mz_go 2 (c' := (88, [some (.ref 65), some (.int 1), some (.int 1), some (.int (nI I)), some (.int ((nI k) + 1)), some (.int (((nI WW) - 1) - (nI k))), some (.int (nI I)), some (.int (nI (c I k))), some (.int (nI (c ((WW - 1) - k) I)))], [], mz_up (mz_up (mz_set (mz_set b 72 r72) 73 r73) 72 (c I k) (nI (c ((WW - 1) - k) I))) 73 (c ((WW - 1) - k) I) (nI (c I k)))) rfl ?_
            exact hr
          · by_cases q7 : (r73 (c ((WW - 1) - k) I)) = (nI (c I k))
            · have hm : mz_up (mz_up (mz_set (mz_set b 72 r72) 73 r73) 72 (c I k) (nI (c ((WW - 1) - k) I))) 73 (c ((WW - 1) - k) I) (nI (c I k)) = mz_set (mz_set b 72 ((mz_up (mz_up (mz_set (mz_set b 72 r72) 73 r73) 72 (c I k) (nI (c ((WW - 1) - k) I))) 73 (c ((WW - 1) - k) I) (nI (c I k))) 72)) 73 ((mz_up (mz_up (mz_set (mz_set b 72 r72) 73 r73) 72 (c I k) (nI (c ((WW - 1) - k) I))) 73 (c ((WW - 1) - k) I) (nI (c I k))) 73) := sm_of2 (fun i h1 h2 => by simp only [mz_set_ne h1, mz_set_ne h2, mz_up_ne h1, mz_up_ne h2])
              obtain ⟨b0, p0, p1, p2, p3, s72, s73, hin2, Er⟩ := ih (k + 1) (by omega) 1 (some (.int (((nI WW) - 1) - (nI k)))) (some (.int (nI I))) (some (.int (nI (c I k)))) (some (.int (nI (c ((WW - 1) - k) I)))) ((mz_up (mz_up (mz_set (mz_set b 72 r72) 73 r73) 72 (c I k) (nI (c ((WW - 1) - k) I))) 73 (c ((WW - 1) - k) I) (nI (c I k))) 72) ((mz_up (mz_up (mz_set (mz_set b 72 r72) 73 r73) 72 (c I k) (nI (c ((WW - 1) - k) I))) 73 (c ((WW - 1) - k) I) (nI (c I k))) 73) (vq_tuD h9 hI (by omega) hin q1 (Or.inr q5) (Or.inr q7) (fun v => by rw [mz_up_ne (show (72 : Nat) ≠ 73 by decide), mz_up_eq, mz_set_ne (show (72 : Nat) ≠ 73 by decide), mz_set_eq]; rfl) (fun v => by rw [mz_up_eq, mz_up_ne (show (73 : Nat) ≠ 72 by decide), mz_set_eq]; rfl))
              refine ⟨b0, p0, p1, p2, p3, s72, s73, hin2, fun r hr0 => ?_⟩
              have hr := Er r hr0
              rw [nI_succ k, ← hm] at hr
              refine mz_go 2 (c' := (91, [some (.ref 65), some (.int 1), some (.int a0), some (.int (nI I)), some (.int (nI k)), o0, o1, o2, o3], [.ref 65, .int (nI k)], mz_set (mz_set b 72 r72) 73 r73)) rfl ?_
              refine mz_doQ (R := mz_r183) (as := [.ref 65]) (rest := [.int (nI k)]) (r1 := some (.int (nI WW))) (m1 := mz_set (mz_set b 72 r72) 73 r73) mz_t183 mz_v183_65 rfl rfl rfl rfl rfl ⟨?_, rfl⟩ ?_
              · refine mz_go 4 (c' := (7, [some (.ref 65)], [.int (b 66 60)], mz_set (mz_set b 72 r72) 73 r73)) rfl ?_
                rw [h6660]
                exact mz_ret rfl
              refine mz_go 1 (c' := (if (nI WW) ≤ (nI k) then 235 else 97, [some (.ref 65), some (.int 1), some (.int a0), some (.int (nI I)), some (.int (nI k)), o0, o1, o2, o3], [], mz_set (mz_set b 72 r72) 73 r73)) rfl ?_
              refine mz_ifF (show ¬ ((nI WW) ≤ (nI k)) from (sm_nleN rfl rfl (show k < WW by omega) (show WW < 2 ^ 31 by omega))) ?_
              refine mz_go 12 (c' := (118, [some (.ref 65), some (.int 1), some (.int a0), some (.int (nI I)), some (.int (nI k)), some (.int (nI I)), some (.int (nI k)), some (.int 0), some (.int (nI I))], [.ref 65], mz_set (mz_set b 72 r72) 73 r73)) rfl ?_
              refine mz_doQ (R := mz_r183) (as := [.ref 65]) (rest := []) (r1 := some (.int (nI WW))) (m1 := mz_set (mz_set b 72 r72) 73 r73) mz_t183 mz_v183_65 rfl rfl rfl rfl rfl ⟨?_, rfl⟩ ?_
              · refine mz_go 4 (c' := (7, [some (.ref 65)], [.int (b 66 60)], mz_set (mz_set b 72 r72) 73 r73)) rfl ?_
                rw [h6660]
                exact mz_ret rfl
              refine mz_go 15 (c' := (142, [some (.ref 65), some (.int 1), some (.int a0), some (.int (nI I)), some (.int (nI k)), some (.int (((nI WW) - 1) - (nI k))), some (.int (nI I)), some (.int 1), some (.int (nI I))], [.int (nI k), .int (nI I), .ref 65], mz_set (mz_set b 72 r72) 73 r73)) rfl ?_
              refine mz_doQ (R := mz_r186) (as := [.ref 65, .int (nI I), .int (nI k)]) (rest := []) (r1 := some (.int (nI (c I k)))) (m1 := mz_set (mz_set b 72 r72) 73 r73) mz_t186 mz_v186_65 rfl rfl rfl rfl rfl (Ez1.deep (by decide)) ?_
              refine mz_go 4 (c' := (152, [some (.ref 65), some (.int 1), some (.int a0), some (.int (nI I)), some (.int (nI k)), some (.int (((nI WW) - 1) - (nI k))), some (.int (nI I)), some (.int (nI (c I k))), some (.int (nI I))], [.int (nI I), .int (((nI WW) - 1) - (nI k)), .ref 65], mz_set (mz_set b 72 r72) 73 r73)) rfl ?_
              refine mz_doQ (R := mz_r186) (as := [.ref 65, .int (((nI WW) - 1) - (nI k)), .int (nI I)]) (rest := []) (r1 := some (.int (nI (c ((WW - 1) - k) I)))) (m1 := mz_set (mz_set b 72 r72) 73 r73) mz_t186 mz_v186_65 rfl rfl rfl rfl rfl (Ez2.deep (by decide)) ?_
              refine mz_go 3 (c' := (if a0 = 0 then 209 else 161, [some (.ref 65), some (.int 1), some (.int a0), some (.int (nI I)), some (.int (nI k)), some (.int (((nI WW) - 1) - (nI k))), some (.int (nI I)), some (.int (nI (c I k))), some (.int (nI (c ((WW - 1) - k) I)))], [], mz_set (mz_set b 72 r72) 73 r73)) rfl ?_
              refine mz_ifF q1 ?_
              refine mz_go 3 (c' := (167, [some (.ref 65), some (.int 1), some (.int a0), some (.int (nI I)), some (.int (nI k)), some (.int (((nI WW) - 1) - (nI k))), some (.int (nI I)), some (.int (nI (c I k))), some (.int (nI (c ((WW - 1) - k) I)))], [.int (nI (c I k)), .ref 72], mz_set (mz_set b 72 r72) 73 r73)) rfl ?_
              refine mz_arr (c' := (168, [some (.ref 65), some (.int 1), some (.int a0), some (.int (nI I)), some (.int (nI k)), some (.int (((nI WW) - 1) - (nI k))), some (.int (nI I)), some (.int (nI (c I k))), some (.int (nI (c ((WW - 1) - k) I)))], [.int (r72 ((nI (c I k)).toNatClampNeg))], mz_set (mz_set b 72 r72) 73 r73)) rfl (show mz_in (nI (c I k)) 10 = true from sm_inN rfl (show (c I k) < 10 by omega) (by decide)) ?_
              rw [show (nI (c I k) : Int32).toNatClampNeg = (c I k) from sm_clN rfl (show (c I k) < 2 ^ 31 by omega)]
              refine mz_go 1 (c' := (if (r72 (c I k)) < 0 then 183 else 171, [some (.ref 65), some (.int 1), some (.int a0), some (.int (nI I)), some (.int (nI k)), some (.int (((nI WW) - 1) - (nI k))), some (.int (nI I)), some (.int (nI (c I k))), some (.int (nI (c ((WW - 1) - k) I)))], [], mz_set (mz_set b 72 r72) 73 r73)) rfl ?_
              refine mz_ifF q2 ?_
              refine mz_go 3 (c' := (177, [some (.ref 65), some (.int 1), some (.int a0), some (.int (nI I)), some (.int (nI k)), some (.int (((nI WW) - 1) - (nI k))), some (.int (nI I)), some (.int (nI (c I k))), some (.int (nI (c ((WW - 1) - k) I)))], [.int (nI (c I k)), .ref 72], mz_set (mz_set b 72 r72) 73 r73)) rfl ?_
              refine mz_arr (c' := (178, [some (.ref 65), some (.int 1), some (.int a0), some (.int (nI I)), some (.int (nI k)), some (.int (((nI WW) - 1) - (nI k))), some (.int (nI I)), some (.int (nI (c I k))), some (.int (nI (c ((WW - 1) - k) I)))], [.int (r72 ((nI (c I k)).toNatClampNeg))], mz_set (mz_set b 72 r72) 73 r73)) rfl (show mz_in (nI (c I k)) 10 = true from sm_inN rfl (show (c I k) < 10 by omega) (by decide)) ?_
              rw [show (nI (c I k) : Int32).toNatClampNeg = (c I k) from sm_clN rfl (show (c I k) < 2 ^ 31 by omega)]
              refine mz_go 2 (c' := (if (r72 (c I k)) = (nI (c ((WW - 1) - k) I)) then 183 else 209, [some (.ref 65), some (.int 1), some (.int a0), some (.int (nI I)), some (.int (nI k)), some (.int (((nI WW) - 1) - (nI k))), some (.int (nI I)), some (.int (nI (c I k))), some (.int (nI (c ((WW - 1) - k) I)))], [], mz_set (mz_set b 72 r72) 73 r73)) rfl ?_
              refine mz_ifT q5 ?_
              refine mz_go 3 (c' := (189, [some (.ref 65), some (.int 1), some (.int a0), some (.int (nI I)), some (.int (nI k)), some (.int (((nI WW) - 1) - (nI k))), some (.int (nI I)), some (.int (nI (c I k))), some (.int (nI (c ((WW - 1) - k) I)))], [.int (nI (c ((WW - 1) - k) I)), .ref 73], mz_set (mz_set b 72 r72) 73 r73)) rfl ?_
              refine mz_arr (c' := (190, [some (.ref 65), some (.int 1), some (.int a0), some (.int (nI I)), some (.int (nI k)), some (.int (((nI WW) - 1) - (nI k))), some (.int (nI I)), some (.int (nI (c I k))), some (.int (nI (c ((WW - 1) - k) I)))], [.int (r73 ((nI (c ((WW - 1) - k) I)).toNatClampNeg))], mz_set (mz_set b 72 r72) 73 r73)) rfl (show mz_in (nI (c ((WW - 1) - k) I)) 10 = true from sm_inN rfl (show (c ((WW - 1) - k) I) < 10 by omega) (by decide)) ?_
              rw [show (nI (c ((WW - 1) - k) I) : Int32).toNatClampNeg = (c ((WW - 1) - k) I) from sm_clN rfl (show (c ((WW - 1) - k) I) < 2 ^ 31 by omega)]
              refine mz_go 1 (c' := (if (r73 (c ((WW - 1) - k) I)) < 0 then 205 else 193, [some (.ref 65), some (.int 1), some (.int a0), some (.int (nI I)), some (.int (nI k)), some (.int (((nI WW) - 1) - (nI k))), some (.int (nI I)), some (.int (nI (c I k))), some (.int (nI (c ((WW - 1) - k) I)))], [], mz_set (mz_set b 72 r72) 73 r73)) rfl ?_
              refine mz_ifF q6 ?_
              refine mz_go 3 (c' := (199, [some (.ref 65), some (.int 1), some (.int a0), some (.int (nI I)), some (.int (nI k)), some (.int (((nI WW) - 1) - (nI k))), some (.int (nI I)), some (.int (nI (c I k))), some (.int (nI (c ((WW - 1) - k) I)))], [.int (nI (c ((WW - 1) - k) I)), .ref 73], mz_set (mz_set b 72 r72) 73 r73)) rfl ?_
              refine mz_arr (c' := (200, [some (.ref 65), some (.int 1), some (.int a0), some (.int (nI I)), some (.int (nI k)), some (.int (((nI WW) - 1) - (nI k))), some (.int (nI I)), some (.int (nI (c I k))), some (.int (nI (c ((WW - 1) - k) I)))], [.int (r73 ((nI (c ((WW - 1) - k) I)).toNatClampNeg))], mz_set (mz_set b 72 r72) 73 r73)) rfl (show mz_in (nI (c ((WW - 1) - k) I)) 10 = true from sm_inN rfl (show (c ((WW - 1) - k) I) < 10 by omega) (by decide)) ?_
              rw [show (nI (c ((WW - 1) - k) I) : Int32).toNatClampNeg = (c ((WW - 1) - k) I) from sm_clN rfl (show (c ((WW - 1) - k) I) < 2 ^ 31 by omega)]
              refine mz_go 2 (c' := (if (r73 (c ((WW - 1) - k) I)) = (nI (c I k)) then 205 else 209, [some (.ref 65), some (.int 1), some (.int a0), some (.int (nI I)), some (.int (nI k)), some (.int (((nI WW) - 1) - (nI k))), some (.int (nI I)), some (.int (nI (c I k))), some (.int (nI (c ((WW - 1) - k) I)))], [], mz_set (mz_set b 72 r72) 73 r73)) rfl ?_
              refine mz_ifT q7 ?_
              refine mz_go 7 (c' := (219, [some (.ref 65), some (.int 1), some (.int 1), some (.int (nI I)), some (.int (nI k)), some (.int (((nI WW) - 1) - (nI k))), some (.int (nI I)), some (.int (nI (c I k))), some (.int (nI (c ((WW - 1) - k) I)))], [.int (nI (c ((WW - 1) - k) I)), .int (nI (c I k)), .ref 72], mz_set (mz_set b 72 r72) 73 r73)) rfl ?_
              refine mz_arr (c' := (220, [some (.ref 65), some (.int 1), some (.int 1), some (.int (nI I)), some (.int (nI k)), some (.int (((nI WW) - 1) - (nI k))), some (.int (nI I)), some (.int (nI (c I k))), some (.int (nI (c ((WW - 1) - k) I)))], [], mz_up (mz_set (mz_set b 72 r72) 73 r73) 72 ((nI (c I k)).toNatClampNeg) (nI (c ((WW - 1) - k) I)))) rfl (show mz_in (nI (c I k)) 10 = true from sm_inN rfl (show (c I k) < 10 by omega) (by decide)) ?_
              rw [show (nI (c I k) : Int32).toNatClampNeg = (c I k) from sm_clN rfl (show (c I k) < 2 ^ 31 by omega)]
              refine mz_go 4 (c' := (228, [some (.ref 65), some (.int 1), some (.int 1), some (.int (nI I)), some (.int (nI k)), some (.int (((nI WW) - 1) - (nI k))), some (.int (nI I)), some (.int (nI (c I k))), some (.int (nI (c ((WW - 1) - k) I)))], [.int (nI (c I k)), .int (nI (c ((WW - 1) - k) I)), .ref 73], mz_up (mz_set (mz_set b 72 r72) 73 r73) 72 (c I k) (nI (c ((WW - 1) - k) I)))) rfl ?_
              refine mz_arr (c' := (229, [some (.ref 65), some (.int 1), some (.int 1), some (.int (nI I)), some (.int (nI k)), some (.int (((nI WW) - 1) - (nI k))), some (.int (nI I)), some (.int (nI (c I k))), some (.int (nI (c ((WW - 1) - k) I)))], [], mz_up (mz_up (mz_set (mz_set b 72 r72) 73 r73) 72 (c I k) (nI (c ((WW - 1) - k) I))) 73 ((nI (c ((WW - 1) - k) I)).toNatClampNeg) (nI (c I k)))) rfl (show mz_in (nI (c ((WW - 1) - k) I)) 10 = true from sm_inN rfl (show (c ((WW - 1) - k) I) < 10 by omega) (by decide)) ?_
              rw [show (nI (c ((WW - 1) - k) I) : Int32).toNatClampNeg = (c ((WW - 1) - k) I) from sm_clN rfl (show (c ((WW - 1) - k) I) < 2 ^ 31 by omega)]
              refine mz_go 2 (c' := (88, [some (.ref 65), some (.int 1), some (.int 1), some (.int (nI I)), some (.int ((nI k) + 1)), some (.int (((nI WW) - 1) - (nI k))), some (.int (nI I)), some (.int (nI (c I k))), some (.int (nI (c ((WW - 1) - k) I)))], [], mz_up (mz_up (mz_set (mz_set b 72 r72) 73 r73) 72 (c I k) (nI (c ((WW - 1) - k) I))) 73 (c ((WW - 1) - k) I) (nI (c I k)))) rfl ?_
              exact hr
            · have hm : mz_up (mz_up (mz_set (mz_set b 72 r72) 73 r73) 72 (c I k) (nI (c ((WW - 1) - k) I))) 73 (c ((WW - 1) - k) I) (nI (c I k)) = mz_set (mz_set b 72 ((mz_up (mz_up (mz_set (mz_set b 72 r72) 73 r73) 72 (c I k) (nI (c ((WW - 1) - k) I))) 73 (c ((WW - 1) - k) I) (nI (c I k))) 72)) 73 ((mz_up (mz_up (mz_set (mz_set b 72 r72) 73 r73) 72 (c I k) (nI (c ((WW - 1) - k) I))) 73 (c ((WW - 1) - k) I) (nI (c I k))) 73) := sm_of2 (fun i h1 h2 => by simp only [mz_set_ne h1, mz_set_ne h2, mz_up_ne h1, mz_up_ne h2])
              obtain ⟨b0, p0, p1, p2, p3, s72, s73, hin2, Er⟩ := ih (k + 1) (by omega) 0 (some (.int (((nI WW) - 1) - (nI k)))) (some (.int (nI I))) (some (.int (nI (c I k)))) (some (.int (nI (c ((WW - 1) - k) I)))) ((mz_up (mz_up (mz_set (mz_set b 72 r72) 73 r73) 72 (c I k) (nI (c ((WW - 1) - k) I))) 73 (c ((WW - 1) - k) I) (nI (c I k))) 72) ((mz_up (mz_up (mz_set (mz_set b 72 r72) 73 r73) 72 (c I k) (nI (c ((WW - 1) - k) I))) 73 (c ((WW - 1) - k) I) (nI (c I k))) 73) (vq_tuC h9 hI (by omega) hin q1 q6 q7)
              refine ⟨b0, p0, p1, p2, p3, s72, s73, hin2, fun r hr0 => ?_⟩
              have hr := Er r hr0
              rw [nI_succ k, ← hm] at hr
              refine mz_go 2 (c' := (91, [some (.ref 65), some (.int 1), some (.int a0), some (.int (nI I)), some (.int (nI k)), o0, o1, o2, o3], [.ref 65, .int (nI k)], mz_set (mz_set b 72 r72) 73 r73)) rfl ?_
              refine mz_doQ (R := mz_r183) (as := [.ref 65]) (rest := [.int (nI k)]) (r1 := some (.int (nI WW))) (m1 := mz_set (mz_set b 72 r72) 73 r73) mz_t183 mz_v183_65 rfl rfl rfl rfl rfl ⟨?_, rfl⟩ ?_
              · refine mz_go 4 (c' := (7, [some (.ref 65)], [.int (b 66 60)], mz_set (mz_set b 72 r72) 73 r73)) rfl ?_
                rw [h6660]
                exact mz_ret rfl
              refine mz_go 1 (c' := (if (nI WW) ≤ (nI k) then 235 else 97, [some (.ref 65), some (.int 1), some (.int a0), some (.int (nI I)), some (.int (nI k)), o0, o1, o2, o3], [], mz_set (mz_set b 72 r72) 73 r73)) rfl ?_
              refine mz_ifF (show ¬ ((nI WW) ≤ (nI k)) from (sm_nleN rfl rfl (show k < WW by omega) (show WW < 2 ^ 31 by omega))) ?_
              refine mz_go 12 (c' := (118, [some (.ref 65), some (.int 1), some (.int a0), some (.int (nI I)), some (.int (nI k)), some (.int (nI I)), some (.int (nI k)), some (.int 0), some (.int (nI I))], [.ref 65], mz_set (mz_set b 72 r72) 73 r73)) rfl ?_
              refine mz_doQ (R := mz_r183) (as := [.ref 65]) (rest := []) (r1 := some (.int (nI WW))) (m1 := mz_set (mz_set b 72 r72) 73 r73) mz_t183 mz_v183_65 rfl rfl rfl rfl rfl ⟨?_, rfl⟩ ?_
              · refine mz_go 4 (c' := (7, [some (.ref 65)], [.int (b 66 60)], mz_set (mz_set b 72 r72) 73 r73)) rfl ?_
                rw [h6660]
                exact mz_ret rfl
              refine mz_go 15 (c' := (142, [some (.ref 65), some (.int 1), some (.int a0), some (.int (nI I)), some (.int (nI k)), some (.int (((nI WW) - 1) - (nI k))), some (.int (nI I)), some (.int 1), some (.int (nI I))], [.int (nI k), .int (nI I), .ref 65], mz_set (mz_set b 72 r72) 73 r73)) rfl ?_
              refine mz_doQ (R := mz_r186) (as := [.ref 65, .int (nI I), .int (nI k)]) (rest := []) (r1 := some (.int (nI (c I k)))) (m1 := mz_set (mz_set b 72 r72) 73 r73) mz_t186 mz_v186_65 rfl rfl rfl rfl rfl (Ez1.deep (by decide)) ?_
              refine mz_go 4 (c' := (152, [some (.ref 65), some (.int 1), some (.int a0), some (.int (nI I)), some (.int (nI k)), some (.int (((nI WW) - 1) - (nI k))), some (.int (nI I)), some (.int (nI (c I k))), some (.int (nI I))], [.int (nI I), .int (((nI WW) - 1) - (nI k)), .ref 65], mz_set (mz_set b 72 r72) 73 r73)) rfl ?_
              refine mz_doQ (R := mz_r186) (as := [.ref 65, .int (((nI WW) - 1) - (nI k)), .int (nI I)]) (rest := []) (r1 := some (.int (nI (c ((WW - 1) - k) I)))) (m1 := mz_set (mz_set b 72 r72) 73 r73) mz_t186 mz_v186_65 rfl rfl rfl rfl rfl (Ez2.deep (by decide)) ?_
              refine mz_go 3 (c' := (if a0 = 0 then 209 else 161, [some (.ref 65), some (.int 1), some (.int a0), some (.int (nI I)), some (.int (nI k)), some (.int (((nI WW) - 1) - (nI k))), some (.int (nI I)), some (.int (nI (c I k))), some (.int (nI (c ((WW - 1) - k) I)))], [], mz_set (mz_set b 72 r72) 73 r73)) rfl ?_
              refine mz_ifF q1 ?_
              refine mz_go 3 (c' := (167, [some (.ref 65), some (.int 1), some (.int a0), some (.int (nI I)), some (.int (nI k)), some (.int (((nI WW) - 1) - (nI k))), some (.int (nI I)), some (.int (nI (c I k))), some (.int (nI (c ((WW - 1) - k) I)))], [.int (nI (c I k)), .ref 72], mz_set (mz_set b 72 r72) 73 r73)) rfl ?_
              refine mz_arr (c' := (168, [some (.ref 65), some (.int 1), some (.int a0), some (.int (nI I)), some (.int (nI k)), some (.int (((nI WW) - 1) - (nI k))), some (.int (nI I)), some (.int (nI (c I k))), some (.int (nI (c ((WW - 1) - k) I)))], [.int (r72 ((nI (c I k)).toNatClampNeg))], mz_set (mz_set b 72 r72) 73 r73)) rfl (show mz_in (nI (c I k)) 10 = true from sm_inN rfl (show (c I k) < 10 by omega) (by decide)) ?_
              rw [show (nI (c I k) : Int32).toNatClampNeg = (c I k) from sm_clN rfl (show (c I k) < 2 ^ 31 by omega)]
              refine mz_go 1 (c' := (if (r72 (c I k)) < 0 then 183 else 171, [some (.ref 65), some (.int 1), some (.int a0), some (.int (nI I)), some (.int (nI k)), some (.int (((nI WW) - 1) - (nI k))), some (.int (nI I)), some (.int (nI (c I k))), some (.int (nI (c ((WW - 1) - k) I)))], [], mz_set (mz_set b 72 r72) 73 r73)) rfl ?_
              refine mz_ifF q2 ?_
              refine mz_go 3 (c' := (177, [some (.ref 65), some (.int 1), some (.int a0), some (.int (nI I)), some (.int (nI k)), some (.int (((nI WW) - 1) - (nI k))), some (.int (nI I)), some (.int (nI (c I k))), some (.int (nI (c ((WW - 1) - k) I)))], [.int (nI (c I k)), .ref 72], mz_set (mz_set b 72 r72) 73 r73)) rfl ?_
              refine mz_arr (c' := (178, [some (.ref 65), some (.int 1), some (.int a0), some (.int (nI I)), some (.int (nI k)), some (.int (((nI WW) - 1) - (nI k))), some (.int (nI I)), some (.int (nI (c I k))), some (.int (nI (c ((WW - 1) - k) I)))], [.int (r72 ((nI (c I k)).toNatClampNeg))], mz_set (mz_set b 72 r72) 73 r73)) rfl (show mz_in (nI (c I k)) 10 = true from sm_inN rfl (show (c I k) < 10 by omega) (by decide)) ?_
              rw [show (nI (c I k) : Int32).toNatClampNeg = (c I k) from sm_clN rfl (show (c I k) < 2 ^ 31 by omega)]
              refine mz_go 2 (c' := (if (r72 (c I k)) = (nI (c ((WW - 1) - k) I)) then 183 else 209, [some (.ref 65), some (.int 1), some (.int a0), some (.int (nI I)), some (.int (nI k)), some (.int (((nI WW) - 1) - (nI k))), some (.int (nI I)), some (.int (nI (c I k))), some (.int (nI (c ((WW - 1) - k) I)))], [], mz_set (mz_set b 72 r72) 73 r73)) rfl ?_
              refine mz_ifT q5 ?_
              refine mz_go 3 (c' := (189, [some (.ref 65), some (.int 1), some (.int a0), some (.int (nI I)), some (.int (nI k)), some (.int (((nI WW) - 1) - (nI k))), some (.int (nI I)), some (.int (nI (c I k))), some (.int (nI (c ((WW - 1) - k) I)))], [.int (nI (c ((WW - 1) - k) I)), .ref 73], mz_set (mz_set b 72 r72) 73 r73)) rfl ?_
              refine mz_arr (c' := (190, [some (.ref 65), some (.int 1), some (.int a0), some (.int (nI I)), some (.int (nI k)), some (.int (((nI WW) - 1) - (nI k))), some (.int (nI I)), some (.int (nI (c I k))), some (.int (nI (c ((WW - 1) - k) I)))], [.int (r73 ((nI (c ((WW - 1) - k) I)).toNatClampNeg))], mz_set (mz_set b 72 r72) 73 r73)) rfl (show mz_in (nI (c ((WW - 1) - k) I)) 10 = true from sm_inN rfl (show (c ((WW - 1) - k) I) < 10 by omega) (by decide)) ?_
              rw [show (nI (c ((WW - 1) - k) I) : Int32).toNatClampNeg = (c ((WW - 1) - k) I) from sm_clN rfl (show (c ((WW - 1) - k) I) < 2 ^ 31 by omega)]
              refine mz_go 1 (c' := (if (r73 (c ((WW - 1) - k) I)) < 0 then 205 else 193, [some (.ref 65), some (.int 1), some (.int a0), some (.int (nI I)), some (.int (nI k)), some (.int (((nI WW) - 1) - (nI k))), some (.int (nI I)), some (.int (nI (c I k))), some (.int (nI (c ((WW - 1) - k) I)))], [], mz_set (mz_set b 72 r72) 73 r73)) rfl ?_
              refine mz_ifF q6 ?_
              refine mz_go 3 (c' := (199, [some (.ref 65), some (.int 1), some (.int a0), some (.int (nI I)), some (.int (nI k)), some (.int (((nI WW) - 1) - (nI k))), some (.int (nI I)), some (.int (nI (c I k))), some (.int (nI (c ((WW - 1) - k) I)))], [.int (nI (c ((WW - 1) - k) I)), .ref 73], mz_set (mz_set b 72 r72) 73 r73)) rfl ?_
              refine mz_arr (c' := (200, [some (.ref 65), some (.int 1), some (.int a0), some (.int (nI I)), some (.int (nI k)), some (.int (((nI WW) - 1) - (nI k))), some (.int (nI I)), some (.int (nI (c I k))), some (.int (nI (c ((WW - 1) - k) I)))], [.int (r73 ((nI (c ((WW - 1) - k) I)).toNatClampNeg))], mz_set (mz_set b 72 r72) 73 r73)) rfl (show mz_in (nI (c ((WW - 1) - k) I)) 10 = true from sm_inN rfl (show (c ((WW - 1) - k) I) < 10 by omega) (by decide)) ?_
              rw [show (nI (c ((WW - 1) - k) I) : Int32).toNatClampNeg = (c ((WW - 1) - k) I) from sm_clN rfl (show (c ((WW - 1) - k) I) < 2 ^ 31 by omega)]
              refine mz_go 2 (c' := (if (r73 (c ((WW - 1) - k) I)) = (nI (c I k)) then 205 else 209, [some (.ref 65), some (.int 1), some (.int a0), some (.int (nI I)), some (.int (nI k)), some (.int (((nI WW) - 1) - (nI k))), some (.int (nI I)), some (.int (nI (c I k))), some (.int (nI (c ((WW - 1) - k) I)))], [], mz_set (mz_set b 72 r72) 73 r73)) rfl ?_
              refine mz_ifF q7 ?_
              refine mz_go 6 (c' := (219, [some (.ref 65), some (.int 1), some (.int 0), some (.int (nI I)), some (.int (nI k)), some (.int (((nI WW) - 1) - (nI k))), some (.int (nI I)), some (.int (nI (c I k))), some (.int (nI (c ((WW - 1) - k) I)))], [.int (nI (c ((WW - 1) - k) I)), .int (nI (c I k)), .ref 72], mz_set (mz_set b 72 r72) 73 r73)) rfl ?_
              refine mz_arr (c' := (220, [some (.ref 65), some (.int 1), some (.int 0), some (.int (nI I)), some (.int (nI k)), some (.int (((nI WW) - 1) - (nI k))), some (.int (nI I)), some (.int (nI (c I k))), some (.int (nI (c ((WW - 1) - k) I)))], [], mz_up (mz_set (mz_set b 72 r72) 73 r73) 72 ((nI (c I k)).toNatClampNeg) (nI (c ((WW - 1) - k) I)))) rfl (show mz_in (nI (c I k)) 10 = true from sm_inN rfl (show (c I k) < 10 by omega) (by decide)) ?_
              rw [show (nI (c I k) : Int32).toNatClampNeg = (c I k) from sm_clN rfl (show (c I k) < 2 ^ 31 by omega)]
              refine mz_go 4 (c' := (228, [some (.ref 65), some (.int 1), some (.int 0), some (.int (nI I)), some (.int (nI k)), some (.int (((nI WW) - 1) - (nI k))), some (.int (nI I)), some (.int (nI (c I k))), some (.int (nI (c ((WW - 1) - k) I)))], [.int (nI (c I k)), .int (nI (c ((WW - 1) - k) I)), .ref 73], mz_up (mz_set (mz_set b 72 r72) 73 r73) 72 (c I k) (nI (c ((WW - 1) - k) I)))) rfl ?_
              refine mz_arr (c' := (229, [some (.ref 65), some (.int 1), some (.int 0), some (.int (nI I)), some (.int (nI k)), some (.int (((nI WW) - 1) - (nI k))), some (.int (nI I)), some (.int (nI (c I k))), some (.int (nI (c ((WW - 1) - k) I)))], [], mz_up (mz_up (mz_set (mz_set b 72 r72) 73 r73) 72 (c I k) (nI (c ((WW - 1) - k) I))) 73 ((nI (c ((WW - 1) - k) I)).toNatClampNeg) (nI (c I k)))) rfl (show mz_in (nI (c ((WW - 1) - k) I)) 10 = true from sm_inN rfl (show (c ((WW - 1) - k) I) < 10 by omega) (by decide)) ?_
              rw [show (nI (c ((WW - 1) - k) I) : Int32).toNatClampNeg = (c ((WW - 1) - k) I) from sm_clN rfl (show (c ((WW - 1) - k) I) < 2 ^ 31 by omega)]
              refine mz_go 2 (c' := (88, [some (.ref 65), some (.int 1), some (.int 0), some (.int (nI I)), some (.int ((nI k) + 1)), some (.int (((nI WW) - 1) - (nI k))), some (.int (nI I)), some (.int (nI (c I k))), some (.int (nI (c ((WW - 1) - k) I)))], [], mz_up (mz_up (mz_set (mz_set b 72 r72) 73 r73) 72 (c I k) (nI (c ((WW - 1) - k) I))) 73 (c ((WW - 1) - k) I) (nI (c I k)))) rfl ?_
              exact hr
        · have hm : mz_up (mz_up (mz_set (mz_set b 72 r72) 73 r73) 72 (c I k) (nI (c ((WW - 1) - k) I))) 73 (c ((WW - 1) - k) I) (nI (c I k)) = mz_set (mz_set b 72 ((mz_up (mz_up (mz_set (mz_set b 72 r72) 73 r73) 72 (c I k) (nI (c ((WW - 1) - k) I))) 73 (c ((WW - 1) - k) I) (nI (c I k))) 72)) 73 ((mz_up (mz_up (mz_set (mz_set b 72 r72) 73 r73) 72 (c I k) (nI (c ((WW - 1) - k) I))) 73 (c ((WW - 1) - k) I) (nI (c I k))) 73) := sm_of2 (fun i h1 h2 => by simp only [mz_set_ne h1, mz_set_ne h2, mz_up_ne h1, mz_up_ne h2])
          obtain ⟨b0, p0, p1, p2, p3, s72, s73, hin2, Er⟩ := ih (k + 1) (by omega) 0 (some (.int (((nI WW) - 1) - (nI k)))) (some (.int (nI I))) (some (.int (nI (c I k)))) (some (.int (nI (c ((WW - 1) - k) I)))) ((mz_up (mz_up (mz_set (mz_set b 72 r72) 73 r73) 72 (c I k) (nI (c ((WW - 1) - k) I))) 73 (c ((WW - 1) - k) I) (nI (c I k))) 72) ((mz_up (mz_up (mz_set (mz_set b 72 r72) 73 r73) 72 (c I k) (nI (c ((WW - 1) - k) I))) 73 (c ((WW - 1) - k) I) (nI (c I k))) 73) (vq_tuB h9 hI (by omega) hin q1 q2 q5)
          refine ⟨b0, p0, p1, p2, p3, s72, s73, hin2, fun r hr0 => ?_⟩
          have hr := Er r hr0
          rw [nI_succ k, ← hm] at hr
          refine mz_go 2 (c' := (91, [some (.ref 65), some (.int 1), some (.int a0), some (.int (nI I)), some (.int (nI k)), o0, o1, o2, o3], [.ref 65, .int (nI k)], mz_set (mz_set b 72 r72) 73 r73)) rfl ?_
          refine mz_doQ (R := mz_r183) (as := [.ref 65]) (rest := [.int (nI k)]) (r1 := some (.int (nI WW))) (m1 := mz_set (mz_set b 72 r72) 73 r73) mz_t183 mz_v183_65 rfl rfl rfl rfl rfl ⟨?_, rfl⟩ ?_
          · refine mz_go 4 (c' := (7, [some (.ref 65)], [.int (b 66 60)], mz_set (mz_set b 72 r72) 73 r73)) rfl ?_
            rw [h6660]
            exact mz_ret rfl
          refine mz_go 1 (c' := (if (nI WW) ≤ (nI k) then 235 else 97, [some (.ref 65), some (.int 1), some (.int a0), some (.int (nI I)), some (.int (nI k)), o0, o1, o2, o3], [], mz_set (mz_set b 72 r72) 73 r73)) rfl ?_
          refine mz_ifF (show ¬ ((nI WW) ≤ (nI k)) from (sm_nleN rfl rfl (show k < WW by omega) (show WW < 2 ^ 31 by omega))) ?_
          refine mz_go 12 (c' := (118, [some (.ref 65), some (.int 1), some (.int a0), some (.int (nI I)), some (.int (nI k)), some (.int (nI I)), some (.int (nI k)), some (.int 0), some (.int (nI I))], [.ref 65], mz_set (mz_set b 72 r72) 73 r73)) rfl ?_
          refine mz_doQ (R := mz_r183) (as := [.ref 65]) (rest := []) (r1 := some (.int (nI WW))) (m1 := mz_set (mz_set b 72 r72) 73 r73) mz_t183 mz_v183_65 rfl rfl rfl rfl rfl ⟨?_, rfl⟩ ?_
          · refine mz_go 4 (c' := (7, [some (.ref 65)], [.int (b 66 60)], mz_set (mz_set b 72 r72) 73 r73)) rfl ?_
            rw [h6660]
            exact mz_ret rfl
          refine mz_go 15 (c' := (142, [some (.ref 65), some (.int 1), some (.int a0), some (.int (nI I)), some (.int (nI k)), some (.int (((nI WW) - 1) - (nI k))), some (.int (nI I)), some (.int 1), some (.int (nI I))], [.int (nI k), .int (nI I), .ref 65], mz_set (mz_set b 72 r72) 73 r73)) rfl ?_
          refine mz_doQ (R := mz_r186) (as := [.ref 65, .int (nI I), .int (nI k)]) (rest := []) (r1 := some (.int (nI (c I k)))) (m1 := mz_set (mz_set b 72 r72) 73 r73) mz_t186 mz_v186_65 rfl rfl rfl rfl rfl (Ez1.deep (by decide)) ?_
          refine mz_go 4 (c' := (152, [some (.ref 65), some (.int 1), some (.int a0), some (.int (nI I)), some (.int (nI k)), some (.int (((nI WW) - 1) - (nI k))), some (.int (nI I)), some (.int (nI (c I k))), some (.int (nI I))], [.int (nI I), .int (((nI WW) - 1) - (nI k)), .ref 65], mz_set (mz_set b 72 r72) 73 r73)) rfl ?_
          refine mz_doQ (R := mz_r186) (as := [.ref 65, .int (((nI WW) - 1) - (nI k)), .int (nI I)]) (rest := []) (r1 := some (.int (nI (c ((WW - 1) - k) I)))) (m1 := mz_set (mz_set b 72 r72) 73 r73) mz_t186 mz_v186_65 rfl rfl rfl rfl rfl (Ez2.deep (by decide)) ?_
          refine mz_go 3 (c' := (if a0 = 0 then 209 else 161, [some (.ref 65), some (.int 1), some (.int a0), some (.int (nI I)), some (.int (nI k)), some (.int (((nI WW) - 1) - (nI k))), some (.int (nI I)), some (.int (nI (c I k))), some (.int (nI (c ((WW - 1) - k) I)))], [], mz_set (mz_set b 72 r72) 73 r73)) rfl ?_
          refine mz_ifF q1 ?_
          refine mz_go 3 (c' := (167, [some (.ref 65), some (.int 1), some (.int a0), some (.int (nI I)), some (.int (nI k)), some (.int (((nI WW) - 1) - (nI k))), some (.int (nI I)), some (.int (nI (c I k))), some (.int (nI (c ((WW - 1) - k) I)))], [.int (nI (c I k)), .ref 72], mz_set (mz_set b 72 r72) 73 r73)) rfl ?_
          refine mz_arr (c' := (168, [some (.ref 65), some (.int 1), some (.int a0), some (.int (nI I)), some (.int (nI k)), some (.int (((nI WW) - 1) - (nI k))), some (.int (nI I)), some (.int (nI (c I k))), some (.int (nI (c ((WW - 1) - k) I)))], [.int (r72 ((nI (c I k)).toNatClampNeg))], mz_set (mz_set b 72 r72) 73 r73)) rfl (show mz_in (nI (c I k)) 10 = true from sm_inN rfl (show (c I k) < 10 by omega) (by decide)) ?_
          rw [show (nI (c I k) : Int32).toNatClampNeg = (c I k) from sm_clN rfl (show (c I k) < 2 ^ 31 by omega)]
          refine mz_go 1 (c' := (if (r72 (c I k)) < 0 then 183 else 171, [some (.ref 65), some (.int 1), some (.int a0), some (.int (nI I)), some (.int (nI k)), some (.int (((nI WW) - 1) - (nI k))), some (.int (nI I)), some (.int (nI (c I k))), some (.int (nI (c ((WW - 1) - k) I)))], [], mz_set (mz_set b 72 r72) 73 r73)) rfl ?_
          refine mz_ifF q2 ?_
          refine mz_go 3 (c' := (177, [some (.ref 65), some (.int 1), some (.int a0), some (.int (nI I)), some (.int (nI k)), some (.int (((nI WW) - 1) - (nI k))), some (.int (nI I)), some (.int (nI (c I k))), some (.int (nI (c ((WW - 1) - k) I)))], [.int (nI (c I k)), .ref 72], mz_set (mz_set b 72 r72) 73 r73)) rfl ?_
          refine mz_arr (c' := (178, [some (.ref 65), some (.int 1), some (.int a0), some (.int (nI I)), some (.int (nI k)), some (.int (((nI WW) - 1) - (nI k))), some (.int (nI I)), some (.int (nI (c I k))), some (.int (nI (c ((WW - 1) - k) I)))], [.int (r72 ((nI (c I k)).toNatClampNeg))], mz_set (mz_set b 72 r72) 73 r73)) rfl (show mz_in (nI (c I k)) 10 = true from sm_inN rfl (show (c I k) < 10 by omega) (by decide)) ?_
          rw [show (nI (c I k) : Int32).toNatClampNeg = (c I k) from sm_clN rfl (show (c I k) < 2 ^ 31 by omega)]
          refine mz_go 2 (c' := (if (r72 (c I k)) = (nI (c ((WW - 1) - k) I)) then 183 else 209, [some (.ref 65), some (.int 1), some (.int a0), some (.int (nI I)), some (.int (nI k)), some (.int (((nI WW) - 1) - (nI k))), some (.int (nI I)), some (.int (nI (c I k))), some (.int (nI (c ((WW - 1) - k) I)))], [], mz_set (mz_set b 72 r72) 73 r73)) rfl ?_
          refine mz_ifF q5 ?_
          refine mz_go 6 (c' := (219, [some (.ref 65), some (.int 1), some (.int 0), some (.int (nI I)), some (.int (nI k)), some (.int (((nI WW) - 1) - (nI k))), some (.int (nI I)), some (.int (nI (c I k))), some (.int (nI (c ((WW - 1) - k) I)))], [.int (nI (c ((WW - 1) - k) I)), .int (nI (c I k)), .ref 72], mz_set (mz_set b 72 r72) 73 r73)) rfl ?_
          refine mz_arr (c' := (220, [some (.ref 65), some (.int 1), some (.int 0), some (.int (nI I)), some (.int (nI k)), some (.int (((nI WW) - 1) - (nI k))), some (.int (nI I)), some (.int (nI (c I k))), some (.int (nI (c ((WW - 1) - k) I)))], [], mz_up (mz_set (mz_set b 72 r72) 73 r73) 72 ((nI (c I k)).toNatClampNeg) (nI (c ((WW - 1) - k) I)))) rfl (show mz_in (nI (c I k)) 10 = true from sm_inN rfl (show (c I k) < 10 by omega) (by decide)) ?_
          rw [show (nI (c I k) : Int32).toNatClampNeg = (c I k) from sm_clN rfl (show (c I k) < 2 ^ 31 by omega)]
          refine mz_go 4 (c' := (228, [some (.ref 65), some (.int 1), some (.int 0), some (.int (nI I)), some (.int (nI k)), some (.int (((nI WW) - 1) - (nI k))), some (.int (nI I)), some (.int (nI (c I k))), some (.int (nI (c ((WW - 1) - k) I)))], [.int (nI (c I k)), .int (nI (c ((WW - 1) - k) I)), .ref 73], mz_up (mz_set (mz_set b 72 r72) 73 r73) 72 (c I k) (nI (c ((WW - 1) - k) I)))) rfl ?_
          refine mz_arr (c' := (229, [some (.ref 65), some (.int 1), some (.int 0), some (.int (nI I)), some (.int (nI k)), some (.int (((nI WW) - 1) - (nI k))), some (.int (nI I)), some (.int (nI (c I k))), some (.int (nI (c ((WW - 1) - k) I)))], [], mz_up (mz_up (mz_set (mz_set b 72 r72) 73 r73) 72 (c I k) (nI (c ((WW - 1) - k) I))) 73 ((nI (c ((WW - 1) - k) I)).toNatClampNeg) (nI (c I k)))) rfl (show mz_in (nI (c ((WW - 1) - k) I)) 10 = true from sm_inN rfl (show (c ((WW - 1) - k) I) < 10 by omega) (by decide)) ?_
          rw [show (nI (c ((WW - 1) - k) I) : Int32).toNatClampNeg = (c ((WW - 1) - k) I) from sm_clN rfl (show (c ((WW - 1) - k) I) < 2 ^ 31 by omega)]
          refine mz_go 2 (c' := (88, [some (.ref 65), some (.int 1), some (.int 0), some (.int (nI I)), some (.int ((nI k) + 1)), some (.int (((nI WW) - 1) - (nI k))), some (.int (nI I)), some (.int (nI (c I k))), some (.int (nI (c ((WW - 1) - k) I)))], [], mz_up (mz_up (mz_set (mz_set b 72 r72) 73 r73) 72 (c I k) (nI (c ((WW - 1) - k) I))) 73 (c ((WW - 1) - k) I) (nI (c I k)))) rfl ?_
          exact hr
set_option maxHeartbeats 4000000 in
set_option maxRecDepth 100000 in
theorem vr_tui1 {w b : mz_M} {WW : Nat} (hWW : WW ≤ 6) (h1W : 1 ≤ WW) (h6660 : b 66 60 = nI WW) (hbc : ∀ i, i < 36 → b 66 (70 + i) = w 21 i) {c : Nat → Nat → Nat} (hcn : ∀ i j, i < WW → j < WW → w 21 ((j * 6) + i) = nI (c i j)) (h9 : ∀ i j, i < WW → j < WW → c i j ≤ 9) : ∀ j k : Nat, k + j = WW → ∀ (a0 : Int32) (o0 o1 o2 o3 o4 : Option Value) (r72 r73 : Nat → Int32), vq_tI c 1 WW (k * WW) a0 r72 r73 → ∃ (b0 : Int32), ∃ (p0 : Option Value), ∃ (p1 : Option Value), ∃ (p2 : Option Value), ∃ (p3 : Option Value), ∃ (p4 : Option Value), ∃ (s72 : Nat → Int32), ∃ (s73 : Nat → Int32), vq_tI c 1 WW (WW * WW) b0 s72 s73 ∧ ∀ r, mz_Ex 100 mz_k201 (241, [some (.ref 65), some (.int 1), some (.int b0), some (.int (nI WW)), p0, p1, p2, p3, p4], [], mz_set (mz_set b 72 s72) 73 s73) r → mz_Ex 100 mz_k201 (77, [some (.ref 65), some (.int 1), some (.int a0), some (.int (nI k)), o0, o1, o2, o3, o4], [], mz_set (mz_set b 72 r72) 73 r73) r := by
  intro j
  induction j with
  | zero =>
    intro k hk a0 o0 o1 o2 o3 o4 r72 r73 hin
    rw [show k = WW by omega] at hin ⊢
    exact ⟨a0, o0, o1, o2, o3, o4, r72, r73, hin, fun r hr => by
      refine mz_go 2 (c' := (79, [some (.ref 65), some (.int 1), some (.int a0), some (.int (nI WW)), o0, o1, o2, o3, o4], [.ref 65, .int (nI WW)], mz_set (mz_set b 72 r72) 73 r73)) rfl ?_
      refine mz_doQ (R := mz_r183) (as := [.ref 65]) (rest := [.int (nI WW)]) (r1 := some (.int (nI WW))) (m1 := mz_set (mz_set b 72 r72) 73 r73) mz_t183 mz_v183_65 rfl rfl rfl rfl rfl ⟨?_, rfl⟩ ?_
      · refine mz_go 4 (c' := (7, [some (.ref 65)], [.int (b 66 60)], mz_set (mz_set b 72 r72) 73 r73)) rfl ?_
        rw [h6660]
        exact mz_ret rfl
      refine mz_go 1 (c' := (if (nI WW) ≤ (nI WW) then 241 else 85, [some (.ref 65), some (.int 1), some (.int a0), some (.int (nI WW)), o0, o1, o2, o3, o4], [], mz_set (mz_set b 72 r72) 73 r73)) rfl ?_
      refine mz_ifT (show ((nI WW) ≤ (nI WW)) from (sm_leN rfl rfl (show WW ≤ WW by omega) (show WW < 2 ^ 31 by omega))) ?_
      exact hr⟩
  | succ j ih =>
    intro k hk a0 o0 o1 o2 o3 o4 r72 r73 hin
    obtain ⟨by1, p5y1, p6y1, p7y1, p8y1, s72y1, s73y1, hiny1, Ey1⟩ := vr_tuj1 hWW h1W h6660 hbc hcn h9 (I := k) (by omega) WW 0 (by omega) a0 o1 o2 o3 o4 r72 r73 hin
    obtain ⟨b0, p0, p1, p2, p3, p4, s72, s73, hin2, Er⟩ := ih (k + 1) (by omega) by1 (some (.int (nI WW))) p5y1 p6y1 p7y1 p8y1 s72y1 s73y1 (by rw [Nat.succ_mul]; exact hiny1)
    refine ⟨b0, p0, p1, p2, p3, p4, s72, s73, hin2, fun r hr0 => ?_⟩
    have hr := Er r hr0
    rw [nI_succ k] at hr
    refine mz_go 2 (c' := (79, [some (.ref 65), some (.int 1), some (.int a0), some (.int (nI k)), o0, o1, o2, o3, o4], [.ref 65, .int (nI k)], mz_set (mz_set b 72 r72) 73 r73)) rfl ?_
    refine mz_doQ (R := mz_r183) (as := [.ref 65]) (rest := [.int (nI k)]) (r1 := some (.int (nI WW))) (m1 := mz_set (mz_set b 72 r72) 73 r73) mz_t183 mz_v183_65 rfl rfl rfl rfl rfl ⟨?_, rfl⟩ ?_
    · refine mz_go 4 (c' := (7, [some (.ref 65)], [.int (b 66 60)], mz_set (mz_set b 72 r72) 73 r73)) rfl ?_
      rw [h6660]
      exact mz_ret rfl
    refine mz_go 1 (c' := (if (nI WW) ≤ (nI k) then 241 else 85, [some (.ref 65), some (.int 1), some (.int a0), some (.int (nI k)), o0, o1, o2, o3, o4], [], mz_set (mz_set b 72 r72) 73 r73)) rfl ?_
    refine mz_ifF (show ¬ ((nI WW) ≤ (nI k)) from (sm_nleN rfl rfl (show k < WW by omega) (show WW < 2 ^ 31 by omega))) ?_
    refine mz_go 2 (c' := (88, [some (.ref 65), some (.int 1), some (.int a0), some (.int (nI k)), some (.int 0), o1, o2, o3, o4], [], mz_set (mz_set b 72 r72) 73 r73)) rfl ?_
    refine Ey1 _ ?_
    refine mz_go 2 (c' := (77, [some (.ref 65), some (.int 1), some (.int by1), some (.int ((nI k) + 1)), some (.int (nI WW)), p5y1, p6y1, p7y1, p8y1], [], mz_set (mz_set b 72 s72y1) 73 s73y1)) rfl ?_
    exact hr
set_option maxHeartbeats 4000000 in
set_option maxRecDepth 100000 in
theorem vr_tuj2 {w b : mz_M} {WW : Nat} (hWW : WW ≤ 6) (h1W : 1 ≤ WW) (h6660 : b 66 60 = nI WW) (hbc : ∀ i, i < 36 → b 66 (70 + i) = w 21 i) {c : Nat → Nat → Nat} (hcn : ∀ i j, i < WW → j < WW → w 21 ((j * 6) + i) = nI (c i j)) (h9 : ∀ i j, i < WW → j < WW → c i j ≤ 9) {I : Nat} (hI : I < WW) : ∀ j k : Nat, k + j = WW → ∀ (a0 : Int32) (o0 o1 o2 o3 : Option Value) (r72 r73 : Nat → Int32), vq_tI c 2 WW (I * WW + k) a0 r72 r73 → ∃ (b0 : Int32), ∃ (p0 : Option Value), ∃ (p1 : Option Value), ∃ (p2 : Option Value), ∃ (p3 : Option Value), ∃ (s72 : Nat → Int32), ∃ (s73 : Nat → Int32), vq_tI c 2 WW (I * WW + WW) b0 s72 s73 ∧ ∀ r, mz_Ex 100 mz_k201 (235, [some (.ref 65), some (.int 2), some (.int b0), some (.int (nI I)), some (.int (nI WW)), p0, p1, p2, p3], [], mz_set (mz_set b 72 s72) 73 s73) r → mz_Ex 100 mz_k201 (88, [some (.ref 65), some (.int 2), some (.int a0), some (.int (nI I)), some (.int (nI k)), o0, o1, o2, o3], [], mz_set (mz_set b 72 r72) 73 r73) r := by
  intro j
  induction j with
  | zero =>
    intro k hk a0 o0 o1 o2 o3 r72 r73 hin
    rw [show k = WW by omega] at hin ⊢
    exact ⟨a0, o0, o1, o2, o3, r72, r73, hin, fun r hr => by
      refine mz_go 2 (c' := (91, [some (.ref 65), some (.int 2), some (.int a0), some (.int (nI I)), some (.int (nI WW)), o0, o1, o2, o3], [.ref 65, .int (nI WW)], mz_set (mz_set b 72 r72) 73 r73)) rfl ?_
      refine mz_doQ (R := mz_r183) (as := [.ref 65]) (rest := [.int (nI WW)]) (r1 := some (.int (nI WW))) (m1 := mz_set (mz_set b 72 r72) 73 r73) mz_t183 mz_v183_65 rfl rfl rfl rfl rfl ⟨?_, rfl⟩ ?_
      · refine mz_go 4 (c' := (7, [some (.ref 65)], [.int (b 66 60)], mz_set (mz_set b 72 r72) 73 r73)) rfl ?_
        rw [h6660]
        exact mz_ret rfl
      refine mz_go 1 (c' := (if (nI WW) ≤ (nI WW) then 235 else 97, [some (.ref 65), some (.int 2), some (.int a0), some (.int (nI I)), some (.int (nI WW)), o0, o1, o2, o3], [], mz_set (mz_set b 72 r72) 73 r73)) rfl ?_
      refine mz_ifT (show ((nI WW) ≤ (nI WW)) from (sm_leN rfl rfl (show WW ≤ WW by omega) (show WW < 2 ^ 31 by omega))) ?_
      exact hr⟩
  | succ j ih =>
    intro k hk a0 o0 o1 o2 o3 r72 r73 hin
    have h9z1 : c I k ≤ 9 := h9 _ _ (by omega) (by omega)
    have Ez1 := vr_colw (w := w) (m := mz_set (mz_set b 72 r72) 73 r73) hbc (A := I) (B := k) (by omega) (by omega) (a := nI I) (b := nI k) rfl rfl
    rw [hcn I k (by omega) (by omega)] at Ez1
    have h9z2 : c ((WW - 1) - I) ((WW - 1) - k) ≤ 9 := h9 _ _ (by omega) (by omega)
    have Ez2 := vr_colw (w := w) (m := mz_set (mz_set b 72 r72) 73 r73) hbc (A := ((WW - 1) - I)) (B := ((WW - 1) - k)) (by omega) (by omega) (a := ((nI WW) - 1) - (nI I)) (b := ((nI WW) - 1) - (nI k)) (sm_subN (a := (WW - 1)) (b := I) (sm_subN (a := WW) (b := 1) rfl rfl (by omega)) rfl (by omega)) (sm_subN (a := (WW - 1)) (b := k) (sm_subN (a := WW) (b := 1) rfl rfl (by omega)) rfl (by omega))
    rw [hcn ((WW - 1) - I) ((WW - 1) - k) (by omega) (by omega)] at Ez2
    by_cases q1 : a0 = 0
    · have hm : mz_up (mz_up (mz_set (mz_set b 72 r72) 73 r73) 72 (c I k) (nI (c ((WW - 1) - I) ((WW - 1) - k)))) 73 (c ((WW - 1) - I) ((WW - 1) - k)) (nI (c I k)) = mz_set (mz_set b 72 ((mz_up (mz_up (mz_set (mz_set b 72 r72) 73 r73) 72 (c I k) (nI (c ((WW - 1) - I) ((WW - 1) - k)))) 73 (c ((WW - 1) - I) ((WW - 1) - k)) (nI (c I k))) 72)) 73 ((mz_up (mz_up (mz_set (mz_set b 72 r72) 73 r73) 72 (c I k) (nI (c ((WW - 1) - I) ((WW - 1) - k)))) 73 (c ((WW - 1) - I) ((WW - 1) - k)) (nI (c I k))) 73) := sm_of2 (fun i h1 h2 => by simp only [mz_set_ne h1, mz_set_ne h2, mz_up_ne h1, mz_up_ne h2])
      obtain ⟨b0, p0, p1, p2, p3, s72, s73, hin2, Er⟩ := ih (k + 1) (by omega) 0 (some (.int (((nI WW) - 1) - (nI I)))) (some (.int (((nI WW) - 1) - (nI k)))) (some (.int (nI (c I k)))) (some (.int (nI (c ((WW - 1) - I) ((WW - 1) - k))))) ((mz_up (mz_up (mz_set (mz_set b 72 r72) 73 r73) 72 (c I k) (nI (c ((WW - 1) - I) ((WW - 1) - k)))) 73 (c ((WW - 1) - I) ((WW - 1) - k)) (nI (c I k))) 72) ((mz_up (mz_up (mz_set (mz_set b 72 r72) 73 r73) 72 (c I k) (nI (c ((WW - 1) - I) ((WW - 1) - k)))) 73 (c ((WW - 1) - I) ((WW - 1) - k)) (nI (c I k))) 73) (vq_tuA hin q1)
      refine ⟨b0, p0, p1, p2, p3, s72, s73, hin2, fun r hr0 => ?_⟩
      have hr := Er r hr0
      rw [nI_succ k, ← hm] at hr
      refine mz_go 2 (c' := (91, [some (.ref 65), some (.int 2), some (.int a0), some (.int (nI I)), some (.int (nI k)), o0, o1, o2, o3], [.ref 65, .int (nI k)], mz_set (mz_set b 72 r72) 73 r73)) rfl ?_
      refine mz_doQ (R := mz_r183) (as := [.ref 65]) (rest := [.int (nI k)]) (r1 := some (.int (nI WW))) (m1 := mz_set (mz_set b 72 r72) 73 r73) mz_t183 mz_v183_65 rfl rfl rfl rfl rfl ⟨?_, rfl⟩ ?_
      · refine mz_go 4 (c' := (7, [some (.ref 65)], [.int (b 66 60)], mz_set (mz_set b 72 r72) 73 r73)) rfl ?_
        rw [h6660]
        exact mz_ret rfl
      refine mz_go 1 (c' := (if (nI WW) ≤ (nI k) then 235 else 97, [some (.ref 65), some (.int 2), some (.int a0), some (.int (nI I)), some (.int (nI k)), o0, o1, o2, o3], [], mz_set (mz_set b 72 r72) 73 r73)) rfl ?_
      refine mz_ifF (show ¬ ((nI WW) ≤ (nI k)) from (sm_nleN rfl rfl (show k < WW by omega) (show WW < 2 ^ 31 by omega))) ?_
      refine mz_go 12 (c' := (118, [some (.ref 65), some (.int 2), some (.int a0), some (.int (nI I)), some (.int (nI k)), some (.int (nI I)), some (.int (nI k)), some (.int 0), some (.int (nI I))], [.ref 65], mz_set (mz_set b 72 r72) 73 r73)) rfl ?_
      refine mz_doQ (R := mz_r183) (as := [.ref 65]) (rest := []) (r1 := some (.int (nI WW))) (m1 := mz_set (mz_set b 72 r72) 73 r73) mz_t183 mz_v183_65 rfl rfl rfl rfl rfl ⟨?_, rfl⟩ ?_
      · refine mz_go 4 (c' := (7, [some (.ref 65)], [.int (b 66 60)], mz_set (mz_set b 72 r72) 73 r73)) rfl ?_
        rw [h6660]
        exact mz_ret rfl
      refine mz_go 15 (c' := (118, [some (.ref 65), some (.int 2), some (.int a0), some (.int (nI I)), some (.int (nI k)), some (.int (((nI WW) - 1) - (nI k))), some (.int (nI I)), some (.int 1), some (.int (((nI WW) - 1) - (nI k)))], [.ref 65], mz_set (mz_set b 72 r72) 73 r73)) rfl ?_
      refine mz_doQ (R := mz_r183) (as := [.ref 65]) (rest := []) (r1 := some (.int (nI WW))) (m1 := mz_set (mz_set b 72 r72) 73 r73) mz_t183 mz_v183_65 rfl rfl rfl rfl rfl ⟨?_, rfl⟩ ?_
      · refine mz_go 4 (c' := (7, [some (.ref 65)], [.int (b 66 60)], mz_set (mz_set b 72 r72) 73 r73)) rfl ?_
        rw [h6660]
        exact mz_ret rfl
      refine mz_go 15 (c' := (142, [some (.ref 65), some (.int 2), some (.int a0), some (.int (nI I)), some (.int (nI k)), some (.int (((nI WW) - 1) - (nI I))), some (.int (((nI WW) - 1) - (nI k))), some (.int 2), some (.int (((nI WW) - 1) - (nI k)))], [.int (nI k), .int (nI I), .ref 65], mz_set (mz_set b 72 r72) 73 r73)) rfl ?_
      refine mz_doQ (R := mz_r186) (as := [.ref 65, .int (nI I), .int (nI k)]) (rest := []) (r1 := some (.int (nI (c I k)))) (m1 := mz_set (mz_set b 72 r72) 73 r73) mz_t186 mz_v186_65 rfl rfl rfl rfl rfl (Ez1.deep (by decide)) ?_
      refine mz_go 4 (c' := (152, [some (.ref 65), some (.int 2), some (.int a0), some (.int (nI I)), some (.int (nI k)), some (.int (((nI WW) - 1) - (nI I))), some (.int (((nI WW) - 1) - (nI k))), some (.int (nI (c I k))), some (.int (((nI WW) - 1) - (nI k)))], [.int (((nI WW) - 1) - (nI k)), .int (((nI WW) - 1) - (nI I)), .ref 65], mz_set (mz_set b 72 r72) 73 r73)) rfl ?_
      refine mz_doQ (R := mz_r186) (as := [.ref 65, .int (((nI WW) - 1) - (nI I)), .int (((nI WW) - 1) - (nI k))]) (rest := []) (r1 := some (.int (nI (c ((WW - 1) - I) ((WW - 1) - k))))) (m1 := mz_set (mz_set b 72 r72) 73 r73) mz_t186 mz_v186_65 rfl rfl rfl rfl rfl (Ez2.deep (by decide)) ?_
      refine mz_go 3 (c' := (if a0 = 0 then 209 else 161, [some (.ref 65), some (.int 2), some (.int a0), some (.int (nI I)), some (.int (nI k)), some (.int (((nI WW) - 1) - (nI I))), some (.int (((nI WW) - 1) - (nI k))), some (.int (nI (c I k))), some (.int (nI (c ((WW - 1) - I) ((WW - 1) - k))))], [], mz_set (mz_set b 72 r72) 73 r73)) rfl ?_
      refine mz_ifT q1 ?_
      refine mz_go 6 (c' := (219, [some (.ref 65), some (.int 2), some (.int 0), some (.int (nI I)), some (.int (nI k)), some (.int (((nI WW) - 1) - (nI I))), some (.int (((nI WW) - 1) - (nI k))), some (.int (nI (c I k))), some (.int (nI (c ((WW - 1) - I) ((WW - 1) - k))))], [.int (nI (c ((WW - 1) - I) ((WW - 1) - k))), .int (nI (c I k)), .ref 72], mz_set (mz_set b 72 r72) 73 r73)) rfl ?_
      refine mz_arr (c' := (220, [some (.ref 65), some (.int 2), some (.int 0), some (.int (nI I)), some (.int (nI k)), some (.int (((nI WW) - 1) - (nI I))), some (.int (((nI WW) - 1) - (nI k))), some (.int (nI (c I k))), some (.int (nI (c ((WW - 1) - I) ((WW - 1) - k))))], [], mz_up (mz_set (mz_set b 72 r72) 73 r73) 72 ((nI (c I k)).toNatClampNeg) (nI (c ((WW - 1) - I) ((WW - 1) - k))))) rfl (show mz_in (nI (c I k)) 10 = true from sm_inN rfl (show (c I k) < 10 by omega) (by decide)) ?_
      rw [show (nI (c I k) : Int32).toNatClampNeg = (c I k) from sm_clN rfl (show (c I k) < 2 ^ 31 by omega)]
      refine mz_go 4 (c' := (228, [some (.ref 65), some (.int 2), some (.int 0), some (.int (nI I)), some (.int (nI k)), some (.int (((nI WW) - 1) - (nI I))), some (.int (((nI WW) - 1) - (nI k))), some (.int (nI (c I k))), some (.int (nI (c ((WW - 1) - I) ((WW - 1) - k))))], [.int (nI (c I k)), .int (nI (c ((WW - 1) - I) ((WW - 1) - k))), .ref 73], mz_up (mz_set (mz_set b 72 r72) 73 r73) 72 (c I k) (nI (c ((WW - 1) - I) ((WW - 1) - k))))) rfl ?_
      refine mz_arr (c' := (229, [some (.ref 65), some (.int 2), some (.int 0), some (.int (nI I)), some (.int (nI k)), some (.int (((nI WW) - 1) - (nI I))), some (.int (((nI WW) - 1) - (nI k))), some (.int (nI (c I k))), some (.int (nI (c ((WW - 1) - I) ((WW - 1) - k))))], [], mz_up (mz_up (mz_set (mz_set b 72 r72) 73 r73) 72 (c I k) (nI (c ((WW - 1) - I) ((WW - 1) - k)))) 73 ((nI (c ((WW - 1) - I) ((WW - 1) - k))).toNatClampNeg) (nI (c I k)))) rfl (show mz_in (nI (c ((WW - 1) - I) ((WW - 1) - k))) 10 = true from sm_inN rfl (show (c ((WW - 1) - I) ((WW - 1) - k)) < 10 by omega) (by decide)) ?_
      rw [show (nI (c ((WW - 1) - I) ((WW - 1) - k)) : Int32).toNatClampNeg = (c ((WW - 1) - I) ((WW - 1) - k)) from sm_clN rfl (show (c ((WW - 1) - I) ((WW - 1) - k)) < 2 ^ 31 by omega)]
      refine mz_go 2 (c' := (88, [some (.ref 65), some (.int 2), some (.int 0), some (.int (nI I)), some (.int ((nI k) + 1)), some (.int (((nI WW) - 1) - (nI I))), some (.int (((nI WW) - 1) - (nI k))), some (.int (nI (c I k))), some (.int (nI (c ((WW - 1) - I) ((WW - 1) - k))))], [], mz_up (mz_up (mz_set (mz_set b 72 r72) 73 r73) 72 (c I k) (nI (c ((WW - 1) - I) ((WW - 1) - k)))) 73 (c ((WW - 1) - I) ((WW - 1) - k)) (nI (c I k)))) rfl ?_
      exact hr
    · by_cases q2 : (r72 (c I k)) < 0
      · by_cases q3 : (r73 (c ((WW - 1) - I) ((WW - 1) - k))) < 0
        · have hm : mz_up (mz_up (mz_set (mz_set b 72 r72) 73 r73) 72 (c I k) (nI (c ((WW - 1) - I) ((WW - 1) - k)))) 73 (c ((WW - 1) - I) ((WW - 1) - k)) (nI (c I k)) = mz_set (mz_set b 72 ((mz_up (mz_up (mz_set (mz_set b 72 r72) 73 r73) 72 (c I k) (nI (c ((WW - 1) - I) ((WW - 1) - k)))) 73 (c ((WW - 1) - I) ((WW - 1) - k)) (nI (c I k))) 72)) 73 ((mz_up (mz_up (mz_set (mz_set b 72 r72) 73 r73) 72 (c I k) (nI (c ((WW - 1) - I) ((WW - 1) - k)))) 73 (c ((WW - 1) - I) ((WW - 1) - k)) (nI (c I k))) 73) := sm_of2 (fun i h1 h2 => by simp only [mz_set_ne h1, mz_set_ne h2, mz_up_ne h1, mz_up_ne h2])
          obtain ⟨b0, p0, p1, p2, p3, s72, s73, hin2, Er⟩ := ih (k + 1) (by omega) 1 (some (.int (((nI WW) - 1) - (nI I)))) (some (.int (((nI WW) - 1) - (nI k)))) (some (.int (nI (c I k)))) (some (.int (nI (c ((WW - 1) - I) ((WW - 1) - k))))) ((mz_up (mz_up (mz_set (mz_set b 72 r72) 73 r73) 72 (c I k) (nI (c ((WW - 1) - I) ((WW - 1) - k)))) 73 (c ((WW - 1) - I) ((WW - 1) - k)) (nI (c I k))) 72) ((mz_up (mz_up (mz_set (mz_set b 72 r72) 73 r73) 72 (c I k) (nI (c ((WW - 1) - I) ((WW - 1) - k)))) 73 (c ((WW - 1) - I) ((WW - 1) - k)) (nI (c I k))) 73) (vq_tuD h9 hI (by omega) hin q1 (Or.inl q2) (Or.inl q3) (fun v => by rw [mz_up_ne (show (72 : Nat) ≠ 73 by decide), mz_up_eq, mz_set_ne (show (72 : Nat) ≠ 73 by decide), mz_set_eq]; rfl) (fun v => by rw [mz_up_eq, mz_up_ne (show (73 : Nat) ≠ 72 by decide), mz_set_eq]; rfl))
          refine ⟨b0, p0, p1, p2, p3, s72, s73, hin2, fun r hr0 => ?_⟩
          have hr := Er r hr0
          rw [nI_succ k, ← hm] at hr
          refine mz_go 2 (c' := (91, [some (.ref 65), some (.int 2), some (.int a0), some (.int (nI I)), some (.int (nI k)), o0, o1, o2, o3], [.ref 65, .int (nI k)], mz_set (mz_set b 72 r72) 73 r73)) rfl ?_
          refine mz_doQ (R := mz_r183) (as := [.ref 65]) (rest := [.int (nI k)]) (r1 := some (.int (nI WW))) (m1 := mz_set (mz_set b 72 r72) 73 r73) mz_t183 mz_v183_65 rfl rfl rfl rfl rfl ⟨?_, rfl⟩ ?_
          · refine mz_go 4 (c' := (7, [some (.ref 65)], [.int (b 66 60)], mz_set (mz_set b 72 r72) 73 r73)) rfl ?_
            rw [h6660]
            exact mz_ret rfl
          refine mz_go 1 (c' := (if (nI WW) ≤ (nI k) then 235 else 97, [some (.ref 65), some (.int 2), some (.int a0), some (.int (nI I)), some (.int (nI k)), o0, o1, o2, o3], [], mz_set (mz_set b 72 r72) 73 r73)) rfl ?_
          refine mz_ifF (show ¬ ((nI WW) ≤ (nI k)) from (sm_nleN rfl rfl (show k < WW by omega) (show WW < 2 ^ 31 by omega))) ?_
          refine mz_go 12 (c' := (118, [some (.ref 65), some (.int 2), some (.int a0), some (.int (nI I)), some (.int (nI k)), some (.int (nI I)), some (.int (nI k)), some (.int 0), some (.int (nI I))], [.ref 65], mz_set (mz_set b 72 r72) 73 r73)) rfl ?_
          refine mz_doQ (R := mz_r183) (as := [.ref 65]) (rest := []) (r1 := some (.int (nI WW))) (m1 := mz_set (mz_set b 72 r72) 73 r73) mz_t183 mz_v183_65 rfl rfl rfl rfl rfl ⟨?_, rfl⟩ ?_
          · refine mz_go 4 (c' := (7, [some (.ref 65)], [.int (b 66 60)], mz_set (mz_set b 72 r72) 73 r73)) rfl ?_
            rw [h6660]
            exact mz_ret rfl
          refine mz_go 15 (c' := (118, [some (.ref 65), some (.int 2), some (.int a0), some (.int (nI I)), some (.int (nI k)), some (.int (((nI WW) - 1) - (nI k))), some (.int (nI I)), some (.int 1), some (.int (((nI WW) - 1) - (nI k)))], [.ref 65], mz_set (mz_set b 72 r72) 73 r73)) rfl ?_
          refine mz_doQ (R := mz_r183) (as := [.ref 65]) (rest := []) (r1 := some (.int (nI WW))) (m1 := mz_set (mz_set b 72 r72) 73 r73) mz_t183 mz_v183_65 rfl rfl rfl rfl rfl ⟨?_, rfl⟩ ?_
          · refine mz_go 4 (c' := (7, [some (.ref 65)], [.int (b 66 60)], mz_set (mz_set b 72 r72) 73 r73)) rfl ?_
            rw [h6660]
            exact mz_ret rfl
          refine mz_go 15 (c' := (142, [some (.ref 65), some (.int 2), some (.int a0), some (.int (nI I)), some (.int (nI k)), some (.int (((nI WW) - 1) - (nI I))), some (.int (((nI WW) - 1) - (nI k))), some (.int 2), some (.int (((nI WW) - 1) - (nI k)))], [.int (nI k), .int (nI I), .ref 65], mz_set (mz_set b 72 r72) 73 r73)) rfl ?_
          refine mz_doQ (R := mz_r186) (as := [.ref 65, .int (nI I), .int (nI k)]) (rest := []) (r1 := some (.int (nI (c I k)))) (m1 := mz_set (mz_set b 72 r72) 73 r73) mz_t186 mz_v186_65 rfl rfl rfl rfl rfl (Ez1.deep (by decide)) ?_
          refine mz_go 4 (c' := (152, [some (.ref 65), some (.int 2), some (.int a0), some (.int (nI I)), some (.int (nI k)), some (.int (((nI WW) - 1) - (nI I))), some (.int (((nI WW) - 1) - (nI k))), some (.int (nI (c I k))), some (.int (((nI WW) - 1) - (nI k)))], [.int (((nI WW) - 1) - (nI k)), .int (((nI WW) - 1) - (nI I)), .ref 65], mz_set (mz_set b 72 r72) 73 r73)) rfl ?_
          refine mz_doQ (R := mz_r186) (as := [.ref 65, .int (((nI WW) - 1) - (nI I)), .int (((nI WW) - 1) - (nI k))]) (rest := []) (r1 := some (.int (nI (c ((WW - 1) - I) ((WW - 1) - k))))) (m1 := mz_set (mz_set b 72 r72) 73 r73) mz_t186 mz_v186_65 rfl rfl rfl rfl rfl (Ez2.deep (by decide)) ?_
          refine mz_go 3 (c' := (if a0 = 0 then 209 else 161, [some (.ref 65), some (.int 2), some (.int a0), some (.int (nI I)), some (.int (nI k)), some (.int (((nI WW) - 1) - (nI I))), some (.int (((nI WW) - 1) - (nI k))), some (.int (nI (c I k))), some (.int (nI (c ((WW - 1) - I) ((WW - 1) - k))))], [], mz_set (mz_set b 72 r72) 73 r73)) rfl ?_
          refine mz_ifF q1 ?_
          refine mz_go 3 (c' := (167, [some (.ref 65), some (.int 2), some (.int a0), some (.int (nI I)), some (.int (nI k)), some (.int (((nI WW) - 1) - (nI I))), some (.int (((nI WW) - 1) - (nI k))), some (.int (nI (c I k))), some (.int (nI (c ((WW - 1) - I) ((WW - 1) - k))))], [.int (nI (c I k)), .ref 72], mz_set (mz_set b 72 r72) 73 r73)) rfl ?_
          refine mz_arr (c' := (168, [some (.ref 65), some (.int 2), some (.int a0), some (.int (nI I)), some (.int (nI k)), some (.int (((nI WW) - 1) - (nI I))), some (.int (((nI WW) - 1) - (nI k))), some (.int (nI (c I k))), some (.int (nI (c ((WW - 1) - I) ((WW - 1) - k))))], [.int (r72 ((nI (c I k)).toNatClampNeg))], mz_set (mz_set b 72 r72) 73 r73)) rfl (show mz_in (nI (c I k)) 10 = true from sm_inN rfl (show (c I k) < 10 by omega) (by decide)) ?_
          rw [show (nI (c I k) : Int32).toNatClampNeg = (c I k) from sm_clN rfl (show (c I k) < 2 ^ 31 by omega)]
          refine mz_go 1 (c' := (if (r72 (c I k)) < 0 then 183 else 171, [some (.ref 65), some (.int 2), some (.int a0), some (.int (nI I)), some (.int (nI k)), some (.int (((nI WW) - 1) - (nI I))), some (.int (((nI WW) - 1) - (nI k))), some (.int (nI (c I k))), some (.int (nI (c ((WW - 1) - I) ((WW - 1) - k))))], [], mz_set (mz_set b 72 r72) 73 r73)) rfl ?_
          refine mz_ifT q2 ?_
          refine mz_go 3 (c' := (189, [some (.ref 65), some (.int 2), some (.int a0), some (.int (nI I)), some (.int (nI k)), some (.int (((nI WW) - 1) - (nI I))), some (.int (((nI WW) - 1) - (nI k))), some (.int (nI (c I k))), some (.int (nI (c ((WW - 1) - I) ((WW - 1) - k))))], [.int (nI (c ((WW - 1) - I) ((WW - 1) - k))), .ref 73], mz_set (mz_set b 72 r72) 73 r73)) rfl ?_
          refine mz_arr (c' := (190, [some (.ref 65), some (.int 2), some (.int a0), some (.int (nI I)), some (.int (nI k)), some (.int (((nI WW) - 1) - (nI I))), some (.int (((nI WW) - 1) - (nI k))), some (.int (nI (c I k))), some (.int (nI (c ((WW - 1) - I) ((WW - 1) - k))))], [.int (r73 ((nI (c ((WW - 1) - I) ((WW - 1) - k))).toNatClampNeg))], mz_set (mz_set b 72 r72) 73 r73)) rfl (show mz_in (nI (c ((WW - 1) - I) ((WW - 1) - k))) 10 = true from sm_inN rfl (show (c ((WW - 1) - I) ((WW - 1) - k)) < 10 by omega) (by decide)) ?_
          rw [show (nI (c ((WW - 1) - I) ((WW - 1) - k)) : Int32).toNatClampNeg = (c ((WW - 1) - I) ((WW - 1) - k)) from sm_clN rfl (show (c ((WW - 1) - I) ((WW - 1) - k)) < 2 ^ 31 by omega)]
          refine mz_go 1 (c' := (if (r73 (c ((WW - 1) - I) ((WW - 1) - k))) < 0 then 205 else 193, [some (.ref 65), some (.int 2), some (.int a0), some (.int (nI I)), some (.int (nI k)), some (.int (((nI WW) - 1) - (nI I))), some (.int (((nI WW) - 1) - (nI k))), some (.int (nI (c I k))), some (.int (nI (c ((WW - 1) - I) ((WW - 1) - k))))], [], mz_set (mz_set b 72 r72) 73 r73)) rfl ?_
          refine mz_ifT q3 ?_
          refine mz_go 7 (c' := (219, [some (.ref 65), some (.int 2), some (.int 1), some (.int (nI I)), some (.int (nI k)), some (.int (((nI WW) - 1) - (nI I))), some (.int (((nI WW) - 1) - (nI k))), some (.int (nI (c I k))), some (.int (nI (c ((WW - 1) - I) ((WW - 1) - k))))], [.int (nI (c ((WW - 1) - I) ((WW - 1) - k))), .int (nI (c I k)), .ref 72], mz_set (mz_set b 72 r72) 73 r73)) rfl ?_
          refine mz_arr (c' := (220, [some (.ref 65), some (.int 2), some (.int 1), some (.int (nI I)), some (.int (nI k)), some (.int (((nI WW) - 1) - (nI I))), some (.int (((nI WW) - 1) - (nI k))), some (.int (nI (c I k))), some (.int (nI (c ((WW - 1) - I) ((WW - 1) - k))))], [], mz_up (mz_set (mz_set b 72 r72) 73 r73) 72 ((nI (c I k)).toNatClampNeg) (nI (c ((WW - 1) - I) ((WW - 1) - k))))) rfl (show mz_in (nI (c I k)) 10 = true from sm_inN rfl (show (c I k) < 10 by omega) (by decide)) ?_
          rw [show (nI (c I k) : Int32).toNatClampNeg = (c I k) from sm_clN rfl (show (c I k) < 2 ^ 31 by omega)]
          refine mz_go 4 (c' := (228, [some (.ref 65), some (.int 2), some (.int 1), some (.int (nI I)), some (.int (nI k)), some (.int (((nI WW) - 1) - (nI I))), some (.int (((nI WW) - 1) - (nI k))), some (.int (nI (c I k))), some (.int (nI (c ((WW - 1) - I) ((WW - 1) - k))))], [.int (nI (c I k)), .int (nI (c ((WW - 1) - I) ((WW - 1) - k))), .ref 73], mz_up (mz_set (mz_set b 72 r72) 73 r73) 72 (c I k) (nI (c ((WW - 1) - I) ((WW - 1) - k))))) rfl ?_
          refine mz_arr (c' := (229, [some (.ref 65), some (.int 2), some (.int 1), some (.int (nI I)), some (.int (nI k)), some (.int (((nI WW) - 1) - (nI I))), some (.int (((nI WW) - 1) - (nI k))), some (.int (nI (c I k))), some (.int (nI (c ((WW - 1) - I) ((WW - 1) - k))))], [], mz_up (mz_up (mz_set (mz_set b 72 r72) 73 r73) 72 (c I k) (nI (c ((WW - 1) - I) ((WW - 1) - k)))) 73 ((nI (c ((WW - 1) - I) ((WW - 1) - k))).toNatClampNeg) (nI (c I k)))) rfl (show mz_in (nI (c ((WW - 1) - I) ((WW - 1) - k))) 10 = true from sm_inN rfl (show (c ((WW - 1) - I) ((WW - 1) - k)) < 10 by omega) (by decide)) ?_
          rw [show (nI (c ((WW - 1) - I) ((WW - 1) - k)) : Int32).toNatClampNeg = (c ((WW - 1) - I) ((WW - 1) - k)) from sm_clN rfl (show (c ((WW - 1) - I) ((WW - 1) - k)) < 2 ^ 31 by omega)]
          refine mz_go 2 (c' := (88, [some (.ref 65), some (.int 2), some (.int 1), some (.int (nI I)), some (.int ((nI k) + 1)), some (.int (((nI WW) - 1) - (nI I))), some (.int (((nI WW) - 1) - (nI k))), some (.int (nI (c I k))), some (.int (nI (c ((WW - 1) - I) ((WW - 1) - k))))], [], mz_up (mz_up (mz_set (mz_set b 72 r72) 73 r73) 72 (c I k) (nI (c ((WW - 1) - I) ((WW - 1) - k)))) 73 (c ((WW - 1) - I) ((WW - 1) - k)) (nI (c I k)))) rfl ?_
          exact hr
        · by_cases q4 : (r73 (c ((WW - 1) - I) ((WW - 1) - k))) = (nI (c I k))
          · have hm : mz_up (mz_up (mz_set (mz_set b 72 r72) 73 r73) 72 (c I k) (nI (c ((WW - 1) - I) ((WW - 1) - k)))) 73 (c ((WW - 1) - I) ((WW - 1) - k)) (nI (c I k)) = mz_set (mz_set b 72 ((mz_up (mz_up (mz_set (mz_set b 72 r72) 73 r73) 72 (c I k) (nI (c ((WW - 1) - I) ((WW - 1) - k)))) 73 (c ((WW - 1) - I) ((WW - 1) - k)) (nI (c I k))) 72)) 73 ((mz_up (mz_up (mz_set (mz_set b 72 r72) 73 r73) 72 (c I k) (nI (c ((WW - 1) - I) ((WW - 1) - k)))) 73 (c ((WW - 1) - I) ((WW - 1) - k)) (nI (c I k))) 73) := sm_of2 (fun i h1 h2 => by simp only [mz_set_ne h1, mz_set_ne h2, mz_up_ne h1, mz_up_ne h2])
            obtain ⟨b0, p0, p1, p2, p3, s72, s73, hin2, Er⟩ := ih (k + 1) (by omega) 1 (some (.int (((nI WW) - 1) - (nI I)))) (some (.int (((nI WW) - 1) - (nI k)))) (some (.int (nI (c I k)))) (some (.int (nI (c ((WW - 1) - I) ((WW - 1) - k))))) ((mz_up (mz_up (mz_set (mz_set b 72 r72) 73 r73) 72 (c I k) (nI (c ((WW - 1) - I) ((WW - 1) - k)))) 73 (c ((WW - 1) - I) ((WW - 1) - k)) (nI (c I k))) 72) ((mz_up (mz_up (mz_set (mz_set b 72 r72) 73 r73) 72 (c I k) (nI (c ((WW - 1) - I) ((WW - 1) - k)))) 73 (c ((WW - 1) - I) ((WW - 1) - k)) (nI (c I k))) 73) (vq_tuD h9 hI (by omega) hin q1 (Or.inl q2) (Or.inr q4) (fun v => by rw [mz_up_ne (show (72 : Nat) ≠ 73 by decide), mz_up_eq, mz_set_ne (show (72 : Nat) ≠ 73 by decide), mz_set_eq]; rfl) (fun v => by rw [mz_up_eq, mz_up_ne (show (73 : Nat) ≠ 72 by decide), mz_set_eq]; rfl))
            refine ⟨b0, p0, p1, p2, p3, s72, s73, hin2, fun r hr0 => ?_⟩
            have hr := Er r hr0
            rw [nI_succ k, ← hm] at hr
            refine mz_go 2 (c' := (91, [some (.ref 65), some (.int 2), some (.int a0), some (.int (nI I)), some (.int (nI k)), o0, o1, o2, o3], [.ref 65, .int (nI k)], mz_set (mz_set b 72 r72) 73 r73)) rfl ?_
            refine mz_doQ (R := mz_r183) (as := [.ref 65]) (rest := [.int (nI k)]) (r1 := some (.int (nI WW))) (m1 := mz_set (mz_set b 72 r72) 73 r73) mz_t183 mz_v183_65 rfl rfl rfl rfl rfl ⟨?_, rfl⟩ ?_
            · refine mz_go 4 (c' := (7, [some (.ref 65)], [.int (b 66 60)], mz_set (mz_set b 72 r72) 73 r73)) rfl ?_
              rw [h6660]
              exact mz_ret rfl
            refine mz_go 1 (c' := (if (nI WW) ≤ (nI k) then 235 else 97, [some (.ref 65), some (.int 2), some (.int a0), some (.int (nI I)), some (.int (nI k)), o0, o1, o2, o3], [], mz_set (mz_set b 72 r72) 73 r73)) rfl ?_
            refine mz_ifF (show ¬ ((nI WW) ≤ (nI k)) from (sm_nleN rfl rfl (show k < WW by omega) (show WW < 2 ^ 31 by omega))) ?_
            refine mz_go 12 (c' := (118, [some (.ref 65), some (.int 2), some (.int a0), some (.int (nI I)), some (.int (nI k)), some (.int (nI I)), some (.int (nI k)), some (.int 0), some (.int (nI I))], [.ref 65], mz_set (mz_set b 72 r72) 73 r73)) rfl ?_
            refine mz_doQ (R := mz_r183) (as := [.ref 65]) (rest := []) (r1 := some (.int (nI WW))) (m1 := mz_set (mz_set b 72 r72) 73 r73) mz_t183 mz_v183_65 rfl rfl rfl rfl rfl ⟨?_, rfl⟩ ?_
            · refine mz_go 4 (c' := (7, [some (.ref 65)], [.int (b 66 60)], mz_set (mz_set b 72 r72) 73 r73)) rfl ?_
              rw [h6660]
              exact mz_ret rfl
            refine mz_go 15 (c' := (118, [some (.ref 65), some (.int 2), some (.int a0), some (.int (nI I)), some (.int (nI k)), some (.int (((nI WW) - 1) - (nI k))), some (.int (nI I)), some (.int 1), some (.int (((nI WW) - 1) - (nI k)))], [.ref 65], mz_set (mz_set b 72 r72) 73 r73)) rfl ?_
            refine mz_doQ (R := mz_r183) (as := [.ref 65]) (rest := []) (r1 := some (.int (nI WW))) (m1 := mz_set (mz_set b 72 r72) 73 r73) mz_t183 mz_v183_65 rfl rfl rfl rfl rfl ⟨?_, rfl⟩ ?_
            · refine mz_go 4 (c' := (7, [some (.ref 65)], [.int (b 66 60)], mz_set (mz_set b 72 r72) 73 r73)) rfl ?_
              rw [h6660]
              exact mz_ret rfl
            refine mz_go 15 (c' := (142, [some (.ref 65), some (.int 2), some (.int a0), some (.int (nI I)), some (.int (nI k)), some (.int (((nI WW) - 1) - (nI I))), some (.int (((nI WW) - 1) - (nI k))), some (.int 2), some (.int (((nI WW) - 1) - (nI k)))], [.int (nI k), .int (nI I), .ref 65], mz_set (mz_set b 72 r72) 73 r73)) rfl ?_
            refine mz_doQ (R := mz_r186) (as := [.ref 65, .int (nI I), .int (nI k)]) (rest := []) (r1 := some (.int (nI (c I k)))) (m1 := mz_set (mz_set b 72 r72) 73 r73) mz_t186 mz_v186_65 rfl rfl rfl rfl rfl (Ez1.deep (by decide)) ?_
            refine mz_go 4 (c' := (152, [some (.ref 65), some (.int 2), some (.int a0), some (.int (nI I)), some (.int (nI k)), some (.int (((nI WW) - 1) - (nI I))), some (.int (((nI WW) - 1) - (nI k))), some (.int (nI (c I k))), some (.int (((nI WW) - 1) - (nI k)))], [.int (((nI WW) - 1) - (nI k)), .int (((nI WW) - 1) - (nI I)), .ref 65], mz_set (mz_set b 72 r72) 73 r73)) rfl ?_
            refine mz_doQ (R := mz_r186) (as := [.ref 65, .int (((nI WW) - 1) - (nI I)), .int (((nI WW) - 1) - (nI k))]) (rest := []) (r1 := some (.int (nI (c ((WW - 1) - I) ((WW - 1) - k))))) (m1 := mz_set (mz_set b 72 r72) 73 r73) mz_t186 mz_v186_65 rfl rfl rfl rfl rfl (Ez2.deep (by decide)) ?_
            refine mz_go 3 (c' := (if a0 = 0 then 209 else 161, [some (.ref 65), some (.int 2), some (.int a0), some (.int (nI I)), some (.int (nI k)), some (.int (((nI WW) - 1) - (nI I))), some (.int (((nI WW) - 1) - (nI k))), some (.int (nI (c I k))), some (.int (nI (c ((WW - 1) - I) ((WW - 1) - k))))], [], mz_set (mz_set b 72 r72) 73 r73)) rfl ?_
            refine mz_ifF q1 ?_
            refine mz_go 3 (c' := (167, [some (.ref 65), some (.int 2), some (.int a0), some (.int (nI I)), some (.int (nI k)), some (.int (((nI WW) - 1) - (nI I))), some (.int (((nI WW) - 1) - (nI k))), some (.int (nI (c I k))), some (.int (nI (c ((WW - 1) - I) ((WW - 1) - k))))], [.int (nI (c I k)), .ref 72], mz_set (mz_set b 72 r72) 73 r73)) rfl ?_
            refine mz_arr (c' := (168, [some (.ref 65), some (.int 2), some (.int a0), some (.int (nI I)), some (.int (nI k)), some (.int (((nI WW) - 1) - (nI I))), some (.int (((nI WW) - 1) - (nI k))), some (.int (nI (c I k))), some (.int (nI (c ((WW - 1) - I) ((WW - 1) - k))))], [.int (r72 ((nI (c I k)).toNatClampNeg))], mz_set (mz_set b 72 r72) 73 r73)) rfl (show mz_in (nI (c I k)) 10 = true from sm_inN rfl (show (c I k) < 10 by omega) (by decide)) ?_
            rw [show (nI (c I k) : Int32).toNatClampNeg = (c I k) from sm_clN rfl (show (c I k) < 2 ^ 31 by omega)]
            refine mz_go 1 (c' := (if (r72 (c I k)) < 0 then 183 else 171, [some (.ref 65), some (.int 2), some (.int a0), some (.int (nI I)), some (.int (nI k)), some (.int (((nI WW) - 1) - (nI I))), some (.int (((nI WW) - 1) - (nI k))), some (.int (nI (c I k))), some (.int (nI (c ((WW - 1) - I) ((WW - 1) - k))))], [], mz_set (mz_set b 72 r72) 73 r73)) rfl ?_
            refine mz_ifT q2 ?_
            refine mz_go 3 (c' := (189, [some (.ref 65), some (.int 2), some (.int a0), some (.int (nI I)), some (.int (nI k)), some (.int (((nI WW) - 1) - (nI I))), some (.int (((nI WW) - 1) - (nI k))), some (.int (nI (c I k))), some (.int (nI (c ((WW - 1) - I) ((WW - 1) - k))))], [.int (nI (c ((WW - 1) - I) ((WW - 1) - k))), .ref 73], mz_set (mz_set b 72 r72) 73 r73)) rfl ?_
            refine mz_arr (c' := (190, [some (.ref 65), some (.int 2), some (.int a0), some (.int (nI I)), some (.int (nI k)), some (.int (((nI WW) - 1) - (nI I))), some (.int (((nI WW) - 1) - (nI k))), some (.int (nI (c I k))), some (.int (nI (c ((WW - 1) - I) ((WW - 1) - k))))], [.int (r73 ((nI (c ((WW - 1) - I) ((WW - 1) - k))).toNatClampNeg))], mz_set (mz_set b 72 r72) 73 r73)) rfl (show mz_in (nI (c ((WW - 1) - I) ((WW - 1) - k))) 10 = true from sm_inN rfl (show (c ((WW - 1) - I) ((WW - 1) - k)) < 10 by omega) (by decide)) ?_
            rw [show (nI (c ((WW - 1) - I) ((WW - 1) - k)) : Int32).toNatClampNeg = (c ((WW - 1) - I) ((WW - 1) - k)) from sm_clN rfl (show (c ((WW - 1) - I) ((WW - 1) - k)) < 2 ^ 31 by omega)]
            refine mz_go 1 (c' := (if (r73 (c ((WW - 1) - I) ((WW - 1) - k))) < 0 then 205 else 193, [some (.ref 65), some (.int 2), some (.int a0), some (.int (nI I)), some (.int (nI k)), some (.int (((nI WW) - 1) - (nI I))), some (.int (((nI WW) - 1) - (nI k))), some (.int (nI (c I k))), some (.int (nI (c ((WW - 1) - I) ((WW - 1) - k))))], [], mz_set (mz_set b 72 r72) 73 r73)) rfl ?_
            refine mz_ifF q3 ?_
            refine mz_go 3 (c' := (199, [some (.ref 65), some (.int 2), some (.int a0), some (.int (nI I)), some (.int (nI k)), some (.int (((nI WW) - 1) - (nI I))), some (.int (((nI WW) - 1) - (nI k))), some (.int (nI (c I k))), some (.int (nI (c ((WW - 1) - I) ((WW - 1) - k))))], [.int (nI (c ((WW - 1) - I) ((WW - 1) - k))), .ref 73], mz_set (mz_set b 72 r72) 73 r73)) rfl ?_
            refine mz_arr (c' := (200, [some (.ref 65), some (.int 2), some (.int a0), some (.int (nI I)), some (.int (nI k)), some (.int (((nI WW) - 1) - (nI I))), some (.int (((nI WW) - 1) - (nI k))), some (.int (nI (c I k))), some (.int (nI (c ((WW - 1) - I) ((WW - 1) - k))))], [.int (r73 ((nI (c ((WW - 1) - I) ((WW - 1) - k))).toNatClampNeg))], mz_set (mz_set b 72 r72) 73 r73)) rfl (show mz_in (nI (c ((WW - 1) - I) ((WW - 1) - k))) 10 = true from sm_inN rfl (show (c ((WW - 1) - I) ((WW - 1) - k)) < 10 by omega) (by decide)) ?_
            rw [show (nI (c ((WW - 1) - I) ((WW - 1) - k)) : Int32).toNatClampNeg = (c ((WW - 1) - I) ((WW - 1) - k)) from sm_clN rfl (show (c ((WW - 1) - I) ((WW - 1) - k)) < 2 ^ 31 by omega)]
            refine mz_go 2 (c' := (if (r73 (c ((WW - 1) - I) ((WW - 1) - k))) = (nI (c I k)) then 205 else 209, [some (.ref 65), some (.int 2), some (.int a0), some (.int (nI I)), some (.int (nI k)), some (.int (((nI WW) - 1) - (nI I))), some (.int (((nI WW) - 1) - (nI k))), some (.int (nI (c I k))), some (.int (nI (c ((WW - 1) - I) ((WW - 1) - k))))], [], mz_set (mz_set b 72 r72) 73 r73)) rfl ?_
            refine mz_ifT q4 ?_
            refine mz_go 7 (c' := (219, [some (.ref 65), some (.int 2), some (.int 1), some (.int (nI I)), some (.int (nI k)), some (.int (((nI WW) - 1) - (nI I))), some (.int (((nI WW) - 1) - (nI k))), some (.int (nI (c I k))), some (.int (nI (c ((WW - 1) - I) ((WW - 1) - k))))], [.int (nI (c ((WW - 1) - I) ((WW - 1) - k))), .int (nI (c I k)), .ref 72], mz_set (mz_set b 72 r72) 73 r73)) rfl ?_
            refine mz_arr (c' := (220, [some (.ref 65), some (.int 2), some (.int 1), some (.int (nI I)), some (.int (nI k)), some (.int (((nI WW) - 1) - (nI I))), some (.int (((nI WW) - 1) - (nI k))), some (.int (nI (c I k))), some (.int (nI (c ((WW - 1) - I) ((WW - 1) - k))))], [], mz_up (mz_set (mz_set b 72 r72) 73 r73) 72 ((nI (c I k)).toNatClampNeg) (nI (c ((WW - 1) - I) ((WW - 1) - k))))) rfl (show mz_in (nI (c I k)) 10 = true from sm_inN rfl (show (c I k) < 10 by omega) (by decide)) ?_
            rw [show (nI (c I k) : Int32).toNatClampNeg = (c I k) from sm_clN rfl (show (c I k) < 2 ^ 31 by omega)]
            refine mz_go 4 (c' := (228, [some (.ref 65), some (.int 2), some (.int 1), some (.int (nI I)), some (.int (nI k)), some (.int (((nI WW) - 1) - (nI I))), some (.int (((nI WW) - 1) - (nI k))), some (.int (nI (c I k))), some (.int (nI (c ((WW - 1) - I) ((WW - 1) - k))))], [.int (nI (c I k)), .int (nI (c ((WW - 1) - I) ((WW - 1) - k))), .ref 73], mz_up (mz_set (mz_set b 72 r72) 73 r73) 72 (c I k) (nI (c ((WW - 1) - I) ((WW - 1) - k))))) rfl ?_
            refine mz_arr (c' := (229, [some (.ref 65), some (.int 2), some (.int 1), some (.int (nI I)), some (.int (nI k)), some (.int (((nI WW) - 1) - (nI I))), some (.int (((nI WW) - 1) - (nI k))), some (.int (nI (c I k))), some (.int (nI (c ((WW - 1) - I) ((WW - 1) - k))))], [], mz_up (mz_up (mz_set (mz_set b 72 r72) 73 r73) 72 (c I k) (nI (c ((WW - 1) - I) ((WW - 1) - k)))) 73 ((nI (c ((WW - 1) - I) ((WW - 1) - k))).toNatClampNeg) (nI (c I k)))) rfl (show mz_in (nI (c ((WW - 1) - I) ((WW - 1) - k))) 10 = true from sm_inN rfl (show (c ((WW - 1) - I) ((WW - 1) - k)) < 10 by omega) (by decide)) ?_
            rw [show (nI (c ((WW - 1) - I) ((WW - 1) - k)) : Int32).toNatClampNeg = (c ((WW - 1) - I) ((WW - 1) - k)) from sm_clN rfl (show (c ((WW - 1) - I) ((WW - 1) - k)) < 2 ^ 31 by omega)]
            refine mz_go 2 (c' := (88, [some (.ref 65), some (.int 2), some (.int 1), some (.int (nI I)), some (.int ((nI k) + 1)), some (.int (((nI WW) - 1) - (nI I))), some (.int (((nI WW) - 1) - (nI k))), some (.int (nI (c I k))), some (.int (nI (c ((WW - 1) - I) ((WW - 1) - k))))], [], mz_up (mz_up (mz_set (mz_set b 72 r72) 73 r73) 72 (c I k) (nI (c ((WW - 1) - I) ((WW - 1) - k)))) 73 (c ((WW - 1) - I) ((WW - 1) - k)) (nI (c I k)))) rfl ?_
            exact hr
          · have hm : mz_up (mz_up (mz_set (mz_set b 72 r72) 73 r73) 72 (c I k) (nI (c ((WW - 1) - I) ((WW - 1) - k)))) 73 (c ((WW - 1) - I) ((WW - 1) - k)) (nI (c I k)) = mz_set (mz_set b 72 ((mz_up (mz_up (mz_set (mz_set b 72 r72) 73 r73) 72 (c I k) (nI (c ((WW - 1) - I) ((WW - 1) - k)))) 73 (c ((WW - 1) - I) ((WW - 1) - k)) (nI (c I k))) 72)) 73 ((mz_up (mz_up (mz_set (mz_set b 72 r72) 73 r73) 72 (c I k) (nI (c ((WW - 1) - I) ((WW - 1) - k)))) 73 (c ((WW - 1) - I) ((WW - 1) - k)) (nI (c I k))) 73) := sm_of2 (fun i h1 h2 => by simp only [mz_set_ne h1, mz_set_ne h2, mz_up_ne h1, mz_up_ne h2])
            obtain ⟨b0, p0, p1, p2, p3, s72, s73, hin2, Er⟩ := ih (k + 1) (by omega) 0 (some (.int (((nI WW) - 1) - (nI I)))) (some (.int (((nI WW) - 1) - (nI k)))) (some (.int (nI (c I k)))) (some (.int (nI (c ((WW - 1) - I) ((WW - 1) - k))))) ((mz_up (mz_up (mz_set (mz_set b 72 r72) 73 r73) 72 (c I k) (nI (c ((WW - 1) - I) ((WW - 1) - k)))) 73 (c ((WW - 1) - I) ((WW - 1) - k)) (nI (c I k))) 72) ((mz_up (mz_up (mz_set (mz_set b 72 r72) 73 r73) 72 (c I k) (nI (c ((WW - 1) - I) ((WW - 1) - k)))) 73 (c ((WW - 1) - I) ((WW - 1) - k)) (nI (c I k))) 73) (vq_tuC h9 hI (by omega) hin q1 q3 q4)
            refine ⟨b0, p0, p1, p2, p3, s72, s73, hin2, fun r hr0 => ?_⟩
            have hr := Er r hr0
            rw [nI_succ k, ← hm] at hr
            refine mz_go 2 (c' := (91, [some (.ref 65), some (.int 2), some (.int a0), some (.int (nI I)), some (.int (nI k)), o0, o1, o2, o3], [.ref 65, .int (nI k)], mz_set (mz_set b 72 r72) 73 r73)) rfl ?_
            refine mz_doQ (R := mz_r183) (as := [.ref 65]) (rest := [.int (nI k)]) (r1 := some (.int (nI WW))) (m1 := mz_set (mz_set b 72 r72) 73 r73) mz_t183 mz_v183_65 rfl rfl rfl rfl rfl ⟨?_, rfl⟩ ?_
            · refine mz_go 4 (c' := (7, [some (.ref 65)], [.int (b 66 60)], mz_set (mz_set b 72 r72) 73 r73)) rfl ?_
              rw [h6660]
              exact mz_ret rfl
            refine mz_go 1 (c' := (if (nI WW) ≤ (nI k) then 235 else 97, [some (.ref 65), some (.int 2), some (.int a0), some (.int (nI I)), some (.int (nI k)), o0, o1, o2, o3], [], mz_set (mz_set b 72 r72) 73 r73)) rfl ?_
            refine mz_ifF (show ¬ ((nI WW) ≤ (nI k)) from (sm_nleN rfl rfl (show k < WW by omega) (show WW < 2 ^ 31 by omega))) ?_
            refine mz_go 12 (c' := (118, [some (.ref 65), some (.int 2), some (.int a0), some (.int (nI I)), some (.int (nI k)), some (.int (nI I)), some (.int (nI k)), some (.int 0), some (.int (nI I))], [.ref 65], mz_set (mz_set b 72 r72) 73 r73)) rfl ?_
            refine mz_doQ (R := mz_r183) (as := [.ref 65]) (rest := []) (r1 := some (.int (nI WW))) (m1 := mz_set (mz_set b 72 r72) 73 r73) mz_t183 mz_v183_65 rfl rfl rfl rfl rfl ⟨?_, rfl⟩ ?_
            · refine mz_go 4 (c' := (7, [some (.ref 65)], [.int (b 66 60)], mz_set (mz_set b 72 r72) 73 r73)) rfl ?_
              rw [h6660]
              exact mz_ret rfl
            refine mz_go 15 (c' := (118, [some (.ref 65), some (.int 2), some (.int a0), some (.int (nI I)), some (.int (nI k)), some (.int (((nI WW) - 1) - (nI k))), some (.int (nI I)), some (.int 1), some (.int (((nI WW) - 1) - (nI k)))], [.ref 65], mz_set (mz_set b 72 r72) 73 r73)) rfl ?_
            refine mz_doQ (R := mz_r183) (as := [.ref 65]) (rest := []) (r1 := some (.int (nI WW))) (m1 := mz_set (mz_set b 72 r72) 73 r73) mz_t183 mz_v183_65 rfl rfl rfl rfl rfl ⟨?_, rfl⟩ ?_
            · refine mz_go 4 (c' := (7, [some (.ref 65)], [.int (b 66 60)], mz_set (mz_set b 72 r72) 73 r73)) rfl ?_
              rw [h6660]
              exact mz_ret rfl
            refine mz_go 15 (c' := (142, [some (.ref 65), some (.int 2), some (.int a0), some (.int (nI I)), some (.int (nI k)), some (.int (((nI WW) - 1) - (nI I))), some (.int (((nI WW) - 1) - (nI k))), some (.int 2), some (.int (((nI WW) - 1) - (nI k)))], [.int (nI k), .int (nI I), .ref 65], mz_set (mz_set b 72 r72) 73 r73)) rfl ?_
            refine mz_doQ (R := mz_r186) (as := [.ref 65, .int (nI I), .int (nI k)]) (rest := []) (r1 := some (.int (nI (c I k)))) (m1 := mz_set (mz_set b 72 r72) 73 r73) mz_t186 mz_v186_65 rfl rfl rfl rfl rfl (Ez1.deep (by decide)) ?_
            refine mz_go 4 (c' := (152, [some (.ref 65), some (.int 2), some (.int a0), some (.int (nI I)), some (.int (nI k)), some (.int (((nI WW) - 1) - (nI I))), some (.int (((nI WW) - 1) - (nI k))), some (.int (nI (c I k))), some (.int (((nI WW) - 1) - (nI k)))], [.int (((nI WW) - 1) - (nI k)), .int (((nI WW) - 1) - (nI I)), .ref 65], mz_set (mz_set b 72 r72) 73 r73)) rfl ?_
            refine mz_doQ (R := mz_r186) (as := [.ref 65, .int (((nI WW) - 1) - (nI I)), .int (((nI WW) - 1) - (nI k))]) (rest := []) (r1 := some (.int (nI (c ((WW - 1) - I) ((WW - 1) - k))))) (m1 := mz_set (mz_set b 72 r72) 73 r73) mz_t186 mz_v186_65 rfl rfl rfl rfl rfl (Ez2.deep (by decide)) ?_
            refine mz_go 3 (c' := (if a0 = 0 then 209 else 161, [some (.ref 65), some (.int 2), some (.int a0), some (.int (nI I)), some (.int (nI k)), some (.int (((nI WW) - 1) - (nI I))), some (.int (((nI WW) - 1) - (nI k))), some (.int (nI (c I k))), some (.int (nI (c ((WW - 1) - I) ((WW - 1) - k))))], [], mz_set (mz_set b 72 r72) 73 r73)) rfl ?_
            refine mz_ifF q1 ?_
            refine mz_go 3 (c' := (167, [some (.ref 65), some (.int 2), some (.int a0), some (.int (nI I)), some (.int (nI k)), some (.int (((nI WW) - 1) - (nI I))), some (.int (((nI WW) - 1) - (nI k))), some (.int (nI (c I k))), some (.int (nI (c ((WW - 1) - I) ((WW - 1) - k))))], [.int (nI (c I k)), .ref 72], mz_set (mz_set b 72 r72) 73 r73)) rfl ?_
            refine mz_arr (c' := (168, [some (.ref 65), some (.int 2), some (.int a0), some (.int (nI I)), some (.int (nI k)), some (.int (((nI WW) - 1) - (nI I))), some (.int (((nI WW) - 1) - (nI k))), some (.int (nI (c I k))), some (.int (nI (c ((WW - 1) - I) ((WW - 1) - k))))], [.int (r72 ((nI (c I k)).toNatClampNeg))], mz_set (mz_set b 72 r72) 73 r73)) rfl (show mz_in (nI (c I k)) 10 = true from sm_inN rfl (show (c I k) < 10 by omega) (by decide)) ?_
            rw [show (nI (c I k) : Int32).toNatClampNeg = (c I k) from sm_clN rfl (show (c I k) < 2 ^ 31 by omega)]
            refine mz_go 1 (c' := (if (r72 (c I k)) < 0 then 183 else 171, [some (.ref 65), some (.int 2), some (.int a0), some (.int (nI I)), some (.int (nI k)), some (.int (((nI WW) - 1) - (nI I))), some (.int (((nI WW) - 1) - (nI k))), some (.int (nI (c I k))), some (.int (nI (c ((WW - 1) - I) ((WW - 1) - k))))], [], mz_set (mz_set b 72 r72) 73 r73)) rfl ?_
            refine mz_ifT q2 ?_
            refine mz_go 3 (c' := (189, [some (.ref 65), some (.int 2), some (.int a0), some (.int (nI I)), some (.int (nI k)), some (.int (((nI WW) - 1) - (nI I))), some (.int (((nI WW) - 1) - (nI k))), some (.int (nI (c I k))), some (.int (nI (c ((WW - 1) - I) ((WW - 1) - k))))], [.int (nI (c ((WW - 1) - I) ((WW - 1) - k))), .ref 73], mz_set (mz_set b 72 r72) 73 r73)) rfl ?_
            refine mz_arr (c' := (190, [some (.ref 65), some (.int 2), some (.int a0), some (.int (nI I)), some (.int (nI k)), some (.int (((nI WW) - 1) - (nI I))), some (.int (((nI WW) - 1) - (nI k))), some (.int (nI (c I k))), some (.int (nI (c ((WW - 1) - I) ((WW - 1) - k))))], [.int (r73 ((nI (c ((WW - 1) - I) ((WW - 1) - k))).toNatClampNeg))], mz_set (mz_set b 72 r72) 73 r73)) rfl (show mz_in (nI (c ((WW - 1) - I) ((WW - 1) - k))) 10 = true from sm_inN rfl (show (c ((WW - 1) - I) ((WW - 1) - k)) < 10 by omega) (by decide)) ?_
            rw [show (nI (c ((WW - 1) - I) ((WW - 1) - k)) : Int32).toNatClampNeg = (c ((WW - 1) - I) ((WW - 1) - k)) from sm_clN rfl (show (c ((WW - 1) - I) ((WW - 1) - k)) < 2 ^ 31 by omega)]
            refine mz_go 1 (c' := (if (r73 (c ((WW - 1) - I) ((WW - 1) - k))) < 0 then 205 else 193, [some (.ref 65), some (.int 2), some (.int a0), some (.int (nI I)), some (.int (nI k)), some (.int (((nI WW) - 1) - (nI I))), some (.int (((nI WW) - 1) - (nI k))), some (.int (nI (c I k))), some (.int (nI (c ((WW - 1) - I) ((WW - 1) - k))))], [], mz_set (mz_set b 72 r72) 73 r73)) rfl ?_
            refine mz_ifF q3 ?_
            refine mz_go 3 (c' := (199, [some (.ref 65), some (.int 2), some (.int a0), some (.int (nI I)), some (.int (nI k)), some (.int (((nI WW) - 1) - (nI I))), some (.int (((nI WW) - 1) - (nI k))), some (.int (nI (c I k))), some (.int (nI (c ((WW - 1) - I) ((WW - 1) - k))))], [.int (nI (c ((WW - 1) - I) ((WW - 1) - k))), .ref 73], mz_set (mz_set b 72 r72) 73 r73)) rfl ?_
            refine mz_arr (c' := (200, [some (.ref 65), some (.int 2), some (.int a0), some (.int (nI I)), some (.int (nI k)), some (.int (((nI WW) - 1) - (nI I))), some (.int (((nI WW) - 1) - (nI k))), some (.int (nI (c I k))), some (.int (nI (c ((WW - 1) - I) ((WW - 1) - k))))], [.int (r73 ((nI (c ((WW - 1) - I) ((WW - 1) - k))).toNatClampNeg))], mz_set (mz_set b 72 r72) 73 r73)) rfl (show mz_in (nI (c ((WW - 1) - I) ((WW - 1) - k))) 10 = true from sm_inN rfl (show (c ((WW - 1) - I) ((WW - 1) - k)) < 10 by omega) (by decide)) ?_
            rw [show (nI (c ((WW - 1) - I) ((WW - 1) - k)) : Int32).toNatClampNeg = (c ((WW - 1) - I) ((WW - 1) - k)) from sm_clN rfl (show (c ((WW - 1) - I) ((WW - 1) - k)) < 2 ^ 31 by omega)]
            refine mz_go 2 (c' := (if (r73 (c ((WW - 1) - I) ((WW - 1) - k))) = (nI (c I k)) then 205 else 209, [some (.ref 65), some (.int 2), some (.int a0), some (.int (nI I)), some (.int (nI k)), some (.int (((nI WW) - 1) - (nI I))), some (.int (((nI WW) - 1) - (nI k))), some (.int (nI (c I k))), some (.int (nI (c ((WW - 1) - I) ((WW - 1) - k))))], [], mz_set (mz_set b 72 r72) 73 r73)) rfl ?_
            refine mz_ifF q4 ?_
            refine mz_go 6 (c' := (219, [some (.ref 65), some (.int 2), some (.int 0), some (.int (nI I)), some (.int (nI k)), some (.int (((nI WW) - 1) - (nI I))), some (.int (((nI WW) - 1) - (nI k))), some (.int (nI (c I k))), some (.int (nI (c ((WW - 1) - I) ((WW - 1) - k))))], [.int (nI (c ((WW - 1) - I) ((WW - 1) - k))), .int (nI (c I k)), .ref 72], mz_set (mz_set b 72 r72) 73 r73)) rfl ?_
            refine mz_arr (c' := (220, [some (.ref 65), some (.int 2), some (.int 0), some (.int (nI I)), some (.int (nI k)), some (.int (((nI WW) - 1) - (nI I))), some (.int (((nI WW) - 1) - (nI k))), some (.int (nI (c I k))), some (.int (nI (c ((WW - 1) - I) ((WW - 1) - k))))], [], mz_up (mz_set (mz_set b 72 r72) 73 r73) 72 ((nI (c I k)).toNatClampNeg) (nI (c ((WW - 1) - I) ((WW - 1) - k))))) rfl (show mz_in (nI (c I k)) 10 = true from sm_inN rfl (show (c I k) < 10 by omega) (by decide)) ?_
            rw [show (nI (c I k) : Int32).toNatClampNeg = (c I k) from sm_clN rfl (show (c I k) < 2 ^ 31 by omega)]
            refine mz_go 4 (c' := (228, [some (.ref 65), some (.int 2), some (.int 0), some (.int (nI I)), some (.int (nI k)), some (.int (((nI WW) - 1) - (nI I))), some (.int (((nI WW) - 1) - (nI k))), some (.int (nI (c I k))), some (.int (nI (c ((WW - 1) - I) ((WW - 1) - k))))], [.int (nI (c I k)), .int (nI (c ((WW - 1) - I) ((WW - 1) - k))), .ref 73], mz_up (mz_set (mz_set b 72 r72) 73 r73) 72 (c I k) (nI (c ((WW - 1) - I) ((WW - 1) - k))))) rfl ?_
            refine mz_arr (c' := (229, [some (.ref 65), some (.int 2), some (.int 0), some (.int (nI I)), some (.int (nI k)), some (.int (((nI WW) - 1) - (nI I))), some (.int (((nI WW) - 1) - (nI k))), some (.int (nI (c I k))), some (.int (nI (c ((WW - 1) - I) ((WW - 1) - k))))], [], mz_up (mz_up (mz_set (mz_set b 72 r72) 73 r73) 72 (c I k) (nI (c ((WW - 1) - I) ((WW - 1) - k)))) 73 ((nI (c ((WW - 1) - I) ((WW - 1) - k))).toNatClampNeg) (nI (c I k)))) rfl (show mz_in (nI (c ((WW - 1) - I) ((WW - 1) - k))) 10 = true from sm_inN rfl (show (c ((WW - 1) - I) ((WW - 1) - k)) < 10 by omega) (by decide)) ?_
            rw [show (nI (c ((WW - 1) - I) ((WW - 1) - k)) : Int32).toNatClampNeg = (c ((WW - 1) - I) ((WW - 1) - k)) from sm_clN rfl (show (c ((WW - 1) - I) ((WW - 1) - k)) < 2 ^ 31 by omega)]
            refine mz_go 2 (c' := (88, [some (.ref 65), some (.int 2), some (.int 0), some (.int (nI I)), some (.int ((nI k) + 1)), some (.int (((nI WW) - 1) - (nI I))), some (.int (((nI WW) - 1) - (nI k))), some (.int (nI (c I k))), some (.int (nI (c ((WW - 1) - I) ((WW - 1) - k))))], [], mz_up (mz_up (mz_set (mz_set b 72 r72) 73 r73) 72 (c I k) (nI (c ((WW - 1) - I) ((WW - 1) - k)))) 73 (c ((WW - 1) - I) ((WW - 1) - k)) (nI (c I k)))) rfl ?_
            exact hr
      · by_cases q5 : (r72 (c I k)) = (nI (c ((WW - 1) - I) ((WW - 1) - k)))
        · by_cases q6 : (r73 (c ((WW - 1) - I) ((WW - 1) - k))) < 0
          · have hm : mz_up (mz_up (mz_set (mz_set b 72 r72) 73 r73) 72 (c I k) (nI (c ((WW - 1) - I) ((WW - 1) - k)))) 73 (c ((WW - 1) - I) ((WW - 1) - k)) (nI (c I k)) = mz_set (mz_set b 72 ((mz_up (mz_up (mz_set (mz_set b 72 r72) 73 r73) 72 (c I k) (nI (c ((WW - 1) - I) ((WW - 1) - k)))) 73 (c ((WW - 1) - I) ((WW - 1) - k)) (nI (c I k))) 72)) 73 ((mz_up (mz_up (mz_set (mz_set b 72 r72) 73 r73) 72 (c I k) (nI (c ((WW - 1) - I) ((WW - 1) - k)))) 73 (c ((WW - 1) - I) ((WW - 1) - k)) (nI (c I k))) 73) := sm_of2 (fun i h1 h2 => by simp only [mz_set_ne h1, mz_set_ne h2, mz_up_ne h1, mz_up_ne h2])
            obtain ⟨b0, p0, p1, p2, p3, s72, s73, hin2, Er⟩ := ih (k + 1) (by omega) 1 (some (.int (((nI WW) - 1) - (nI I)))) (some (.int (((nI WW) - 1) - (nI k)))) (some (.int (nI (c I k)))) (some (.int (nI (c ((WW - 1) - I) ((WW - 1) - k))))) ((mz_up (mz_up (mz_set (mz_set b 72 r72) 73 r73) 72 (c I k) (nI (c ((WW - 1) - I) ((WW - 1) - k)))) 73 (c ((WW - 1) - I) ((WW - 1) - k)) (nI (c I k))) 72) ((mz_up (mz_up (mz_set (mz_set b 72 r72) 73 r73) 72 (c I k) (nI (c ((WW - 1) - I) ((WW - 1) - k)))) 73 (c ((WW - 1) - I) ((WW - 1) - k)) (nI (c I k))) 73) (vq_tuD h9 hI (by omega) hin q1 (Or.inr q5) (Or.inl q6) (fun v => by rw [mz_up_ne (show (72 : Nat) ≠ 73 by decide), mz_up_eq, mz_set_ne (show (72 : Nat) ≠ 73 by decide), mz_set_eq]; rfl) (fun v => by rw [mz_up_eq, mz_up_ne (show (73 : Nat) ≠ 72 by decide), mz_set_eq]; rfl))
            refine ⟨b0, p0, p1, p2, p3, s72, s73, hin2, fun r hr0 => ?_⟩
            have hr := Er r hr0
            rw [nI_succ k, ← hm] at hr
            refine mz_go 2 (c' := (91, [some (.ref 65), some (.int 2), some (.int a0), some (.int (nI I)), some (.int (nI k)), o0, o1, o2, o3], [.ref 65, .int (nI k)], mz_set (mz_set b 72 r72) 73 r73)) rfl ?_
            refine mz_doQ (R := mz_r183) (as := [.ref 65]) (rest := [.int (nI k)]) (r1 := some (.int (nI WW))) (m1 := mz_set (mz_set b 72 r72) 73 r73) mz_t183 mz_v183_65 rfl rfl rfl rfl rfl ⟨?_, rfl⟩ ?_
            · refine mz_go 4 (c' := (7, [some (.ref 65)], [.int (b 66 60)], mz_set (mz_set b 72 r72) 73 r73)) rfl ?_
              rw [h6660]
              exact mz_ret rfl
            refine mz_go 1 (c' := (if (nI WW) ≤ (nI k) then 235 else 97, [some (.ref 65), some (.int 2), some (.int a0), some (.int (nI I)), some (.int (nI k)), o0, o1, o2, o3], [], mz_set (mz_set b 72 r72) 73 r73)) rfl ?_
            refine mz_ifF (show ¬ ((nI WW) ≤ (nI k)) from (sm_nleN rfl rfl (show k < WW by omega) (show WW < 2 ^ 31 by omega))) ?_
            refine mz_go 12 (c' := (118, [some (.ref 65), some (.int 2), some (.int a0), some (.int (nI I)), some (.int (nI k)), some (.int (nI I)), some (.int (nI k)), some (.int 0), some (.int (nI I))], [.ref 65], mz_set (mz_set b 72 r72) 73 r73)) rfl ?_
            refine mz_doQ (R := mz_r183) (as := [.ref 65]) (rest := []) (r1 := some (.int (nI WW))) (m1 := mz_set (mz_set b 72 r72) 73 r73) mz_t183 mz_v183_65 rfl rfl rfl rfl rfl ⟨?_, rfl⟩ ?_
            · refine mz_go 4 (c' := (7, [some (.ref 65)], [.int (b 66 60)], mz_set (mz_set b 72 r72) 73 r73)) rfl ?_
              rw [h6660]
              exact mz_ret rfl
            refine mz_go 15 (c' := (118, [some (.ref 65), some (.int 2), some (.int a0), some (.int (nI I)), some (.int (nI k)), some (.int (((nI WW) - 1) - (nI k))), some (.int (nI I)), some (.int 1), some (.int (((nI WW) - 1) - (nI k)))], [.ref 65], mz_set (mz_set b 72 r72) 73 r73)) rfl ?_
            refine mz_doQ (R := mz_r183) (as := [.ref 65]) (rest := []) (r1 := some (.int (nI WW))) (m1 := mz_set (mz_set b 72 r72) 73 r73) mz_t183 mz_v183_65 rfl rfl rfl rfl rfl ⟨?_, rfl⟩ ?_
            · refine mz_go 4 (c' := (7, [some (.ref 65)], [.int (b 66 60)], mz_set (mz_set b 72 r72) 73 r73)) rfl ?_
              rw [h6660]
              exact mz_ret rfl
            refine mz_go 15 (c' := (142, [some (.ref 65), some (.int 2), some (.int a0), some (.int (nI I)), some (.int (nI k)), some (.int (((nI WW) - 1) - (nI I))), some (.int (((nI WW) - 1) - (nI k))), some (.int 2), some (.int (((nI WW) - 1) - (nI k)))], [.int (nI k), .int (nI I), .ref 65], mz_set (mz_set b 72 r72) 73 r73)) rfl ?_
            refine mz_doQ (R := mz_r186) (as := [.ref 65, .int (nI I), .int (nI k)]) (rest := []) (r1 := some (.int (nI (c I k)))) (m1 := mz_set (mz_set b 72 r72) 73 r73) mz_t186 mz_v186_65 rfl rfl rfl rfl rfl (Ez1.deep (by decide)) ?_
            refine mz_go 4 (c' := (152, [some (.ref 65), some (.int 2), some (.int a0), some (.int (nI I)), some (.int (nI k)), some (.int (((nI WW) - 1) - (nI I))), some (.int (((nI WW) - 1) - (nI k))), some (.int (nI (c I k))), some (.int (((nI WW) - 1) - (nI k)))], [.int (((nI WW) - 1) - (nI k)), .int (((nI WW) - 1) - (nI I)), .ref 65], mz_set (mz_set b 72 r72) 73 r73)) rfl ?_
            refine mz_doQ (R := mz_r186) (as := [.ref 65, .int (((nI WW) - 1) - (nI I)), .int (((nI WW) - 1) - (nI k))]) (rest := []) (r1 := some (.int (nI (c ((WW - 1) - I) ((WW - 1) - k))))) (m1 := mz_set (mz_set b 72 r72) 73 r73) mz_t186 mz_v186_65 rfl rfl rfl rfl rfl (Ez2.deep (by decide)) ?_
            refine mz_go 3 (c' := (if a0 = 0 then 209 else 161, [some (.ref 65), some (.int 2), some (.int a0), some (.int (nI I)), some (.int (nI k)), some (.int (((nI WW) - 1) - (nI I))), some (.int (((nI WW) - 1) - (nI k))), some (.int (nI (c I k))), some (.int (nI (c ((WW - 1) - I) ((WW - 1) - k))))], [], mz_set (mz_set b 72 r72) 73 r73)) rfl ?_
            refine mz_ifF q1 ?_
            refine mz_go 3 (c' := (167, [some (.ref 65), some (.int 2), some (.int a0), some (.int (nI I)), some (.int (nI k)), some (.int (((nI WW) - 1) - (nI I))), some (.int (((nI WW) - 1) - (nI k))), some (.int (nI (c I k))), some (.int (nI (c ((WW - 1) - I) ((WW - 1) - k))))], [.int (nI (c I k)), .ref 72], mz_set (mz_set b 72 r72) 73 r73)) rfl ?_
            refine mz_arr (c' := (168, [some (.ref 65), some (.int 2), some (.int a0), some (.int (nI I)), some (.int (nI k)), some (.int (((nI WW) - 1) - (nI I))), some (.int (((nI WW) - 1) - (nI k))), some (.int (nI (c I k))), some (.int (nI (c ((WW - 1) - I) ((WW - 1) - k))))], [.int (r72 ((nI (c I k)).toNatClampNeg))], mz_set (mz_set b 72 r72) 73 r73)) rfl (show mz_in (nI (c I k)) 10 = true from sm_inN rfl (show (c I k) < 10 by omega) (by decide)) ?_
            rw [show (nI (c I k) : Int32).toNatClampNeg = (c I k) from sm_clN rfl (show (c I k) < 2 ^ 31 by omega)]
            refine mz_go 1 (c' := (if (r72 (c I k)) < 0 then 183 else 171, [some (.ref 65), some (.int 2), some (.int a0), some (.int (nI I)), some (.int (nI k)), some (.int (((nI WW) - 1) - (nI I))), some (.int (((nI WW) - 1) - (nI k))), some (.int (nI (c I k))), some (.int (nI (c ((WW - 1) - I) ((WW - 1) - k))))], [], mz_set (mz_set b 72 r72) 73 r73)) rfl ?_
            refine mz_ifF q2 ?_
            refine mz_go 3 (c' := (177, [some (.ref 65), some (.int 2), some (.int a0), some (.int (nI I)), some (.int (nI k)), some (.int (((nI WW) - 1) - (nI I))), some (.int (((nI WW) - 1) - (nI k))), some (.int (nI (c I k))), some (.int (nI (c ((WW - 1) - I) ((WW - 1) - k))))], [.int (nI (c I k)), .ref 72], mz_set (mz_set b 72 r72) 73 r73)) rfl ?_
            refine mz_arr (c' := (178, [some (.ref 65), some (.int 2), some (.int a0), some (.int (nI I)), some (.int (nI k)), some (.int (((nI WW) - 1) - (nI I))), some (.int (((nI WW) - 1) - (nI k))), some (.int (nI (c I k))), some (.int (nI (c ((WW - 1) - I) ((WW - 1) - k))))], [.int (r72 ((nI (c I k)).toNatClampNeg))], mz_set (mz_set b 72 r72) 73 r73)) rfl (show mz_in (nI (c I k)) 10 = true from sm_inN rfl (show (c I k) < 10 by omega) (by decide)) ?_
            rw [show (nI (c I k) : Int32).toNatClampNeg = (c I k) from sm_clN rfl (show (c I k) < 2 ^ 31 by omega)]
            refine mz_go 2 (c' := (if (r72 (c I k)) = (nI (c ((WW - 1) - I) ((WW - 1) - k))) then 183 else 209, [some (.ref 65), some (.int 2), some (.int a0), some (.int (nI I)), some (.int (nI k)), some (.int (((nI WW) - 1) - (nI I))), some (.int (((nI WW) - 1) - (nI k))), some (.int (nI (c I k))), some (.int (nI (c ((WW - 1) - I) ((WW - 1) - k))))], [], mz_set (mz_set b 72 r72) 73 r73)) rfl ?_
            refine mz_ifT q5 ?_
            refine mz_go 3 (c' := (189, [some (.ref 65), some (.int 2), some (.int a0), some (.int (nI I)), some (.int (nI k)), some (.int (((nI WW) - 1) - (nI I))), some (.int (((nI WW) - 1) - (nI k))), some (.int (nI (c I k))), some (.int (nI (c ((WW - 1) - I) ((WW - 1) - k))))], [.int (nI (c ((WW - 1) - I) ((WW - 1) - k))), .ref 73], mz_set (mz_set b 72 r72) 73 r73)) rfl ?_
            refine mz_arr (c' := (190, [some (.ref 65), some (.int 2), some (.int a0), some (.int (nI I)), some (.int (nI k)), some (.int (((nI WW) - 1) - (nI I))), some (.int (((nI WW) - 1) - (nI k))), some (.int (nI (c I k))), some (.int (nI (c ((WW - 1) - I) ((WW - 1) - k))))], [.int (r73 ((nI (c ((WW - 1) - I) ((WW - 1) - k))).toNatClampNeg))], mz_set (mz_set b 72 r72) 73 r73)) rfl (show mz_in (nI (c ((WW - 1) - I) ((WW - 1) - k))) 10 = true from sm_inN rfl (show (c ((WW - 1) - I) ((WW - 1) - k)) < 10 by omega) (by decide)) ?_
            rw [show (nI (c ((WW - 1) - I) ((WW - 1) - k)) : Int32).toNatClampNeg = (c ((WW - 1) - I) ((WW - 1) - k)) from sm_clN rfl (show (c ((WW - 1) - I) ((WW - 1) - k)) < 2 ^ 31 by omega)]
            refine mz_go 1 (c' := (if (r73 (c ((WW - 1) - I) ((WW - 1) - k))) < 0 then 205 else 193, [some (.ref 65), some (.int 2), some (.int a0), some (.int (nI I)), some (.int (nI k)), some (.int (((nI WW) - 1) - (nI I))), some (.int (((nI WW) - 1) - (nI k))), some (.int (nI (c I k))), some (.int (nI (c ((WW - 1) - I) ((WW - 1) - k))))], [], mz_set (mz_set b 72 r72) 73 r73)) rfl ?_
            refine mz_ifT q6 ?_
            refine mz_go 7 (c' := (219, [some (.ref 65), some (.int 2), some (.int 1), some (.int (nI I)), some (.int (nI k)), some (.int (((nI WW) - 1) - (nI I))), some (.int (((nI WW) - 1) - (nI k))), some (.int (nI (c I k))), some (.int (nI (c ((WW - 1) - I) ((WW - 1) - k))))], [.int (nI (c ((WW - 1) - I) ((WW - 1) - k))), .int (nI (c I k)), .ref 72], mz_set (mz_set b 72 r72) 73 r73)) rfl ?_
            refine mz_arr (c' := (220, [some (.ref 65), some (.int 2), some (.int 1), some (.int (nI I)), some (.int (nI k)), some (.int (((nI WW) - 1) - (nI I))), some (.int (((nI WW) - 1) - (nI k))), some (.int (nI (c I k))), some (.int (nI (c ((WW - 1) - I) ((WW - 1) - k))))], [], mz_up (mz_set (mz_set b 72 r72) 73 r73) 72 ((nI (c I k)).toNatClampNeg) (nI (c ((WW - 1) - I) ((WW - 1) - k))))) rfl (show mz_in (nI (c I k)) 10 = true from sm_inN rfl (show (c I k) < 10 by omega) (by decide)) ?_
            rw [show (nI (c I k) : Int32).toNatClampNeg = (c I k) from sm_clN rfl (show (c I k) < 2 ^ 31 by omega)]
            refine mz_go 4 (c' := (228, [some (.ref 65), some (.int 2), some (.int 1), some (.int (nI I)), some (.int (nI k)), some (.int (((nI WW) - 1) - (nI I))), some (.int (((nI WW) - 1) - (nI k))), some (.int (nI (c I k))), some (.int (nI (c ((WW - 1) - I) ((WW - 1) - k))))], [.int (nI (c I k)), .int (nI (c ((WW - 1) - I) ((WW - 1) - k))), .ref 73], mz_up (mz_set (mz_set b 72 r72) 73 r73) 72 (c I k) (nI (c ((WW - 1) - I) ((WW - 1) - k))))) rfl ?_
            refine mz_arr (c' := (229, [some (.ref 65), some (.int 2), some (.int 1), some (.int (nI I)), some (.int (nI k)), some (.int (((nI WW) - 1) - (nI I))), some (.int (((nI WW) - 1) - (nI k))), some (.int (nI (c I k))), some (.int (nI (c ((WW - 1) - I) ((WW - 1) - k))))], [], mz_up (mz_up (mz_set (mz_set b 72 r72) 73 r73) 72 (c I k) (nI (c ((WW - 1) - I) ((WW - 1) - k)))) 73 ((nI (c ((WW - 1) - I) ((WW - 1) - k))).toNatClampNeg) (nI (c I k)))) rfl (show mz_in (nI (c ((WW - 1) - I) ((WW - 1) - k))) 10 = true from sm_inN rfl (show (c ((WW - 1) - I) ((WW - 1) - k)) < 10 by omega) (by decide)) ?_
            rw [show (nI (c ((WW - 1) - I) ((WW - 1) - k)) : Int32).toNatClampNeg = (c ((WW - 1) - I) ((WW - 1) - k)) from sm_clN rfl (show (c ((WW - 1) - I) ((WW - 1) - k)) < 2 ^ 31 by omega)]
            refine mz_go 2 (c' := (88, [some (.ref 65), some (.int 2), some (.int 1), some (.int (nI I)), some (.int ((nI k) + 1)), some (.int (((nI WW) - 1) - (nI I))), some (.int (((nI WW) - 1) - (nI k))), some (.int (nI (c I k))), some (.int (nI (c ((WW - 1) - I) ((WW - 1) - k))))], [], mz_up (mz_up (mz_set (mz_set b 72 r72) 73 r73) 72 (c I k) (nI (c ((WW - 1) - I) ((WW - 1) - k)))) 73 (c ((WW - 1) - I) ((WW - 1) - k)) (nI (c I k)))) rfl ?_
            exact hr
          · by_cases q7 : (r73 (c ((WW - 1) - I) ((WW - 1) - k))) = (nI (c I k))
            · have hm : mz_up (mz_up (mz_set (mz_set b 72 r72) 73 r73) 72 (c I k) (nI (c ((WW - 1) - I) ((WW - 1) - k)))) 73 (c ((WW - 1) - I) ((WW - 1) - k)) (nI (c I k)) = mz_set (mz_set b 72 ((mz_up (mz_up (mz_set (mz_set b 72 r72) 73 r73) 72 (c I k) (nI (c ((WW - 1) - I) ((WW - 1) - k)))) 73 (c ((WW - 1) - I) ((WW - 1) - k)) (nI (c I k))) 72)) 73 ((mz_up (mz_up (mz_set (mz_set b 72 r72) 73 r73) 72 (c I k) (nI (c ((WW - 1) - I) ((WW - 1) - k)))) 73 (c ((WW - 1) - I) ((WW - 1) - k)) (nI (c I k))) 73) := sm_of2 (fun i h1 h2 => by simp only [mz_set_ne h1, mz_set_ne h2, mz_up_ne h1, mz_up_ne h2])
              obtain ⟨b0, p0, p1, p2, p3, s72, s73, hin2, Er⟩ := ih (k + 1) (by omega) 1 (some (.int (((nI WW) - 1) - (nI I)))) (some (.int (((nI WW) - 1) - (nI k)))) (some (.int (nI (c I k)))) (some (.int (nI (c ((WW - 1) - I) ((WW - 1) - k))))) ((mz_up (mz_up (mz_set (mz_set b 72 r72) 73 r73) 72 (c I k) (nI (c ((WW - 1) - I) ((WW - 1) - k)))) 73 (c ((WW - 1) - I) ((WW - 1) - k)) (nI (c I k))) 72) ((mz_up (mz_up (mz_set (mz_set b 72 r72) 73 r73) 72 (c I k) (nI (c ((WW - 1) - I) ((WW - 1) - k)))) 73 (c ((WW - 1) - I) ((WW - 1) - k)) (nI (c I k))) 73) (vq_tuD h9 hI (by omega) hin q1 (Or.inr q5) (Or.inr q7) (fun v => by rw [mz_up_ne (show (72 : Nat) ≠ 73 by decide), mz_up_eq, mz_set_ne (show (72 : Nat) ≠ 73 by decide), mz_set_eq]; rfl) (fun v => by rw [mz_up_eq, mz_up_ne (show (73 : Nat) ≠ 72 by decide), mz_set_eq]; rfl))
              refine ⟨b0, p0, p1, p2, p3, s72, s73, hin2, fun r hr0 => ?_⟩
              have hr := Er r hr0
              rw [nI_succ k, ← hm] at hr
              refine mz_go 2 (c' := (91, [some (.ref 65), some (.int 2), some (.int a0), some (.int (nI I)), some (.int (nI k)), o0, o1, o2, o3], [.ref 65, .int (nI k)], mz_set (mz_set b 72 r72) 73 r73)) rfl ?_
              refine mz_doQ (R := mz_r183) (as := [.ref 65]) (rest := [.int (nI k)]) (r1 := some (.int (nI WW))) (m1 := mz_set (mz_set b 72 r72) 73 r73) mz_t183 mz_v183_65 rfl rfl rfl rfl rfl ⟨?_, rfl⟩ ?_
              · refine mz_go 4 (c' := (7, [some (.ref 65)], [.int (b 66 60)], mz_set (mz_set b 72 r72) 73 r73)) rfl ?_
                rw [h6660]
                exact mz_ret rfl
              refine mz_go 1 (c' := (if (nI WW) ≤ (nI k) then 235 else 97, [some (.ref 65), some (.int 2), some (.int a0), some (.int (nI I)), some (.int (nI k)), o0, o1, o2, o3], [], mz_set (mz_set b 72 r72) 73 r73)) rfl ?_
              refine mz_ifF (show ¬ ((nI WW) ≤ (nI k)) from (sm_nleN rfl rfl (show k < WW by omega) (show WW < 2 ^ 31 by omega))) ?_
              refine mz_go 12 (c' := (118, [some (.ref 65), some (.int 2), some (.int a0), some (.int (nI I)), some (.int (nI k)), some (.int (nI I)), some (.int (nI k)), some (.int 0), some (.int (nI I))], [.ref 65], mz_set (mz_set b 72 r72) 73 r73)) rfl ?_
              refine mz_doQ (R := mz_r183) (as := [.ref 65]) (rest := []) (r1 := some (.int (nI WW))) (m1 := mz_set (mz_set b 72 r72) 73 r73) mz_t183 mz_v183_65 rfl rfl rfl rfl rfl ⟨?_, rfl⟩ ?_
              · refine mz_go 4 (c' := (7, [some (.ref 65)], [.int (b 66 60)], mz_set (mz_set b 72 r72) 73 r73)) rfl ?_
                rw [h6660]
                exact mz_ret rfl
              refine mz_go 15 (c' := (118, [some (.ref 65), some (.int 2), some (.int a0), some (.int (nI I)), some (.int (nI k)), some (.int (((nI WW) - 1) - (nI k))), some (.int (nI I)), some (.int 1), some (.int (((nI WW) - 1) - (nI k)))], [.ref 65], mz_set (mz_set b 72 r72) 73 r73)) rfl ?_
              refine mz_doQ (R := mz_r183) (as := [.ref 65]) (rest := []) (r1 := some (.int (nI WW))) (m1 := mz_set (mz_set b 72 r72) 73 r73) mz_t183 mz_v183_65 rfl rfl rfl rfl rfl ⟨?_, rfl⟩ ?_
              · refine mz_go 4 (c' := (7, [some (.ref 65)], [.int (b 66 60)], mz_set (mz_set b 72 r72) 73 r73)) rfl ?_
                rw [h6660]
                exact mz_ret rfl
              refine mz_go 15 (c' := (142, [some (.ref 65), some (.int 2), some (.int a0), some (.int (nI I)), some (.int (nI k)), some (.int (((nI WW) - 1) - (nI I))), some (.int (((nI WW) - 1) - (nI k))), some (.int 2), some (.int (((nI WW) - 1) - (nI k)))], [.int (nI k), .int (nI I), .ref 65], mz_set (mz_set b 72 r72) 73 r73)) rfl ?_
              refine mz_doQ (R := mz_r186) (as := [.ref 65, .int (nI I), .int (nI k)]) (rest := []) (r1 := some (.int (nI (c I k)))) (m1 := mz_set (mz_set b 72 r72) 73 r73) mz_t186 mz_v186_65 rfl rfl rfl rfl rfl (Ez1.deep (by decide)) ?_
              refine mz_go 4 (c' := (152, [some (.ref 65), some (.int 2), some (.int a0), some (.int (nI I)), some (.int (nI k)), some (.int (((nI WW) - 1) - (nI I))), some (.int (((nI WW) - 1) - (nI k))), some (.int (nI (c I k))), some (.int (((nI WW) - 1) - (nI k)))], [.int (((nI WW) - 1) - (nI k)), .int (((nI WW) - 1) - (nI I)), .ref 65], mz_set (mz_set b 72 r72) 73 r73)) rfl ?_
              refine mz_doQ (R := mz_r186) (as := [.ref 65, .int (((nI WW) - 1) - (nI I)), .int (((nI WW) - 1) - (nI k))]) (rest := []) (r1 := some (.int (nI (c ((WW - 1) - I) ((WW - 1) - k))))) (m1 := mz_set (mz_set b 72 r72) 73 r73) mz_t186 mz_v186_65 rfl rfl rfl rfl rfl (Ez2.deep (by decide)) ?_
              refine mz_go 3 (c' := (if a0 = 0 then 209 else 161, [some (.ref 65), some (.int 2), some (.int a0), some (.int (nI I)), some (.int (nI k)), some (.int (((nI WW) - 1) - (nI I))), some (.int (((nI WW) - 1) - (nI k))), some (.int (nI (c I k))), some (.int (nI (c ((WW - 1) - I) ((WW - 1) - k))))], [], mz_set (mz_set b 72 r72) 73 r73)) rfl ?_
              refine mz_ifF q1 ?_
              refine mz_go 3 (c' := (167, [some (.ref 65), some (.int 2), some (.int a0), some (.int (nI I)), some (.int (nI k)), some (.int (((nI WW) - 1) - (nI I))), some (.int (((nI WW) - 1) - (nI k))), some (.int (nI (c I k))), some (.int (nI (c ((WW - 1) - I) ((WW - 1) - k))))], [.int (nI (c I k)), .ref 72], mz_set (mz_set b 72 r72) 73 r73)) rfl ?_
              refine mz_arr (c' := (168, [some (.ref 65), some (.int 2), some (.int a0), some (.int (nI I)), some (.int (nI k)), some (.int (((nI WW) - 1) - (nI I))), some (.int (((nI WW) - 1) - (nI k))), some (.int (nI (c I k))), some (.int (nI (c ((WW - 1) - I) ((WW - 1) - k))))], [.int (r72 ((nI (c I k)).toNatClampNeg))], mz_set (mz_set b 72 r72) 73 r73)) rfl (show mz_in (nI (c I k)) 10 = true from sm_inN rfl (show (c I k) < 10 by omega) (by decide)) ?_
              rw [show (nI (c I k) : Int32).toNatClampNeg = (c I k) from sm_clN rfl (show (c I k) < 2 ^ 31 by omega)]
              refine mz_go 1 (c' := (if (r72 (c I k)) < 0 then 183 else 171, [some (.ref 65), some (.int 2), some (.int a0), some (.int (nI I)), some (.int (nI k)), some (.int (((nI WW) - 1) - (nI I))), some (.int (((nI WW) - 1) - (nI k))), some (.int (nI (c I k))), some (.int (nI (c ((WW - 1) - I) ((WW - 1) - k))))], [], mz_set (mz_set b 72 r72) 73 r73)) rfl ?_
              refine mz_ifF q2 ?_
              refine mz_go 3 (c' := (177, [some (.ref 65), some (.int 2), some (.int a0), some (.int (nI I)), some (.int (nI k)), some (.int (((nI WW) - 1) - (nI I))), some (.int (((nI WW) - 1) - (nI k))), some (.int (nI (c I k))), some (.int (nI (c ((WW - 1) - I) ((WW - 1) - k))))], [.int (nI (c I k)), .ref 72], mz_set (mz_set b 72 r72) 73 r73)) rfl ?_
              refine mz_arr (c' := (178, [some (.ref 65), some (.int 2), some (.int a0), some (.int (nI I)), some (.int (nI k)), some (.int (((nI WW) - 1) - (nI I))), some (.int (((nI WW) - 1) - (nI k))), some (.int (nI (c I k))), some (.int (nI (c ((WW - 1) - I) ((WW - 1) - k))))], [.int (r72 ((nI (c I k)).toNatClampNeg))], mz_set (mz_set b 72 r72) 73 r73)) rfl (show mz_in (nI (c I k)) 10 = true from sm_inN rfl (show (c I k) < 10 by omega) (by decide)) ?_
              rw [show (nI (c I k) : Int32).toNatClampNeg = (c I k) from sm_clN rfl (show (c I k) < 2 ^ 31 by omega)]
              refine mz_go 2 (c' := (if (r72 (c I k)) = (nI (c ((WW - 1) - I) ((WW - 1) - k))) then 183 else 209, [some (.ref 65), some (.int 2), some (.int a0), some (.int (nI I)), some (.int (nI k)), some (.int (((nI WW) - 1) - (nI I))), some (.int (((nI WW) - 1) - (nI k))), some (.int (nI (c I k))), some (.int (nI (c ((WW - 1) - I) ((WW - 1) - k))))], [], mz_set (mz_set b 72 r72) 73 r73)) rfl ?_
              refine mz_ifT q5 ?_
              refine mz_go 3 (c' := (189, [some (.ref 65), some (.int 2), some (.int a0), some (.int (nI I)), some (.int (nI k)), some (.int (((nI WW) - 1) - (nI I))), some (.int (((nI WW) - 1) - (nI k))), some (.int (nI (c I k))), some (.int (nI (c ((WW - 1) - I) ((WW - 1) - k))))], [.int (nI (c ((WW - 1) - I) ((WW - 1) - k))), .ref 73], mz_set (mz_set b 72 r72) 73 r73)) rfl ?_
              refine mz_arr (c' := (190, [some (.ref 65), some (.int 2), some (.int a0), some (.int (nI I)), some (.int (nI k)), some (.int (((nI WW) - 1) - (nI I))), some (.int (((nI WW) - 1) - (nI k))), some (.int (nI (c I k))), some (.int (nI (c ((WW - 1) - I) ((WW - 1) - k))))], [.int (r73 ((nI (c ((WW - 1) - I) ((WW - 1) - k))).toNatClampNeg))], mz_set (mz_set b 72 r72) 73 r73)) rfl (show mz_in (nI (c ((WW - 1) - I) ((WW - 1) - k))) 10 = true from sm_inN rfl (show (c ((WW - 1) - I) ((WW - 1) - k)) < 10 by omega) (by decide)) ?_
              rw [show (nI (c ((WW - 1) - I) ((WW - 1) - k)) : Int32).toNatClampNeg = (c ((WW - 1) - I) ((WW - 1) - k)) from sm_clN rfl (show (c ((WW - 1) - I) ((WW - 1) - k)) < 2 ^ 31 by omega)]
              refine mz_go 1 (c' := (if (r73 (c ((WW - 1) - I) ((WW - 1) - k))) < 0 then 205 else 193, [some (.ref 65), some (.int 2), some (.int a0), some (.int (nI I)), some (.int (nI k)), some (.int (((nI WW) - 1) - (nI I))), some (.int (((nI WW) - 1) - (nI k))), some (.int (nI (c I k))), some (.int (nI (c ((WW - 1) - I) ((WW - 1) - k))))], [], mz_set (mz_set b 72 r72) 73 r73)) rfl ?_
              refine mz_ifF q6 ?_
              refine mz_go 3 (c' := (199, [some (.ref 65), some (.int 2), some (.int a0), some (.int (nI I)), some (.int (nI k)), some (.int (((nI WW) - 1) - (nI I))), some (.int (((nI WW) - 1) - (nI k))), some (.int (nI (c I k))), some (.int (nI (c ((WW - 1) - I) ((WW - 1) - k))))], [.int (nI (c ((WW - 1) - I) ((WW - 1) - k))), .ref 73], mz_set (mz_set b 72 r72) 73 r73)) rfl ?_
              refine mz_arr (c' := (200, [some (.ref 65), some (.int 2), some (.int a0), some (.int (nI I)), some (.int (nI k)), some (.int (((nI WW) - 1) - (nI I))), some (.int (((nI WW) - 1) - (nI k))), some (.int (nI (c I k))), some (.int (nI (c ((WW - 1) - I) ((WW - 1) - k))))], [.int (r73 ((nI (c ((WW - 1) - I) ((WW - 1) - k))).toNatClampNeg))], mz_set (mz_set b 72 r72) 73 r73)) rfl (show mz_in (nI (c ((WW - 1) - I) ((WW - 1) - k))) 10 = true from sm_inN rfl (show (c ((WW - 1) - I) ((WW - 1) - k)) < 10 by omega) (by decide)) ?_
              rw [show (nI (c ((WW - 1) - I) ((WW - 1) - k)) : Int32).toNatClampNeg = (c ((WW - 1) - I) ((WW - 1) - k)) from sm_clN rfl (show (c ((WW - 1) - I) ((WW - 1) - k)) < 2 ^ 31 by omega)]
              refine mz_go 2 (c' := (if (r73 (c ((WW - 1) - I) ((WW - 1) - k))) = (nI (c I k)) then 205 else 209, [some (.ref 65), some (.int 2), some (.int a0), some (.int (nI I)), some (.int (nI k)), some (.int (((nI WW) - 1) - (nI I))), some (.int (((nI WW) - 1) - (nI k))), some (.int (nI (c I k))), some (.int (nI (c ((WW - 1) - I) ((WW - 1) - k))))], [], mz_set (mz_set b 72 r72) 73 r73)) rfl ?_
              refine mz_ifT q7 ?_
              refine mz_go 7 (c' := (219, [some (.ref 65), some (.int 2), some (.int 1), some (.int (nI I)), some (.int (nI k)), some (.int (((nI WW) - 1) - (nI I))), some (.int (((nI WW) - 1) - (nI k))), some (.int (nI (c I k))), some (.int (nI (c ((WW - 1) - I) ((WW - 1) - k))))], [.int (nI (c ((WW - 1) - I) ((WW - 1) - k))), .int (nI (c I k)), .ref 72], mz_set (mz_set b 72 r72) 73 r73)) rfl ?_
              refine mz_arr (c' := (220, [some (.ref 65), some (.int 2), some (.int 1), some (.int (nI I)), some (.int (nI k)), some (.int (((nI WW) - 1) - (nI I))), some (.int (((nI WW) - 1) - (nI k))), some (.int (nI (c I k))), some (.int (nI (c ((WW - 1) - I) ((WW - 1) - k))))], [], mz_up (mz_set (mz_set b 72 r72) 73 r73) 72 ((nI (c I k)).toNatClampNeg) (nI (c ((WW - 1) - I) ((WW - 1) - k))))) rfl (show mz_in (nI (c I k)) 10 = true from sm_inN rfl (show (c I k) < 10 by omega) (by decide)) ?_
              rw [show (nI (c I k) : Int32).toNatClampNeg = (c I k) from sm_clN rfl (show (c I k) < 2 ^ 31 by omega)]
              refine mz_go 4 (c' := (228, [some (.ref 65), some (.int 2), some (.int 1), some (.int (nI I)), some (.int (nI k)), some (.int (((nI WW) - 1) - (nI I))), some (.int (((nI WW) - 1) - (nI k))), some (.int (nI (c I k))), some (.int (nI (c ((WW - 1) - I) ((WW - 1) - k))))], [.int (nI (c I k)), .int (nI (c ((WW - 1) - I) ((WW - 1) - k))), .ref 73], mz_up (mz_set (mz_set b 72 r72) 73 r73) 72 (c I k) (nI (c ((WW - 1) - I) ((WW - 1) - k))))) rfl ?_
              refine mz_arr (c' := (229, [some (.ref 65), some (.int 2), some (.int 1), some (.int (nI I)), some (.int (nI k)), some (.int (((nI WW) - 1) - (nI I))), some (.int (((nI WW) - 1) - (nI k))), some (.int (nI (c I k))), some (.int (nI (c ((WW - 1) - I) ((WW - 1) - k))))], [], mz_up (mz_up (mz_set (mz_set b 72 r72) 73 r73) 72 (c I k) (nI (c ((WW - 1) - I) ((WW - 1) - k)))) 73 ((nI (c ((WW - 1) - I) ((WW - 1) - k))).toNatClampNeg) (nI (c I k)))) rfl (show mz_in (nI (c ((WW - 1) - I) ((WW - 1) - k))) 10 = true from sm_inN rfl (show (c ((WW - 1) - I) ((WW - 1) - k)) < 10 by omega) (by decide)) ?_
              rw [show (nI (c ((WW - 1) - I) ((WW - 1) - k)) : Int32).toNatClampNeg = (c ((WW - 1) - I) ((WW - 1) - k)) from sm_clN rfl (show (c ((WW - 1) - I) ((WW - 1) - k)) < 2 ^ 31 by omega)]
              refine mz_go 2 (c' := (88, [some (.ref 65), some (.int 2), some (.int 1), some (.int (nI I)), some (.int ((nI k) + 1)), some (.int (((nI WW) - 1) - (nI I))), some (.int (((nI WW) - 1) - (nI k))), some (.int (nI (c I k))), some (.int (nI (c ((WW - 1) - I) ((WW - 1) - k))))], [], mz_up (mz_up (mz_set (mz_set b 72 r72) 73 r73) 72 (c I k) (nI (c ((WW - 1) - I) ((WW - 1) - k)))) 73 (c ((WW - 1) - I) ((WW - 1) - k)) (nI (c I k)))) rfl ?_
              exact hr
            · have hm : mz_up (mz_up (mz_set (mz_set b 72 r72) 73 r73) 72 (c I k) (nI (c ((WW - 1) - I) ((WW - 1) - k)))) 73 (c ((WW - 1) - I) ((WW - 1) - k)) (nI (c I k)) = mz_set (mz_set b 72 ((mz_up (mz_up (mz_set (mz_set b 72 r72) 73 r73) 72 (c I k) (nI (c ((WW - 1) - I) ((WW - 1) - k)))) 73 (c ((WW - 1) - I) ((WW - 1) - k)) (nI (c I k))) 72)) 73 ((mz_up (mz_up (mz_set (mz_set b 72 r72) 73 r73) 72 (c I k) (nI (c ((WW - 1) - I) ((WW - 1) - k)))) 73 (c ((WW - 1) - I) ((WW - 1) - k)) (nI (c I k))) 73) := sm_of2 (fun i h1 h2 => by simp only [mz_set_ne h1, mz_set_ne h2, mz_up_ne h1, mz_up_ne h2])
              obtain ⟨b0, p0, p1, p2, p3, s72, s73, hin2, Er⟩ := ih (k + 1) (by omega) 0 (some (.int (((nI WW) - 1) - (nI I)))) (some (.int (((nI WW) - 1) - (nI k)))) (some (.int (nI (c I k)))) (some (.int (nI (c ((WW - 1) - I) ((WW - 1) - k))))) ((mz_up (mz_up (mz_set (mz_set b 72 r72) 73 r73) 72 (c I k) (nI (c ((WW - 1) - I) ((WW - 1) - k)))) 73 (c ((WW - 1) - I) ((WW - 1) - k)) (nI (c I k))) 72) ((mz_up (mz_up (mz_set (mz_set b 72 r72) 73 r73) 72 (c I k) (nI (c ((WW - 1) - I) ((WW - 1) - k)))) 73 (c ((WW - 1) - I) ((WW - 1) - k)) (nI (c I k))) 73) (vq_tuC h9 hI (by omega) hin q1 q6 q7)
              refine ⟨b0, p0, p1, p2, p3, s72, s73, hin2, fun r hr0 => ?_⟩
              have hr := Er r hr0
              rw [nI_succ k, ← hm] at hr
              refine mz_go 2 (c' := (91, [some (.ref 65), some (.int 2), some (.int a0), some (.int (nI I)), some (.int (nI k)), o0, o1, o2, o3], [.ref 65, .int (nI k)], mz_set (mz_set b 72 r72) 73 r73)) rfl ?_
              refine mz_doQ (R := mz_r183) (as := [.ref 65]) (rest := [.int (nI k)]) (r1 := some (.int (nI WW))) (m1 := mz_set (mz_set b 72 r72) 73 r73) mz_t183 mz_v183_65 rfl rfl rfl rfl rfl ⟨?_, rfl⟩ ?_
              · refine mz_go 4 (c' := (7, [some (.ref 65)], [.int (b 66 60)], mz_set (mz_set b 72 r72) 73 r73)) rfl ?_
                rw [h6660]
                exact mz_ret rfl
              refine mz_go 1 (c' := (if (nI WW) ≤ (nI k) then 235 else 97, [some (.ref 65), some (.int 2), some (.int a0), some (.int (nI I)), some (.int (nI k)), o0, o1, o2, o3], [], mz_set (mz_set b 72 r72) 73 r73)) rfl ?_
              refine mz_ifF (show ¬ ((nI WW) ≤ (nI k)) from (sm_nleN rfl rfl (show k < WW by omega) (show WW < 2 ^ 31 by omega))) ?_
              refine mz_go 12 (c' := (118, [some (.ref 65), some (.int 2), some (.int a0), some (.int (nI I)), some (.int (nI k)), some (.int (nI I)), some (.int (nI k)), some (.int 0), some (.int (nI I))], [.ref 65], mz_set (mz_set b 72 r72) 73 r73)) rfl ?_
              refine mz_doQ (R := mz_r183) (as := [.ref 65]) (rest := []) (r1 := some (.int (nI WW))) (m1 := mz_set (mz_set b 72 r72) 73 r73) mz_t183 mz_v183_65 rfl rfl rfl rfl rfl ⟨?_, rfl⟩ ?_
              · refine mz_go 4 (c' := (7, [some (.ref 65)], [.int (b 66 60)], mz_set (mz_set b 72 r72) 73 r73)) rfl ?_
                rw [h6660]
                exact mz_ret rfl
              refine mz_go 15 (c' := (118, [some (.ref 65), some (.int 2), some (.int a0), some (.int (nI I)), some (.int (nI k)), some (.int (((nI WW) - 1) - (nI k))), some (.int (nI I)), some (.int 1), some (.int (((nI WW) - 1) - (nI k)))], [.ref 65], mz_set (mz_set b 72 r72) 73 r73)) rfl ?_
              refine mz_doQ (R := mz_r183) (as := [.ref 65]) (rest := []) (r1 := some (.int (nI WW))) (m1 := mz_set (mz_set b 72 r72) 73 r73) mz_t183 mz_v183_65 rfl rfl rfl rfl rfl ⟨?_, rfl⟩ ?_
              · refine mz_go 4 (c' := (7, [some (.ref 65)], [.int (b 66 60)], mz_set (mz_set b 72 r72) 73 r73)) rfl ?_
                rw [h6660]
                exact mz_ret rfl
              refine mz_go 15 (c' := (142, [some (.ref 65), some (.int 2), some (.int a0), some (.int (nI I)), some (.int (nI k)), some (.int (((nI WW) - 1) - (nI I))), some (.int (((nI WW) - 1) - (nI k))), some (.int 2), some (.int (((nI WW) - 1) - (nI k)))], [.int (nI k), .int (nI I), .ref 65], mz_set (mz_set b 72 r72) 73 r73)) rfl ?_
              refine mz_doQ (R := mz_r186) (as := [.ref 65, .int (nI I), .int (nI k)]) (rest := []) (r1 := some (.int (nI (c I k)))) (m1 := mz_set (mz_set b 72 r72) 73 r73) mz_t186 mz_v186_65 rfl rfl rfl rfl rfl (Ez1.deep (by decide)) ?_
              refine mz_go 4 (c' := (152, [some (.ref 65), some (.int 2), some (.int a0), some (.int (nI I)), some (.int (nI k)), some (.int (((nI WW) - 1) - (nI I))), some (.int (((nI WW) - 1) - (nI k))), some (.int (nI (c I k))), some (.int (((nI WW) - 1) - (nI k)))], [.int (((nI WW) - 1) - (nI k)), .int (((nI WW) - 1) - (nI I)), .ref 65], mz_set (mz_set b 72 r72) 73 r73)) rfl ?_
              refine mz_doQ (R := mz_r186) (as := [.ref 65, .int (((nI WW) - 1) - (nI I)), .int (((nI WW) - 1) - (nI k))]) (rest := []) (r1 := some (.int (nI (c ((WW - 1) - I) ((WW - 1) - k))))) (m1 := mz_set (mz_set b 72 r72) 73 r73) mz_t186 mz_v186_65 rfl rfl rfl rfl rfl (Ez2.deep (by decide)) ?_
              refine mz_go 3 (c' := (if a0 = 0 then 209 else 161, [some (.ref 65), some (.int 2), some (.int a0), some (.int (nI I)), some (.int (nI k)), some (.int (((nI WW) - 1) - (nI I))), some (.int (((nI WW) - 1) - (nI k))), some (.int (nI (c I k))), some (.int (nI (c ((WW - 1) - I) ((WW - 1) - k))))], [], mz_set (mz_set b 72 r72) 73 r73)) rfl ?_
              refine mz_ifF q1 ?_
              refine mz_go 3 (c' := (167, [some (.ref 65), some (.int 2), some (.int a0), some (.int (nI I)), some (.int (nI k)), some (.int (((nI WW) - 1) - (nI I))), some (.int (((nI WW) - 1) - (nI k))), some (.int (nI (c I k))), some (.int (nI (c ((WW - 1) - I) ((WW - 1) - k))))], [.int (nI (c I k)), .ref 72], mz_set (mz_set b 72 r72) 73 r73)) rfl ?_
              refine mz_arr (c' := (168, [some (.ref 65), some (.int 2), some (.int a0), some (.int (nI I)), some (.int (nI k)), some (.int (((nI WW) - 1) - (nI I))), some (.int (((nI WW) - 1) - (nI k))), some (.int (nI (c I k))), some (.int (nI (c ((WW - 1) - I) ((WW - 1) - k))))], [.int (r72 ((nI (c I k)).toNatClampNeg))], mz_set (mz_set b 72 r72) 73 r73)) rfl (show mz_in (nI (c I k)) 10 = true from sm_inN rfl (show (c I k) < 10 by omega) (by decide)) ?_
              rw [show (nI (c I k) : Int32).toNatClampNeg = (c I k) from sm_clN rfl (show (c I k) < 2 ^ 31 by omega)]
              refine mz_go 1 (c' := (if (r72 (c I k)) < 0 then 183 else 171, [some (.ref 65), some (.int 2), some (.int a0), some (.int (nI I)), some (.int (nI k)), some (.int (((nI WW) - 1) - (nI I))), some (.int (((nI WW) - 1) - (nI k))), some (.int (nI (c I k))), some (.int (nI (c ((WW - 1) - I) ((WW - 1) - k))))], [], mz_set (mz_set b 72 r72) 73 r73)) rfl ?_
              refine mz_ifF q2 ?_
              refine mz_go 3 (c' := (177, [some (.ref 65), some (.int 2), some (.int a0), some (.int (nI I)), some (.int (nI k)), some (.int (((nI WW) - 1) - (nI I))), some (.int (((nI WW) - 1) - (nI k))), some (.int (nI (c I k))), some (.int (nI (c ((WW - 1) - I) ((WW - 1) - k))))], [.int (nI (c I k)), .ref 72], mz_set (mz_set b 72 r72) 73 r73)) rfl ?_
              refine mz_arr (c' := (178, [some (.ref 65), some (.int 2), some (.int a0), some (.int (nI I)), some (.int (nI k)), some (.int (((nI WW) - 1) - (nI I))), some (.int (((nI WW) - 1) - (nI k))), some (.int (nI (c I k))), some (.int (nI (c ((WW - 1) - I) ((WW - 1) - k))))], [.int (r72 ((nI (c I k)).toNatClampNeg))], mz_set (mz_set b 72 r72) 73 r73)) rfl (show mz_in (nI (c I k)) 10 = true from sm_inN rfl (show (c I k) < 10 by omega) (by decide)) ?_
              rw [show (nI (c I k) : Int32).toNatClampNeg = (c I k) from sm_clN rfl (show (c I k) < 2 ^ 31 by omega)]
              refine mz_go 2 (c' := (if (r72 (c I k)) = (nI (c ((WW - 1) - I) ((WW - 1) - k))) then 183 else 209, [some (.ref 65), some (.int 2), some (.int a0), some (.int (nI I)), some (.int (nI k)), some (.int (((nI WW) - 1) - (nI I))), some (.int (((nI WW) - 1) - (nI k))), some (.int (nI (c I k))), some (.int (nI (c ((WW - 1) - I) ((WW - 1) - k))))], [], mz_set (mz_set b 72 r72) 73 r73)) rfl ?_
              refine mz_ifT q5 ?_
              refine mz_go 3 (c' := (189, [some (.ref 65), some (.int 2), some (.int a0), some (.int (nI I)), some (.int (nI k)), some (.int (((nI WW) - 1) - (nI I))), some (.int (((nI WW) - 1) - (nI k))), some (.int (nI (c I k))), some (.int (nI (c ((WW - 1) - I) ((WW - 1) - k))))], [.int (nI (c ((WW - 1) - I) ((WW - 1) - k))), .ref 73], mz_set (mz_set b 72 r72) 73 r73)) rfl ?_
              refine mz_arr (c' := (190, [some (.ref 65), some (.int 2), some (.int a0), some (.int (nI I)), some (.int (nI k)), some (.int (((nI WW) - 1) - (nI I))), some (.int (((nI WW) - 1) - (nI k))), some (.int (nI (c I k))), some (.int (nI (c ((WW - 1) - I) ((WW - 1) - k))))], [.int (r73 ((nI (c ((WW - 1) - I) ((WW - 1) - k))).toNatClampNeg))], mz_set (mz_set b 72 r72) 73 r73)) rfl (show mz_in (nI (c ((WW - 1) - I) ((WW - 1) - k))) 10 = true from sm_inN rfl (show (c ((WW - 1) - I) ((WW - 1) - k)) < 10 by omega) (by decide)) ?_
              rw [show (nI (c ((WW - 1) - I) ((WW - 1) - k)) : Int32).toNatClampNeg = (c ((WW - 1) - I) ((WW - 1) - k)) from sm_clN rfl (show (c ((WW - 1) - I) ((WW - 1) - k)) < 2 ^ 31 by omega)]
              refine mz_go 1 (c' := (if (r73 (c ((WW - 1) - I) ((WW - 1) - k))) < 0 then 205 else 193, [some (.ref 65), some (.int 2), some (.int a0), some (.int (nI I)), some (.int (nI k)), some (.int (((nI WW) - 1) - (nI I))), some (.int (((nI WW) - 1) - (nI k))), some (.int (nI (c I k))), some (.int (nI (c ((WW - 1) - I) ((WW - 1) - k))))], [], mz_set (mz_set b 72 r72) 73 r73)) rfl ?_
              refine mz_ifF q6 ?_
              refine mz_go 3 (c' := (199, [some (.ref 65), some (.int 2), some (.int a0), some (.int (nI I)), some (.int (nI k)), some (.int (((nI WW) - 1) - (nI I))), some (.int (((nI WW) - 1) - (nI k))), some (.int (nI (c I k))), some (.int (nI (c ((WW - 1) - I) ((WW - 1) - k))))], [.int (nI (c ((WW - 1) - I) ((WW - 1) - k))), .ref 73], mz_set (mz_set b 72 r72) 73 r73)) rfl ?_
              refine mz_arr (c' := (200, [some (.ref 65), some (.int 2), some (.int a0), some (.int (nI I)), some (.int (nI k)), some (.int (((nI WW) - 1) - (nI I))), some (.int (((nI WW) - 1) - (nI k))), some (.int (nI (c I k))), some (.int (nI (c ((WW - 1) - I) ((WW - 1) - k))))], [.int (r73 ((nI (c ((WW - 1) - I) ((WW - 1) - k))).toNatClampNeg))], mz_set (mz_set b 72 r72) 73 r73)) rfl (show mz_in (nI (c ((WW - 1) - I) ((WW - 1) - k))) 10 = true from sm_inN rfl (show (c ((WW - 1) - I) ((WW - 1) - k)) < 10 by omega) (by decide)) ?_
              rw [show (nI (c ((WW - 1) - I) ((WW - 1) - k)) : Int32).toNatClampNeg = (c ((WW - 1) - I) ((WW - 1) - k)) from sm_clN rfl (show (c ((WW - 1) - I) ((WW - 1) - k)) < 2 ^ 31 by omega)]
              refine mz_go 2 (c' := (if (r73 (c ((WW - 1) - I) ((WW - 1) - k))) = (nI (c I k)) then 205 else 209, [some (.ref 65), some (.int 2), some (.int a0), some (.int (nI I)), some (.int (nI k)), some (.int (((nI WW) - 1) - (nI I))), some (.int (((nI WW) - 1) - (nI k))), some (.int (nI (c I k))), some (.int (nI (c ((WW - 1) - I) ((WW - 1) - k))))], [], mz_set (mz_set b 72 r72) 73 r73)) rfl ?_
              refine mz_ifF q7 ?_
              refine mz_go 6 (c' := (219, [some (.ref 65), some (.int 2), some (.int 0), some (.int (nI I)), some (.int (nI k)), some (.int (((nI WW) - 1) - (nI I))), some (.int (((nI WW) - 1) - (nI k))), some (.int (nI (c I k))), some (.int (nI (c ((WW - 1) - I) ((WW - 1) - k))))], [.int (nI (c ((WW - 1) - I) ((WW - 1) - k))), .int (nI (c I k)), .ref 72], mz_set (mz_set b 72 r72) 73 r73)) rfl ?_
              refine mz_arr (c' := (220, [some (.ref 65), some (.int 2), some (.int 0), some (.int (nI I)), some (.int (nI k)), some (.int (((nI WW) - 1) - (nI I))), some (.int (((nI WW) - 1) - (nI k))), some (.int (nI (c I k))), some (.int (nI (c ((WW - 1) - I) ((WW - 1) - k))))], [], mz_up (mz_set (mz_set b 72 r72) 73 r73) 72 ((nI (c I k)).toNatClampNeg) (nI (c ((WW - 1) - I) ((WW - 1) - k))))) rfl (show mz_in (nI (c I k)) 10 = true from sm_inN rfl (show (c I k) < 10 by omega) (by decide)) ?_
              rw [show (nI (c I k) : Int32).toNatClampNeg = (c I k) from sm_clN rfl (show (c I k) < 2 ^ 31 by omega)]
              refine mz_go 4 (c' := (228, [some (.ref 65), some (.int 2), some (.int 0), some (.int (nI I)), some (.int (nI k)), some (.int (((nI WW) - 1) - (nI I))), some (.int (((nI WW) - 1) - (nI k))), some (.int (nI (c I k))), some (.int (nI (c ((WW - 1) - I) ((WW - 1) - k))))], [.int (nI (c I k)), .int (nI (c ((WW - 1) - I) ((WW - 1) - k))), .ref 73], mz_up (mz_set (mz_set b 72 r72) 73 r73) 72 (c I k) (nI (c ((WW - 1) - I) ((WW - 1) - k))))) rfl ?_
              refine mz_arr (c' := (229, [some (.ref 65), some (.int 2), some (.int 0), some (.int (nI I)), some (.int (nI k)), some (.int (((nI WW) - 1) - (nI I))), some (.int (((nI WW) - 1) - (nI k))), some (.int (nI (c I k))), some (.int (nI (c ((WW - 1) - I) ((WW - 1) - k))))], [], mz_up (mz_up (mz_set (mz_set b 72 r72) 73 r73) 72 (c I k) (nI (c ((WW - 1) - I) ((WW - 1) - k)))) 73 ((nI (c ((WW - 1) - I) ((WW - 1) - k))).toNatClampNeg) (nI (c I k)))) rfl (show mz_in (nI (c ((WW - 1) - I) ((WW - 1) - k))) 10 = true from sm_inN rfl (show (c ((WW - 1) - I) ((WW - 1) - k)) < 10 by omega) (by decide)) ?_
              rw [show (nI (c ((WW - 1) - I) ((WW - 1) - k)) : Int32).toNatClampNeg = (c ((WW - 1) - I) ((WW - 1) - k)) from sm_clN rfl (show (c ((WW - 1) - I) ((WW - 1) - k)) < 2 ^ 31 by omega)]
              refine mz_go 2 (c' := (88, [some (.ref 65), some (.int 2), some (.int 0), some (.int (nI I)), some (.int ((nI k) + 1)), some (.int (((nI WW) - 1) - (nI I))), some (.int (((nI WW) - 1) - (nI k))), some (.int (nI (c I k))), some (.int (nI (c ((WW - 1) - I) ((WW - 1) - k))))], [], mz_up (mz_up (mz_set (mz_set b 72 r72) 73 r73) 72 (c I k) (nI (c ((WW - 1) - I) ((WW - 1) - k)))) 73 (c ((WW - 1) - I) ((WW - 1) - k)) (nI (c I k)))) rfl ?_
              exact hr
        · have hm : mz_up (mz_up (mz_set (mz_set b 72 r72) 73 r73) 72 (c I k) (nI (c ((WW - 1) - I) ((WW - 1) - k)))) 73 (c ((WW - 1) - I) ((WW - 1) - k)) (nI (c I k)) = mz_set (mz_set b 72 ((mz_up (mz_up (mz_set (mz_set b 72 r72) 73 r73) 72 (c I k) (nI (c ((WW - 1) - I) ((WW - 1) - k)))) 73 (c ((WW - 1) - I) ((WW - 1) - k)) (nI (c I k))) 72)) 73 ((mz_up (mz_up (mz_set (mz_set b 72 r72) 73 r73) 72 (c I k) (nI (c ((WW - 1) - I) ((WW - 1) - k)))) 73 (c ((WW - 1) - I) ((WW - 1) - k)) (nI (c I k))) 73) := sm_of2 (fun i h1 h2 => by simp only [mz_set_ne h1, mz_set_ne h2, mz_up_ne h1, mz_up_ne h2])
          obtain ⟨b0, p0, p1, p2, p3, s72, s73, hin2, Er⟩ := ih (k + 1) (by omega) 0 (some (.int (((nI WW) - 1) - (nI I)))) (some (.int (((nI WW) - 1) - (nI k)))) (some (.int (nI (c I k)))) (some (.int (nI (c ((WW - 1) - I) ((WW - 1) - k))))) ((mz_up (mz_up (mz_set (mz_set b 72 r72) 73 r73) 72 (c I k) (nI (c ((WW - 1) - I) ((WW - 1) - k)))) 73 (c ((WW - 1) - I) ((WW - 1) - k)) (nI (c I k))) 72) ((mz_up (mz_up (mz_set (mz_set b 72 r72) 73 r73) 72 (c I k) (nI (c ((WW - 1) - I) ((WW - 1) - k)))) 73 (c ((WW - 1) - I) ((WW - 1) - k)) (nI (c I k))) 73) (vq_tuB h9 hI (by omega) hin q1 q2 q5)
          refine ⟨b0, p0, p1, p2, p3, s72, s73, hin2, fun r hr0 => ?_⟩
          have hr := Er r hr0
          rw [nI_succ k, ← hm] at hr
          refine mz_go 2 (c' := (91, [some (.ref 65), some (.int 2), some (.int a0), some (.int (nI I)), some (.int (nI k)), o0, o1, o2, o3], [.ref 65, .int (nI k)], mz_set (mz_set b 72 r72) 73 r73)) rfl ?_
          refine mz_doQ (R := mz_r183) (as := [.ref 65]) (rest := [.int (nI k)]) (r1 := some (.int (nI WW))) (m1 := mz_set (mz_set b 72 r72) 73 r73) mz_t183 mz_v183_65 rfl rfl rfl rfl rfl ⟨?_, rfl⟩ ?_
          · refine mz_go 4 (c' := (7, [some (.ref 65)], [.int (b 66 60)], mz_set (mz_set b 72 r72) 73 r73)) rfl ?_
            rw [h6660]
            exact mz_ret rfl
          refine mz_go 1 (c' := (if (nI WW) ≤ (nI k) then 235 else 97, [some (.ref 65), some (.int 2), some (.int a0), some (.int (nI I)), some (.int (nI k)), o0, o1, o2, o3], [], mz_set (mz_set b 72 r72) 73 r73)) rfl ?_
          refine mz_ifF (show ¬ ((nI WW) ≤ (nI k)) from (sm_nleN rfl rfl (show k < WW by omega) (show WW < 2 ^ 31 by omega))) ?_
          refine mz_go 12 (c' := (118, [some (.ref 65), some (.int 2), some (.int a0), some (.int (nI I)), some (.int (nI k)), some (.int (nI I)), some (.int (nI k)), some (.int 0), some (.int (nI I))], [.ref 65], mz_set (mz_set b 72 r72) 73 r73)) rfl ?_
          refine mz_doQ (R := mz_r183) (as := [.ref 65]) (rest := []) (r1 := some (.int (nI WW))) (m1 := mz_set (mz_set b 72 r72) 73 r73) mz_t183 mz_v183_65 rfl rfl rfl rfl rfl ⟨?_, rfl⟩ ?_
          · refine mz_go 4 (c' := (7, [some (.ref 65)], [.int (b 66 60)], mz_set (mz_set b 72 r72) 73 r73)) rfl ?_
            rw [h6660]
            exact mz_ret rfl
          refine mz_go 15 (c' := (118, [some (.ref 65), some (.int 2), some (.int a0), some (.int (nI I)), some (.int (nI k)), some (.int (((nI WW) - 1) - (nI k))), some (.int (nI I)), some (.int 1), some (.int (((nI WW) - 1) - (nI k)))], [.ref 65], mz_set (mz_set b 72 r72) 73 r73)) rfl ?_
          refine mz_doQ (R := mz_r183) (as := [.ref 65]) (rest := []) (r1 := some (.int (nI WW))) (m1 := mz_set (mz_set b 72 r72) 73 r73) mz_t183 mz_v183_65 rfl rfl rfl rfl rfl ⟨?_, rfl⟩ ?_
          · refine mz_go 4 (c' := (7, [some (.ref 65)], [.int (b 66 60)], mz_set (mz_set b 72 r72) 73 r73)) rfl ?_
            rw [h6660]
            exact mz_ret rfl
          refine mz_go 15 (c' := (142, [some (.ref 65), some (.int 2), some (.int a0), some (.int (nI I)), some (.int (nI k)), some (.int (((nI WW) - 1) - (nI I))), some (.int (((nI WW) - 1) - (nI k))), some (.int 2), some (.int (((nI WW) - 1) - (nI k)))], [.int (nI k), .int (nI I), .ref 65], mz_set (mz_set b 72 r72) 73 r73)) rfl ?_
          refine mz_doQ (R := mz_r186) (as := [.ref 65, .int (nI I), .int (nI k)]) (rest := []) (r1 := some (.int (nI (c I k)))) (m1 := mz_set (mz_set b 72 r72) 73 r73) mz_t186 mz_v186_65 rfl rfl rfl rfl rfl (Ez1.deep (by decide)) ?_
          refine mz_go 4 (c' := (152, [some (.ref 65), some (.int 2), some (.int a0), some (.int (nI I)), some (.int (nI k)), some (.int (((nI WW) - 1) - (nI I))), some (.int (((nI WW) - 1) - (nI k))), some (.int (nI (c I k))), some (.int (((nI WW) - 1) - (nI k)))], [.int (((nI WW) - 1) - (nI k)), .int (((nI WW) - 1) - (nI I)), .ref 65], mz_set (mz_set b 72 r72) 73 r73)) rfl ?_
          refine mz_doQ (R := mz_r186) (as := [.ref 65, .int (((nI WW) - 1) - (nI I)), .int (((nI WW) - 1) - (nI k))]) (rest := []) (r1 := some (.int (nI (c ((WW - 1) - I) ((WW - 1) - k))))) (m1 := mz_set (mz_set b 72 r72) 73 r73) mz_t186 mz_v186_65 rfl rfl rfl rfl rfl (Ez2.deep (by decide)) ?_
          refine mz_go 3 (c' := (if a0 = 0 then 209 else 161, [some (.ref 65), some (.int 2), some (.int a0), some (.int (nI I)), some (.int (nI k)), some (.int (((nI WW) - 1) - (nI I))), some (.int (((nI WW) - 1) - (nI k))), some (.int (nI (c I k))), some (.int (nI (c ((WW - 1) - I) ((WW - 1) - k))))], [], mz_set (mz_set b 72 r72) 73 r73)) rfl ?_
          refine mz_ifF q1 ?_
          refine mz_go 3 (c' := (167, [some (.ref 65), some (.int 2), some (.int a0), some (.int (nI I)), some (.int (nI k)), some (.int (((nI WW) - 1) - (nI I))), some (.int (((nI WW) - 1) - (nI k))), some (.int (nI (c I k))), some (.int (nI (c ((WW - 1) - I) ((WW - 1) - k))))], [.int (nI (c I k)), .ref 72], mz_set (mz_set b 72 r72) 73 r73)) rfl ?_
          refine mz_arr (c' := (168, [some (.ref 65), some (.int 2), some (.int a0), some (.int (nI I)), some (.int (nI k)), some (.int (((nI WW) - 1) - (nI I))), some (.int (((nI WW) - 1) - (nI k))), some (.int (nI (c I k))), some (.int (nI (c ((WW - 1) - I) ((WW - 1) - k))))], [.int (r72 ((nI (c I k)).toNatClampNeg))], mz_set (mz_set b 72 r72) 73 r73)) rfl (show mz_in (nI (c I k)) 10 = true from sm_inN rfl (show (c I k) < 10 by omega) (by decide)) ?_
          rw [show (nI (c I k) : Int32).toNatClampNeg = (c I k) from sm_clN rfl (show (c I k) < 2 ^ 31 by omega)]
          refine mz_go 1 (c' := (if (r72 (c I k)) < 0 then 183 else 171, [some (.ref 65), some (.int 2), some (.int a0), some (.int (nI I)), some (.int (nI k)), some (.int (((nI WW) - 1) - (nI I))), some (.int (((nI WW) - 1) - (nI k))), some (.int (nI (c I k))), some (.int (nI (c ((WW - 1) - I) ((WW - 1) - k))))], [], mz_set (mz_set b 72 r72) 73 r73)) rfl ?_
          refine mz_ifF q2 ?_
          refine mz_go 3 (c' := (177, [some (.ref 65), some (.int 2), some (.int a0), some (.int (nI I)), some (.int (nI k)), some (.int (((nI WW) - 1) - (nI I))), some (.int (((nI WW) - 1) - (nI k))), some (.int (nI (c I k))), some (.int (nI (c ((WW - 1) - I) ((WW - 1) - k))))], [.int (nI (c I k)), .ref 72], mz_set (mz_set b 72 r72) 73 r73)) rfl ?_
          refine mz_arr (c' := (178, [some (.ref 65), some (.int 2), some (.int a0), some (.int (nI I)), some (.int (nI k)), some (.int (((nI WW) - 1) - (nI I))), some (.int (((nI WW) - 1) - (nI k))), some (.int (nI (c I k))), some (.int (nI (c ((WW - 1) - I) ((WW - 1) - k))))], [.int (r72 ((nI (c I k)).toNatClampNeg))], mz_set (mz_set b 72 r72) 73 r73)) rfl (show mz_in (nI (c I k)) 10 = true from sm_inN rfl (show (c I k) < 10 by omega) (by decide)) ?_
          rw [show (nI (c I k) : Int32).toNatClampNeg = (c I k) from sm_clN rfl (show (c I k) < 2 ^ 31 by omega)]
          refine mz_go 2 (c' := (if (r72 (c I k)) = (nI (c ((WW - 1) - I) ((WW - 1) - k))) then 183 else 209, [some (.ref 65), some (.int 2), some (.int a0), some (.int (nI I)), some (.int (nI k)), some (.int (((nI WW) - 1) - (nI I))), some (.int (((nI WW) - 1) - (nI k))), some (.int (nI (c I k))), some (.int (nI (c ((WW - 1) - I) ((WW - 1) - k))))], [], mz_set (mz_set b 72 r72) 73 r73)) rfl ?_
          refine mz_ifF q5 ?_
          refine mz_go 6 (c' := (219, [some (.ref 65), some (.int 2), some (.int 0), some (.int (nI I)), some (.int (nI k)), some (.int (((nI WW) - 1) - (nI I))), some (.int (((nI WW) - 1) - (nI k))), some (.int (nI (c I k))), some (.int (nI (c ((WW - 1) - I) ((WW - 1) - k))))], [.int (nI (c ((WW - 1) - I) ((WW - 1) - k))), .int (nI (c I k)), .ref 72], mz_set (mz_set b 72 r72) 73 r73)) rfl ?_
          refine mz_arr (c' := (220, [some (.ref 65), some (.int 2), some (.int 0), some (.int (nI I)), some (.int (nI k)), some (.int (((nI WW) - 1) - (nI I))), some (.int (((nI WW) - 1) - (nI k))), some (.int (nI (c I k))), some (.int (nI (c ((WW - 1) - I) ((WW - 1) - k))))], [], mz_up (mz_set (mz_set b 72 r72) 73 r73) 72 ((nI (c I k)).toNatClampNeg) (nI (c ((WW - 1) - I) ((WW - 1) - k))))) rfl (show mz_in (nI (c I k)) 10 = true from sm_inN rfl (show (c I k) < 10 by omega) (by decide)) ?_
          rw [show (nI (c I k) : Int32).toNatClampNeg = (c I k) from sm_clN rfl (show (c I k) < 2 ^ 31 by omega)]
          refine mz_go 4 (c' := (228, [some (.ref 65), some (.int 2), some (.int 0), some (.int (nI I)), some (.int (nI k)), some (.int (((nI WW) - 1) - (nI I))), some (.int (((nI WW) - 1) - (nI k))), some (.int (nI (c I k))), some (.int (nI (c ((WW - 1) - I) ((WW - 1) - k))))], [.int (nI (c I k)), .int (nI (c ((WW - 1) - I) ((WW - 1) - k))), .ref 73], mz_up (mz_set (mz_set b 72 r72) 73 r73) 72 (c I k) (nI (c ((WW - 1) - I) ((WW - 1) - k))))) rfl ?_
          refine mz_arr (c' := (229, [some (.ref 65), some (.int 2), some (.int 0), some (.int (nI I)), some (.int (nI k)), some (.int (((nI WW) - 1) - (nI I))), some (.int (((nI WW) - 1) - (nI k))), some (.int (nI (c I k))), some (.int (nI (c ((WW - 1) - I) ((WW - 1) - k))))], [], mz_up (mz_up (mz_set (mz_set b 72 r72) 73 r73) 72 (c I k) (nI (c ((WW - 1) - I) ((WW - 1) - k)))) 73 ((nI (c ((WW - 1) - I) ((WW - 1) - k))).toNatClampNeg) (nI (c I k)))) rfl (show mz_in (nI (c ((WW - 1) - I) ((WW - 1) - k))) 10 = true from sm_inN rfl (show (c ((WW - 1) - I) ((WW - 1) - k)) < 10 by omega) (by decide)) ?_
          rw [show (nI (c ((WW - 1) - I) ((WW - 1) - k)) : Int32).toNatClampNeg = (c ((WW - 1) - I) ((WW - 1) - k)) from sm_clN rfl (show (c ((WW - 1) - I) ((WW - 1) - k)) < 2 ^ 31 by omega)]
          refine mz_go 2 (c' := (88, [some (.ref 65), some (.int 2), some (.int 0), some (.int (nI I)), some (.int ((nI k) + 1)), some (.int (((nI WW) - 1) - (nI I))), some (.int (((nI WW) - 1) - (nI k))), some (.int (nI (c I k))), some (.int (nI (c ((WW - 1) - I) ((WW - 1) - k))))], [], mz_up (mz_up (mz_set (mz_set b 72 r72) 73 r73) 72 (c I k) (nI (c ((WW - 1) - I) ((WW - 1) - k)))) 73 (c ((WW - 1) - I) ((WW - 1) - k)) (nI (c I k)))) rfl ?_
          exact hr
set_option maxHeartbeats 4000000 in
set_option maxRecDepth 100000 in
theorem vr_tui2 {w b : mz_M} {WW : Nat} (hWW : WW ≤ 6) (h1W : 1 ≤ WW) (h6660 : b 66 60 = nI WW) (hbc : ∀ i, i < 36 → b 66 (70 + i) = w 21 i) {c : Nat → Nat → Nat} (hcn : ∀ i j, i < WW → j < WW → w 21 ((j * 6) + i) = nI (c i j)) (h9 : ∀ i j, i < WW → j < WW → c i j ≤ 9) : ∀ j k : Nat, k + j = WW → ∀ (a0 : Int32) (o0 o1 o2 o3 o4 : Option Value) (r72 r73 : Nat → Int32), vq_tI c 2 WW (k * WW) a0 r72 r73 → ∃ (b0 : Int32), ∃ (p0 : Option Value), ∃ (p1 : Option Value), ∃ (p2 : Option Value), ∃ (p3 : Option Value), ∃ (p4 : Option Value), ∃ (s72 : Nat → Int32), ∃ (s73 : Nat → Int32), vq_tI c 2 WW (WW * WW) b0 s72 s73 ∧ ∀ r, mz_Ex 100 mz_k201 (241, [some (.ref 65), some (.int 2), some (.int b0), some (.int (nI WW)), p0, p1, p2, p3, p4], [], mz_set (mz_set b 72 s72) 73 s73) r → mz_Ex 100 mz_k201 (77, [some (.ref 65), some (.int 2), some (.int a0), some (.int (nI k)), o0, o1, o2, o3, o4], [], mz_set (mz_set b 72 r72) 73 r73) r := by
  intro j
  induction j with
  | zero =>
    intro k hk a0 o0 o1 o2 o3 o4 r72 r73 hin
    rw [show k = WW by omega] at hin ⊢
    exact ⟨a0, o0, o1, o2, o3, o4, r72, r73, hin, fun r hr => by
      refine mz_go 2 (c' := (79, [some (.ref 65), some (.int 2), some (.int a0), some (.int (nI WW)), o0, o1, o2, o3, o4], [.ref 65, .int (nI WW)], mz_set (mz_set b 72 r72) 73 r73)) rfl ?_
      refine mz_doQ (R := mz_r183) (as := [.ref 65]) (rest := [.int (nI WW)]) (r1 := some (.int (nI WW))) (m1 := mz_set (mz_set b 72 r72) 73 r73) mz_t183 mz_v183_65 rfl rfl rfl rfl rfl ⟨?_, rfl⟩ ?_
      · refine mz_go 4 (c' := (7, [some (.ref 65)], [.int (b 66 60)], mz_set (mz_set b 72 r72) 73 r73)) rfl ?_
        rw [h6660]
        exact mz_ret rfl
      refine mz_go 1 (c' := (if (nI WW) ≤ (nI WW) then 241 else 85, [some (.ref 65), some (.int 2), some (.int a0), some (.int (nI WW)), o0, o1, o2, o3, o4], [], mz_set (mz_set b 72 r72) 73 r73)) rfl ?_
      refine mz_ifT (show ((nI WW) ≤ (nI WW)) from (sm_leN rfl rfl (show WW ≤ WW by omega) (show WW < 2 ^ 31 by omega))) ?_
      exact hr⟩
  | succ j ih =>
    intro k hk a0 o0 o1 o2 o3 o4 r72 r73 hin
    obtain ⟨by1, p5y1, p6y1, p7y1, p8y1, s72y1, s73y1, hiny1, Ey1⟩ := vr_tuj2 hWW h1W h6660 hbc hcn h9 (I := k) (by omega) WW 0 (by omega) a0 o1 o2 o3 o4 r72 r73 hin
    obtain ⟨b0, p0, p1, p2, p3, p4, s72, s73, hin2, Er⟩ := ih (k + 1) (by omega) by1 (some (.int (nI WW))) p5y1 p6y1 p7y1 p8y1 s72y1 s73y1 (by rw [Nat.succ_mul]; exact hiny1)
    refine ⟨b0, p0, p1, p2, p3, p4, s72, s73, hin2, fun r hr0 => ?_⟩
    have hr := Er r hr0
    rw [nI_succ k] at hr
    refine mz_go 2 (c' := (79, [some (.ref 65), some (.int 2), some (.int a0), some (.int (nI k)), o0, o1, o2, o3, o4], [.ref 65, .int (nI k)], mz_set (mz_set b 72 r72) 73 r73)) rfl ?_
    refine mz_doQ (R := mz_r183) (as := [.ref 65]) (rest := [.int (nI k)]) (r1 := some (.int (nI WW))) (m1 := mz_set (mz_set b 72 r72) 73 r73) mz_t183 mz_v183_65 rfl rfl rfl rfl rfl ⟨?_, rfl⟩ ?_
    · refine mz_go 4 (c' := (7, [some (.ref 65)], [.int (b 66 60)], mz_set (mz_set b 72 r72) 73 r73)) rfl ?_
      rw [h6660]
      exact mz_ret rfl
    refine mz_go 1 (c' := (if (nI WW) ≤ (nI k) then 241 else 85, [some (.ref 65), some (.int 2), some (.int a0), some (.int (nI k)), o0, o1, o2, o3, o4], [], mz_set (mz_set b 72 r72) 73 r73)) rfl ?_
    refine mz_ifF (show ¬ ((nI WW) ≤ (nI k)) from (sm_nleN rfl rfl (show k < WW by omega) (show WW < 2 ^ 31 by omega))) ?_
    refine mz_go 2 (c' := (88, [some (.ref 65), some (.int 2), some (.int a0), some (.int (nI k)), some (.int 0), o1, o2, o3, o4], [], mz_set (mz_set b 72 r72) 73 r73)) rfl ?_
    refine Ey1 _ ?_
    refine mz_go 2 (c' := (77, [some (.ref 65), some (.int 2), some (.int by1), some (.int ((nI k) + 1)), some (.int (nI WW)), p5y1, p6y1, p7y1, p8y1], [], mz_set (mz_set b 72 s72y1) 73 s73y1)) rfl ?_
    exact hr
set_option maxHeartbeats 4000000 in
set_option maxRecDepth 100000 in
theorem vr_tuj3 {w b : mz_M} {WW : Nat} (hWW : WW ≤ 6) (h1W : 1 ≤ WW) (h6660 : b 66 60 = nI WW) (hbc : ∀ i, i < 36 → b 66 (70 + i) = w 21 i) {c : Nat → Nat → Nat} (hcn : ∀ i j, i < WW → j < WW → w 21 ((j * 6) + i) = nI (c i j)) (h9 : ∀ i j, i < WW → j < WW → c i j ≤ 9) {I : Nat} (hI : I < WW) : ∀ j k : Nat, k + j = WW → ∀ (a0 : Int32) (o0 o1 o2 o3 : Option Value) (r72 r73 : Nat → Int32), vq_tI c 3 WW (I * WW + k) a0 r72 r73 → ∃ (b0 : Int32), ∃ (p0 : Option Value), ∃ (p1 : Option Value), ∃ (p2 : Option Value), ∃ (p3 : Option Value), ∃ (s72 : Nat → Int32), ∃ (s73 : Nat → Int32), vq_tI c 3 WW (I * WW + WW) b0 s72 s73 ∧ ∀ r, mz_Ex 100 mz_k201 (235, [some (.ref 65), some (.int 3), some (.int b0), some (.int (nI I)), some (.int (nI WW)), p0, p1, p2, p3], [], mz_set (mz_set b 72 s72) 73 s73) r → mz_Ex 100 mz_k201 (88, [some (.ref 65), some (.int 3), some (.int a0), some (.int (nI I)), some (.int (nI k)), o0, o1, o2, o3], [], mz_set (mz_set b 72 r72) 73 r73) r := by
  intro j
  induction j with
  | zero =>
    intro k hk a0 o0 o1 o2 o3 r72 r73 hin
    rw [show k = WW by omega] at hin ⊢
    exact ⟨a0, o0, o1, o2, o3, r72, r73, hin, fun r hr => by
      refine mz_go 2 (c' := (91, [some (.ref 65), some (.int 3), some (.int a0), some (.int (nI I)), some (.int (nI WW)), o0, o1, o2, o3], [.ref 65, .int (nI WW)], mz_set (mz_set b 72 r72) 73 r73)) rfl ?_
      refine mz_doQ (R := mz_r183) (as := [.ref 65]) (rest := [.int (nI WW)]) (r1 := some (.int (nI WW))) (m1 := mz_set (mz_set b 72 r72) 73 r73) mz_t183 mz_v183_65 rfl rfl rfl rfl rfl ⟨?_, rfl⟩ ?_
      · refine mz_go 4 (c' := (7, [some (.ref 65)], [.int (b 66 60)], mz_set (mz_set b 72 r72) 73 r73)) rfl ?_
        rw [h6660]
        exact mz_ret rfl
      refine mz_go 1 (c' := (if (nI WW) ≤ (nI WW) then 235 else 97, [some (.ref 65), some (.int 3), some (.int a0), some (.int (nI I)), some (.int (nI WW)), o0, o1, o2, o3], [], mz_set (mz_set b 72 r72) 73 r73)) rfl ?_
      refine mz_ifT (show ((nI WW) ≤ (nI WW)) from (sm_leN rfl rfl (show WW ≤ WW by omega) (show WW < 2 ^ 31 by omega))) ?_
      exact hr⟩
  | succ j ih =>
    intro k hk a0 o0 o1 o2 o3 r72 r73 hin
    have h9z1 : c I k ≤ 9 := h9 _ _ (by omega) (by omega)
    have Ez1 := vr_colw (w := w) (m := mz_set (mz_set b 72 r72) 73 r73) hbc (A := I) (B := k) (by omega) (by omega) (a := nI I) (b := nI k) rfl rfl
    rw [hcn I k (by omega) (by omega)] at Ez1
    have h9z2 : c ((WW - 1) - ((WW - 1) - k)) ((WW - 1) - I) ≤ 9 := h9 _ _ (by omega) (by omega)
    have Ez2 := vr_colw (w := w) (m := mz_set (mz_set b 72 r72) 73 r73) hbc (A := ((WW - 1) - ((WW - 1) - k))) (B := ((WW - 1) - I)) (by omega) (by omega) (a := ((nI WW) - 1) - (((nI WW) - 1) - (nI k))) (b := ((nI WW) - 1) - (nI I)) (sm_subN (a := (WW - 1)) (b := ((WW - 1) - k)) (sm_subN (a := WW) (b := 1) rfl rfl (by omega)) (sm_subN (a := (WW - 1)) (b := k) (sm_subN (a := WW) (b := 1) rfl rfl (by omega)) rfl (by omega)) (by omega)) (sm_subN (a := (WW - 1)) (b := I) (sm_subN (a := WW) (b := 1) rfl rfl (by omega)) rfl (by omega))
    rw [hcn ((WW - 1) - ((WW - 1) - k)) ((WW - 1) - I) (by omega) (by omega)] at Ez2
    by_cases q1 : a0 = 0
    · have hm : mz_up (mz_up (mz_set (mz_set b 72 r72) 73 r73) 72 (c I k) (nI (c ((WW - 1) - ((WW - 1) - k)) ((WW - 1) - I)))) 73 (c ((WW - 1) - ((WW - 1) - k)) ((WW - 1) - I)) (nI (c I k)) = mz_set (mz_set b 72 ((mz_up (mz_up (mz_set (mz_set b 72 r72) 73 r73) 72 (c I k) (nI (c ((WW - 1) - ((WW - 1) - k)) ((WW - 1) - I)))) 73 (c ((WW - 1) - ((WW - 1) - k)) ((WW - 1) - I)) (nI (c I k))) 72)) 73 ((mz_up (mz_up (mz_set (mz_set b 72 r72) 73 r73) 72 (c I k) (nI (c ((WW - 1) - ((WW - 1) - k)) ((WW - 1) - I)))) 73 (c ((WW - 1) - ((WW - 1) - k)) ((WW - 1) - I)) (nI (c I k))) 73) := sm_of2 (fun i h1 h2 => by simp only [mz_set_ne h1, mz_set_ne h2, mz_up_ne h1, mz_up_ne h2])
      obtain ⟨b0, p0, p1, p2, p3, s72, s73, hin2, Er⟩ := ih (k + 1) (by omega) 0 (some (.int (((nI WW) - 1) - (((nI WW) - 1) - (nI k))))) (some (.int (((nI WW) - 1) - (nI I)))) (some (.int (nI (c I k)))) (some (.int (nI (c ((WW - 1) - ((WW - 1) - k)) ((WW - 1) - I))))) ((mz_up (mz_up (mz_set (mz_set b 72 r72) 73 r73) 72 (c I k) (nI (c ((WW - 1) - ((WW - 1) - k)) ((WW - 1) - I)))) 73 (c ((WW - 1) - ((WW - 1) - k)) ((WW - 1) - I)) (nI (c I k))) 72) ((mz_up (mz_up (mz_set (mz_set b 72 r72) 73 r73) 72 (c I k) (nI (c ((WW - 1) - ((WW - 1) - k)) ((WW - 1) - I)))) 73 (c ((WW - 1) - ((WW - 1) - k)) ((WW - 1) - I)) (nI (c I k))) 73) (vq_tuA hin q1)
      refine ⟨b0, p0, p1, p2, p3, s72, s73, hin2, fun r hr0 => ?_⟩
      have hr := Er r hr0
      rw [nI_succ k, ← hm] at hr
      refine mz_go 2 (c' := (91, [some (.ref 65), some (.int 3), some (.int a0), some (.int (nI I)), some (.int (nI k)), o0, o1, o2, o3], [.ref 65, .int (nI k)], mz_set (mz_set b 72 r72) 73 r73)) rfl ?_
      refine mz_doQ (R := mz_r183) (as := [.ref 65]) (rest := [.int (nI k)]) (r1 := some (.int (nI WW))) (m1 := mz_set (mz_set b 72 r72) 73 r73) mz_t183 mz_v183_65 rfl rfl rfl rfl rfl ⟨?_, rfl⟩ ?_
      · refine mz_go 4 (c' := (7, [some (.ref 65)], [.int (b 66 60)], mz_set (mz_set b 72 r72) 73 r73)) rfl ?_
        rw [h6660]
        exact mz_ret rfl
      refine mz_go 1 (c' := (if (nI WW) ≤ (nI k) then 235 else 97, [some (.ref 65), some (.int 3), some (.int a0), some (.int (nI I)), some (.int (nI k)), o0, o1, o2, o3], [], mz_set (mz_set b 72 r72) 73 r73)) rfl ?_
      refine mz_ifF (show ¬ ((nI WW) ≤ (nI k)) from (sm_nleN rfl rfl (show k < WW by omega) (show WW < 2 ^ 31 by omega))) ?_
      refine mz_go 12 (c' := (118, [some (.ref 65), some (.int 3), some (.int a0), some (.int (nI I)), some (.int (nI k)), some (.int (nI I)), some (.int (nI k)), some (.int 0), some (.int (nI I))], [.ref 65], mz_set (mz_set b 72 r72) 73 r73)) rfl ?_
      refine mz_doQ (R := mz_r183) (as := [.ref 65]) (rest := []) (r1 := some (.int (nI WW))) (m1 := mz_set (mz_set b 72 r72) 73 r73) mz_t183 mz_v183_65 rfl rfl rfl rfl rfl ⟨?_, rfl⟩ ?_
      · refine mz_go 4 (c' := (7, [some (.ref 65)], [.int (b 66 60)], mz_set (mz_set b 72 r72) 73 r73)) rfl ?_
        rw [h6660]
        exact mz_ret rfl
      refine mz_go 15 (c' := (118, [some (.ref 65), some (.int 3), some (.int a0), some (.int (nI I)), some (.int (nI k)), some (.int (((nI WW) - 1) - (nI k))), some (.int (nI I)), some (.int 1), some (.int (((nI WW) - 1) - (nI k)))], [.ref 65], mz_set (mz_set b 72 r72) 73 r73)) rfl ?_
      refine mz_doQ (R := mz_r183) (as := [.ref 65]) (rest := []) (r1 := some (.int (nI WW))) (m1 := mz_set (mz_set b 72 r72) 73 r73) mz_t183 mz_v183_65 rfl rfl rfl rfl rfl ⟨?_, rfl⟩ ?_
      · refine mz_go 4 (c' := (7, [some (.ref 65)], [.int (b 66 60)], mz_set (mz_set b 72 r72) 73 r73)) rfl ?_
        rw [h6660]
        exact mz_ret rfl
      refine mz_go 15 (c' := (118, [some (.ref 65), some (.int 3), some (.int a0), some (.int (nI I)), some (.int (nI k)), some (.int (((nI WW) - 1) - (nI I))), some (.int (((nI WW) - 1) - (nI k))), some (.int 2), some (.int (((nI WW) - 1) - (nI I)))], [.ref 65], mz_set (mz_set b 72 r72) 73 r73)) rfl ?_
      refine mz_doQ (R := mz_r183) (as := [.ref 65]) (rest := []) (r1 := some (.int (nI WW))) (m1 := mz_set (mz_set b 72 r72) 73 r73) mz_t183 mz_v183_65 rfl rfl rfl rfl rfl ⟨?_, rfl⟩ ?_
      · refine mz_go 4 (c' := (7, [some (.ref 65)], [.int (b 66 60)], mz_set (mz_set b 72 r72) 73 r73)) rfl ?_
        rw [h6660]
        exact mz_ret rfl
      refine mz_go 15 (c' := (142, [some (.ref 65), some (.int 3), some (.int a0), some (.int (nI I)), some (.int (nI k)), some (.int (((nI WW) - 1) - (((nI WW) - 1) - (nI k)))), some (.int (((nI WW) - 1) - (nI I))), some (.int 3), some (.int (((nI WW) - 1) - (nI I)))], [.int (nI k), .int (nI I), .ref 65], mz_set (mz_set b 72 r72) 73 r73)) rfl ?_
      refine mz_doQ (R := mz_r186) (as := [.ref 65, .int (nI I), .int (nI k)]) (rest := []) (r1 := some (.int (nI (c I k)))) (m1 := mz_set (mz_set b 72 r72) 73 r73) mz_t186 mz_v186_65 rfl rfl rfl rfl rfl (Ez1.deep (by decide)) ?_
      refine mz_go 4 (c' := (152, [some (.ref 65), some (.int 3), some (.int a0), some (.int (nI I)), some (.int (nI k)), some (.int (((nI WW) - 1) - (((nI WW) - 1) - (nI k)))), some (.int (((nI WW) - 1) - (nI I))), some (.int (nI (c I k))), some (.int (((nI WW) - 1) - (nI I)))], [.int (((nI WW) - 1) - (nI I)), .int (((nI WW) - 1) - (((nI WW) - 1) - (nI k))), .ref 65], mz_set (mz_set b 72 r72) 73 r73)) rfl ?_
      refine mz_doQ (R := mz_r186) (as := [.ref 65, .int (((nI WW) - 1) - (((nI WW) - 1) - (nI k))), .int (((nI WW) - 1) - (nI I))]) (rest := []) (r1 := some (.int (nI (c ((WW - 1) - ((WW - 1) - k)) ((WW - 1) - I))))) (m1 := mz_set (mz_set b 72 r72) 73 r73) mz_t186 mz_v186_65 rfl rfl rfl rfl rfl (Ez2.deep (by decide)) ?_
      refine mz_go 3 (c' := (if a0 = 0 then 209 else 161, [some (.ref 65), some (.int 3), some (.int a0), some (.int (nI I)), some (.int (nI k)), some (.int (((nI WW) - 1) - (((nI WW) - 1) - (nI k)))), some (.int (((nI WW) - 1) - (nI I))), some (.int (nI (c I k))), some (.int (nI (c ((WW - 1) - ((WW - 1) - k)) ((WW - 1) - I))))], [], mz_set (mz_set b 72 r72) 73 r73)) rfl ?_
      refine mz_ifT q1 ?_
      refine mz_go 6 (c' := (219, [some (.ref 65), some (.int 3), some (.int 0), some (.int (nI I)), some (.int (nI k)), some (.int (((nI WW) - 1) - (((nI WW) - 1) - (nI k)))), some (.int (((nI WW) - 1) - (nI I))), some (.int (nI (c I k))), some (.int (nI (c ((WW - 1) - ((WW - 1) - k)) ((WW - 1) - I))))], [.int (nI (c ((WW - 1) - ((WW - 1) - k)) ((WW - 1) - I))), .int (nI (c I k)), .ref 72], mz_set (mz_set b 72 r72) 73 r73)) rfl ?_
      refine mz_arr (c' := (220, [some (.ref 65), some (.int 3), some (.int 0), some (.int (nI I)), some (.int (nI k)), some (.int (((nI WW) - 1) - (((nI WW) - 1) - (nI k)))), some (.int (((nI WW) - 1) - (nI I))), some (.int (nI (c I k))), some (.int (nI (c ((WW - 1) - ((WW - 1) - k)) ((WW - 1) - I))))], [], mz_up (mz_set (mz_set b 72 r72) 73 r73) 72 ((nI (c I k)).toNatClampNeg) (nI (c ((WW - 1) - ((WW - 1) - k)) ((WW - 1) - I))))) rfl (show mz_in (nI (c I k)) 10 = true from sm_inN rfl (show (c I k) < 10 by omega) (by decide)) ?_
      rw [show (nI (c I k) : Int32).toNatClampNeg = (c I k) from sm_clN rfl (show (c I k) < 2 ^ 31 by omega)]
      refine mz_go 4 (c' := (228, [some (.ref 65), some (.int 3), some (.int 0), some (.int (nI I)), some (.int (nI k)), some (.int (((nI WW) - 1) - (((nI WW) - 1) - (nI k)))), some (.int (((nI WW) - 1) - (nI I))), some (.int (nI (c I k))), some (.int (nI (c ((WW - 1) - ((WW - 1) - k)) ((WW - 1) - I))))], [.int (nI (c I k)), .int (nI (c ((WW - 1) - ((WW - 1) - k)) ((WW - 1) - I))), .ref 73], mz_up (mz_set (mz_set b 72 r72) 73 r73) 72 (c I k) (nI (c ((WW - 1) - ((WW - 1) - k)) ((WW - 1) - I))))) rfl ?_
      refine mz_arr (c' := (229, [some (.ref 65), some (.int 3), some (.int 0), some (.int (nI I)), some (.int (nI k)), some (.int (((nI WW) - 1) - (((nI WW) - 1) - (nI k)))), some (.int (((nI WW) - 1) - (nI I))), some (.int (nI (c I k))), some (.int (nI (c ((WW - 1) - ((WW - 1) - k)) ((WW - 1) - I))))], [], mz_up (mz_up (mz_set (mz_set b 72 r72) 73 r73) 72 (c I k) (nI (c ((WW - 1) - ((WW - 1) - k)) ((WW - 1) - I)))) 73 ((nI (c ((WW - 1) - ((WW - 1) - k)) ((WW - 1) - I))).toNatClampNeg) (nI (c I k)))) rfl (show mz_in (nI (c ((WW - 1) - ((WW - 1) - k)) ((WW - 1) - I))) 10 = true from sm_inN rfl (show (c ((WW - 1) - ((WW - 1) - k)) ((WW - 1) - I)) < 10 by omega) (by decide)) ?_
      rw [show (nI (c ((WW - 1) - ((WW - 1) - k)) ((WW - 1) - I)) : Int32).toNatClampNeg = (c ((WW - 1) - ((WW - 1) - k)) ((WW - 1) - I)) from sm_clN rfl (show (c ((WW - 1) - ((WW - 1) - k)) ((WW - 1) - I)) < 2 ^ 31 by omega)]
      refine mz_go 2 (c' := (88, [some (.ref 65), some (.int 3), some (.int 0), some (.int (nI I)), some (.int ((nI k) + 1)), some (.int (((nI WW) - 1) - (((nI WW) - 1) - (nI k)))), some (.int (((nI WW) - 1) - (nI I))), some (.int (nI (c I k))), some (.int (nI (c ((WW - 1) - ((WW - 1) - k)) ((WW - 1) - I))))], [], mz_up (mz_up (mz_set (mz_set b 72 r72) 73 r73) 72 (c I k) (nI (c ((WW - 1) - ((WW - 1) - k)) ((WW - 1) - I)))) 73 (c ((WW - 1) - ((WW - 1) - k)) ((WW - 1) - I)) (nI (c I k)))) rfl ?_
      exact hr
    · by_cases q2 : (r72 (c I k)) < 0
      · by_cases q3 : (r73 (c ((WW - 1) - ((WW - 1) - k)) ((WW - 1) - I))) < 0
        · have hm : mz_up (mz_up (mz_set (mz_set b 72 r72) 73 r73) 72 (c I k) (nI (c ((WW - 1) - ((WW - 1) - k)) ((WW - 1) - I)))) 73 (c ((WW - 1) - ((WW - 1) - k)) ((WW - 1) - I)) (nI (c I k)) = mz_set (mz_set b 72 ((mz_up (mz_up (mz_set (mz_set b 72 r72) 73 r73) 72 (c I k) (nI (c ((WW - 1) - ((WW - 1) - k)) ((WW - 1) - I)))) 73 (c ((WW - 1) - ((WW - 1) - k)) ((WW - 1) - I)) (nI (c I k))) 72)) 73 ((mz_up (mz_up (mz_set (mz_set b 72 r72) 73 r73) 72 (c I k) (nI (c ((WW - 1) - ((WW - 1) - k)) ((WW - 1) - I)))) 73 (c ((WW - 1) - ((WW - 1) - k)) ((WW - 1) - I)) (nI (c I k))) 73) := sm_of2 (fun i h1 h2 => by simp only [mz_set_ne h1, mz_set_ne h2, mz_up_ne h1, mz_up_ne h2])
          obtain ⟨b0, p0, p1, p2, p3, s72, s73, hin2, Er⟩ := ih (k + 1) (by omega) 1 (some (.int (((nI WW) - 1) - (((nI WW) - 1) - (nI k))))) (some (.int (((nI WW) - 1) - (nI I)))) (some (.int (nI (c I k)))) (some (.int (nI (c ((WW - 1) - ((WW - 1) - k)) ((WW - 1) - I))))) ((mz_up (mz_up (mz_set (mz_set b 72 r72) 73 r73) 72 (c I k) (nI (c ((WW - 1) - ((WW - 1) - k)) ((WW - 1) - I)))) 73 (c ((WW - 1) - ((WW - 1) - k)) ((WW - 1) - I)) (nI (c I k))) 72) ((mz_up (mz_up (mz_set (mz_set b 72 r72) 73 r73) 72 (c I k) (nI (c ((WW - 1) - ((WW - 1) - k)) ((WW - 1) - I)))) 73 (c ((WW - 1) - ((WW - 1) - k)) ((WW - 1) - I)) (nI (c I k))) 73) (vq_tuD h9 hI (by omega) hin q1 (Or.inl q2) (Or.inl q3) (fun v => by rw [mz_up_ne (show (72 : Nat) ≠ 73 by decide), mz_up_eq, mz_set_ne (show (72 : Nat) ≠ 73 by decide), mz_set_eq]; rfl) (fun v => by rw [mz_up_eq, mz_up_ne (show (73 : Nat) ≠ 72 by decide), mz_set_eq]; rfl))
          refine ⟨b0, p0, p1, p2, p3, s72, s73, hin2, fun r hr0 => ?_⟩
          have hr := Er r hr0
          rw [nI_succ k, ← hm] at hr
          refine mz_go 2 (c' := (91, [some (.ref 65), some (.int 3), some (.int a0), some (.int (nI I)), some (.int (nI k)), o0, o1, o2, o3], [.ref 65, .int (nI k)], mz_set (mz_set b 72 r72) 73 r73)) rfl ?_
          refine mz_doQ (R := mz_r183) (as := [.ref 65]) (rest := [.int (nI k)]) (r1 := some (.int (nI WW))) (m1 := mz_set (mz_set b 72 r72) 73 r73) mz_t183 mz_v183_65 rfl rfl rfl rfl rfl ⟨?_, rfl⟩ ?_
          · refine mz_go 4 (c' := (7, [some (.ref 65)], [.int (b 66 60)], mz_set (mz_set b 72 r72) 73 r73)) rfl ?_
            rw [h6660]
            exact mz_ret rfl
          refine mz_go 1 (c' := (if (nI WW) ≤ (nI k) then 235 else 97, [some (.ref 65), some (.int 3), some (.int a0), some (.int (nI I)), some (.int (nI k)), o0, o1, o2, o3], [], mz_set (mz_set b 72 r72) 73 r73)) rfl ?_
          refine mz_ifF (show ¬ ((nI WW) ≤ (nI k)) from (sm_nleN rfl rfl (show k < WW by omega) (show WW < 2 ^ 31 by omega))) ?_
          refine mz_go 12 (c' := (118, [some (.ref 65), some (.int 3), some (.int a0), some (.int (nI I)), some (.int (nI k)), some (.int (nI I)), some (.int (nI k)), some (.int 0), some (.int (nI I))], [.ref 65], mz_set (mz_set b 72 r72) 73 r73)) rfl ?_
          refine mz_doQ (R := mz_r183) (as := [.ref 65]) (rest := []) (r1 := some (.int (nI WW))) (m1 := mz_set (mz_set b 72 r72) 73 r73) mz_t183 mz_v183_65 rfl rfl rfl rfl rfl ⟨?_, rfl⟩ ?_
          · refine mz_go 4 (c' := (7, [some (.ref 65)], [.int (b 66 60)], mz_set (mz_set b 72 r72) 73 r73)) rfl ?_
            rw [h6660]
            exact mz_ret rfl
          refine mz_go 15 (c' := (118, [some (.ref 65), some (.int 3), some (.int a0), some (.int (nI I)), some (.int (nI k)), some (.int (((nI WW) - 1) - (nI k))), some (.int (nI I)), some (.int 1), some (.int (((nI WW) - 1) - (nI k)))], [.ref 65], mz_set (mz_set b 72 r72) 73 r73)) rfl ?_
          refine mz_doQ (R := mz_r183) (as := [.ref 65]) (rest := []) (r1 := some (.int (nI WW))) (m1 := mz_set (mz_set b 72 r72) 73 r73) mz_t183 mz_v183_65 rfl rfl rfl rfl rfl ⟨?_, rfl⟩ ?_
          · refine mz_go 4 (c' := (7, [some (.ref 65)], [.int (b 66 60)], mz_set (mz_set b 72 r72) 73 r73)) rfl ?_
            rw [h6660]
            exact mz_ret rfl
          refine mz_go 15 (c' := (118, [some (.ref 65), some (.int 3), some (.int a0), some (.int (nI I)), some (.int (nI k)), some (.int (((nI WW) - 1) - (nI I))), some (.int (((nI WW) - 1) - (nI k))), some (.int 2), some (.int (((nI WW) - 1) - (nI I)))], [.ref 65], mz_set (mz_set b 72 r72) 73 r73)) rfl ?_
          refine mz_doQ (R := mz_r183) (as := [.ref 65]) (rest := []) (r1 := some (.int (nI WW))) (m1 := mz_set (mz_set b 72 r72) 73 r73) mz_t183 mz_v183_65 rfl rfl rfl rfl rfl ⟨?_, rfl⟩ ?_
          · refine mz_go 4 (c' := (7, [some (.ref 65)], [.int (b 66 60)], mz_set (mz_set b 72 r72) 73 r73)) rfl ?_
            rw [h6660]
            exact mz_ret rfl
          refine mz_go 15 (c' := (142, [some (.ref 65), some (.int 3), some (.int a0), some (.int (nI I)), some (.int (nI k)), some (.int (((nI WW) - 1) - (((nI WW) - 1) - (nI k)))), some (.int (((nI WW) - 1) - (nI I))), some (.int 3), some (.int (((nI WW) - 1) - (nI I)))], [.int (nI k), .int (nI I), .ref 65], mz_set (mz_set b 72 r72) 73 r73)) rfl ?_
          refine mz_doQ (R := mz_r186) (as := [.ref 65, .int (nI I), .int (nI k)]) (rest := []) (r1 := some (.int (nI (c I k)))) (m1 := mz_set (mz_set b 72 r72) 73 r73) mz_t186 mz_v186_65 rfl rfl rfl rfl rfl (Ez1.deep (by decide)) ?_
          refine mz_go 4 (c' := (152, [some (.ref 65), some (.int 3), some (.int a0), some (.int (nI I)), some (.int (nI k)), some (.int (((nI WW) - 1) - (((nI WW) - 1) - (nI k)))), some (.int (((nI WW) - 1) - (nI I))), some (.int (nI (c I k))), some (.int (((nI WW) - 1) - (nI I)))], [.int (((nI WW) - 1) - (nI I)), .int (((nI WW) - 1) - (((nI WW) - 1) - (nI k))), .ref 65], mz_set (mz_set b 72 r72) 73 r73)) rfl ?_
          refine mz_doQ (R := mz_r186) (as := [.ref 65, .int (((nI WW) - 1) - (((nI WW) - 1) - (nI k))), .int (((nI WW) - 1) - (nI I))]) (rest := []) (r1 := some (.int (nI (c ((WW - 1) - ((WW - 1) - k)) ((WW - 1) - I))))) (m1 := mz_set (mz_set b 72 r72) 73 r73) mz_t186 mz_v186_65 rfl rfl rfl rfl rfl (Ez2.deep (by decide)) ?_
          refine mz_go 3 (c' := (if a0 = 0 then 209 else 161, [some (.ref 65), some (.int 3), some (.int a0), some (.int (nI I)), some (.int (nI k)), some (.int (((nI WW) - 1) - (((nI WW) - 1) - (nI k)))), some (.int (((nI WW) - 1) - (nI I))), some (.int (nI (c I k))), some (.int (nI (c ((WW - 1) - ((WW - 1) - k)) ((WW - 1) - I))))], [], mz_set (mz_set b 72 r72) 73 r73)) rfl ?_
          refine mz_ifF q1 ?_
          refine mz_go 3 (c' := (167, [some (.ref 65), some (.int 3), some (.int a0), some (.int (nI I)), some (.int (nI k)), some (.int (((nI WW) - 1) - (((nI WW) - 1) - (nI k)))), some (.int (((nI WW) - 1) - (nI I))), some (.int (nI (c I k))), some (.int (nI (c ((WW - 1) - ((WW - 1) - k)) ((WW - 1) - I))))], [.int (nI (c I k)), .ref 72], mz_set (mz_set b 72 r72) 73 r73)) rfl ?_
          refine mz_arr (c' := (168, [some (.ref 65), some (.int 3), some (.int a0), some (.int (nI I)), some (.int (nI k)), some (.int (((nI WW) - 1) - (((nI WW) - 1) - (nI k)))), some (.int (((nI WW) - 1) - (nI I))), some (.int (nI (c I k))), some (.int (nI (c ((WW - 1) - ((WW - 1) - k)) ((WW - 1) - I))))], [.int (r72 ((nI (c I k)).toNatClampNeg))], mz_set (mz_set b 72 r72) 73 r73)) rfl (show mz_in (nI (c I k)) 10 = true from sm_inN rfl (show (c I k) < 10 by omega) (by decide)) ?_
          rw [show (nI (c I k) : Int32).toNatClampNeg = (c I k) from sm_clN rfl (show (c I k) < 2 ^ 31 by omega)]
          refine mz_go 1 (c' := (if (r72 (c I k)) < 0 then 183 else 171, [some (.ref 65), some (.int 3), some (.int a0), some (.int (nI I)), some (.int (nI k)), some (.int (((nI WW) - 1) - (((nI WW) - 1) - (nI k)))), some (.int (((nI WW) - 1) - (nI I))), some (.int (nI (c I k))), some (.int (nI (c ((WW - 1) - ((WW - 1) - k)) ((WW - 1) - I))))], [], mz_set (mz_set b 72 r72) 73 r73)) rfl ?_
          refine mz_ifT q2 ?_
          refine mz_go 3 (c' := (189, [some (.ref 65), some (.int 3), some (.int a0), some (.int (nI I)), some (.int (nI k)), some (.int (((nI WW) - 1) - (((nI WW) - 1) - (nI k)))), some (.int (((nI WW) - 1) - (nI I))), some (.int (nI (c I k))), some (.int (nI (c ((WW - 1) - ((WW - 1) - k)) ((WW - 1) - I))))], [.int (nI (c ((WW - 1) - ((WW - 1) - k)) ((WW - 1) - I))), .ref 73], mz_set (mz_set b 72 r72) 73 r73)) rfl ?_
          refine mz_arr (c' := (190, [some (.ref 65), some (.int 3), some (.int a0), some (.int (nI I)), some (.int (nI k)), some (.int (((nI WW) - 1) - (((nI WW) - 1) - (nI k)))), some (.int (((nI WW) - 1) - (nI I))), some (.int (nI (c I k))), some (.int (nI (c ((WW - 1) - ((WW - 1) - k)) ((WW - 1) - I))))], [.int (r73 ((nI (c ((WW - 1) - ((WW - 1) - k)) ((WW - 1) - I))).toNatClampNeg))], mz_set (mz_set b 72 r72) 73 r73)) rfl (show mz_in (nI (c ((WW - 1) - ((WW - 1) - k)) ((WW - 1) - I))) 10 = true from sm_inN rfl (show (c ((WW - 1) - ((WW - 1) - k)) ((WW - 1) - I)) < 10 by omega) (by decide)) ?_
          rw [show (nI (c ((WW - 1) - ((WW - 1) - k)) ((WW - 1) - I)) : Int32).toNatClampNeg = (c ((WW - 1) - ((WW - 1) - k)) ((WW - 1) - I)) from sm_clN rfl (show (c ((WW - 1) - ((WW - 1) - k)) ((WW - 1) - I)) < 2 ^ 31 by omega)]
          refine mz_go 1 (c' := (if (r73 (c ((WW - 1) - ((WW - 1) - k)) ((WW - 1) - I))) < 0 then 205 else 193, [some (.ref 65), some (.int 3), some (.int a0), some (.int (nI I)), some (.int (nI k)), some (.int (((nI WW) - 1) - (((nI WW) - 1) - (nI k)))), some (.int (((nI WW) - 1) - (nI I))), some (.int (nI (c I k))), some (.int (nI (c ((WW - 1) - ((WW - 1) - k)) ((WW - 1) - I))))], [], mz_set (mz_set b 72 r72) 73 r73)) rfl ?_
          refine mz_ifT q3 ?_
          refine mz_go 7 (c' := (219, [some (.ref 65), some (.int 3), some (.int 1), some (.int (nI I)), some (.int (nI k)), some (.int (((nI WW) - 1) - (((nI WW) - 1) - (nI k)))), some (.int (((nI WW) - 1) - (nI I))), some (.int (nI (c I k))), some (.int (nI (c ((WW - 1) - ((WW - 1) - k)) ((WW - 1) - I))))], [.int (nI (c ((WW - 1) - ((WW - 1) - k)) ((WW - 1) - I))), .int (nI (c I k)), .ref 72], mz_set (mz_set b 72 r72) 73 r73)) rfl ?_
          refine mz_arr (c' := (220, [some (.ref 65), some (.int 3), some (.int 1), some (.int (nI I)), some (.int (nI k)), some (.int (((nI WW) - 1) - (((nI WW) - 1) - (nI k)))), some (.int (((nI WW) - 1) - (nI I))), some (.int (nI (c I k))), some (.int (nI (c ((WW - 1) - ((WW - 1) - k)) ((WW - 1) - I))))], [], mz_up (mz_set (mz_set b 72 r72) 73 r73) 72 ((nI (c I k)).toNatClampNeg) (nI (c ((WW - 1) - ((WW - 1) - k)) ((WW - 1) - I))))) rfl (show mz_in (nI (c I k)) 10 = true from sm_inN rfl (show (c I k) < 10 by omega) (by decide)) ?_
          rw [show (nI (c I k) : Int32).toNatClampNeg = (c I k) from sm_clN rfl (show (c I k) < 2 ^ 31 by omega)]
          refine mz_go 4 (c' := (228, [some (.ref 65), some (.int 3), some (.int 1), some (.int (nI I)), some (.int (nI k)), some (.int (((nI WW) - 1) - (((nI WW) - 1) - (nI k)))), some (.int (((nI WW) - 1) - (nI I))), some (.int (nI (c I k))), some (.int (nI (c ((WW - 1) - ((WW - 1) - k)) ((WW - 1) - I))))], [.int (nI (c I k)), .int (nI (c ((WW - 1) - ((WW - 1) - k)) ((WW - 1) - I))), .ref 73], mz_up (mz_set (mz_set b 72 r72) 73 r73) 72 (c I k) (nI (c ((WW - 1) - ((WW - 1) - k)) ((WW - 1) - I))))) rfl ?_
          refine mz_arr (c' := (229, [some (.ref 65), some (.int 3), some (.int 1), some (.int (nI I)), some (.int (nI k)), some (.int (((nI WW) - 1) - (((nI WW) - 1) - (nI k)))), some (.int (((nI WW) - 1) - (nI I))), some (.int (nI (c I k))), some (.int (nI (c ((WW - 1) - ((WW - 1) - k)) ((WW - 1) - I))))], [], mz_up (mz_up (mz_set (mz_set b 72 r72) 73 r73) 72 (c I k) (nI (c ((WW - 1) - ((WW - 1) - k)) ((WW - 1) - I)))) 73 ((nI (c ((WW - 1) - ((WW - 1) - k)) ((WW - 1) - I))).toNatClampNeg) (nI (c I k)))) rfl (show mz_in (nI (c ((WW - 1) - ((WW - 1) - k)) ((WW - 1) - I))) 10 = true from sm_inN rfl (show (c ((WW - 1) - ((WW - 1) - k)) ((WW - 1) - I)) < 10 by omega) (by decide)) ?_
          rw [show (nI (c ((WW - 1) - ((WW - 1) - k)) ((WW - 1) - I)) : Int32).toNatClampNeg = (c ((WW - 1) - ((WW - 1) - k)) ((WW - 1) - I)) from sm_clN rfl (show (c ((WW - 1) - ((WW - 1) - k)) ((WW - 1) - I)) < 2 ^ 31 by omega)]
          refine mz_go 2 (c' := (88, [some (.ref 65), some (.int 3), some (.int 1), some (.int (nI I)), some (.int ((nI k) + 1)), some (.int (((nI WW) - 1) - (((nI WW) - 1) - (nI k)))), some (.int (((nI WW) - 1) - (nI I))), some (.int (nI (c I k))), some (.int (nI (c ((WW - 1) - ((WW - 1) - k)) ((WW - 1) - I))))], [], mz_up (mz_up (mz_set (mz_set b 72 r72) 73 r73) 72 (c I k) (nI (c ((WW - 1) - ((WW - 1) - k)) ((WW - 1) - I)))) 73 (c ((WW - 1) - ((WW - 1) - k)) ((WW - 1) - I)) (nI (c I k)))) rfl ?_
          exact hr
        · by_cases q4 : (r73 (c ((WW - 1) - ((WW - 1) - k)) ((WW - 1) - I))) = (nI (c I k))
          · have hm : mz_up (mz_up (mz_set (mz_set b 72 r72) 73 r73) 72 (c I k) (nI (c ((WW - 1) - ((WW - 1) - k)) ((WW - 1) - I)))) 73 (c ((WW - 1) - ((WW - 1) - k)) ((WW - 1) - I)) (nI (c I k)) = mz_set (mz_set b 72 ((mz_up (mz_up (mz_set (mz_set b 72 r72) 73 r73) 72 (c I k) (nI (c ((WW - 1) - ((WW - 1) - k)) ((WW - 1) - I)))) 73 (c ((WW - 1) - ((WW - 1) - k)) ((WW - 1) - I)) (nI (c I k))) 72)) 73 ((mz_up (mz_up (mz_set (mz_set b 72 r72) 73 r73) 72 (c I k) (nI (c ((WW - 1) - ((WW - 1) - k)) ((WW - 1) - I)))) 73 (c ((WW - 1) - ((WW - 1) - k)) ((WW - 1) - I)) (nI (c I k))) 73) := sm_of2 (fun i h1 h2 => by simp only [mz_set_ne h1, mz_set_ne h2, mz_up_ne h1, mz_up_ne h2])
            obtain ⟨b0, p0, p1, p2, p3, s72, s73, hin2, Er⟩ := ih (k + 1) (by omega) 1 (some (.int (((nI WW) - 1) - (((nI WW) - 1) - (nI k))))) (some (.int (((nI WW) - 1) - (nI I)))) (some (.int (nI (c I k)))) (some (.int (nI (c ((WW - 1) - ((WW - 1) - k)) ((WW - 1) - I))))) ((mz_up (mz_up (mz_set (mz_set b 72 r72) 73 r73) 72 (c I k) (nI (c ((WW - 1) - ((WW - 1) - k)) ((WW - 1) - I)))) 73 (c ((WW - 1) - ((WW - 1) - k)) ((WW - 1) - I)) (nI (c I k))) 72) ((mz_up (mz_up (mz_set (mz_set b 72 r72) 73 r73) 72 (c I k) (nI (c ((WW - 1) - ((WW - 1) - k)) ((WW - 1) - I)))) 73 (c ((WW - 1) - ((WW - 1) - k)) ((WW - 1) - I)) (nI (c I k))) 73) (vq_tuD h9 hI (by omega) hin q1 (Or.inl q2) (Or.inr q4) (fun v => by rw [mz_up_ne (show (72 : Nat) ≠ 73 by decide), mz_up_eq, mz_set_ne (show (72 : Nat) ≠ 73 by decide), mz_set_eq]; rfl) (fun v => by rw [mz_up_eq, mz_up_ne (show (73 : Nat) ≠ 72 by decide), mz_set_eq]; rfl))
            refine ⟨b0, p0, p1, p2, p3, s72, s73, hin2, fun r hr0 => ?_⟩
            have hr := Er r hr0
            rw [nI_succ k, ← hm] at hr
            refine mz_go 2 (c' := (91, [some (.ref 65), some (.int 3), some (.int a0), some (.int (nI I)), some (.int (nI k)), o0, o1, o2, o3], [.ref 65, .int (nI k)], mz_set (mz_set b 72 r72) 73 r73)) rfl ?_
            refine mz_doQ (R := mz_r183) (as := [.ref 65]) (rest := [.int (nI k)]) (r1 := some (.int (nI WW))) (m1 := mz_set (mz_set b 72 r72) 73 r73) mz_t183 mz_v183_65 rfl rfl rfl rfl rfl ⟨?_, rfl⟩ ?_
            · refine mz_go 4 (c' := (7, [some (.ref 65)], [.int (b 66 60)], mz_set (mz_set b 72 r72) 73 r73)) rfl ?_
              rw [h6660]
              exact mz_ret rfl
            refine mz_go 1 (c' := (if (nI WW) ≤ (nI k) then 235 else 97, [some (.ref 65), some (.int 3), some (.int a0), some (.int (nI I)), some (.int (nI k)), o0, o1, o2, o3], [], mz_set (mz_set b 72 r72) 73 r73)) rfl ?_
            refine mz_ifF (show ¬ ((nI WW) ≤ (nI k)) from (sm_nleN rfl rfl (show k < WW by omega) (show WW < 2 ^ 31 by omega))) ?_
            refine mz_go 12 (c' := (118, [some (.ref 65), some (.int 3), some (.int a0), some (.int (nI I)), some (.int (nI k)), some (.int (nI I)), some (.int (nI k)), some (.int 0), some (.int (nI I))], [.ref 65], mz_set (mz_set b 72 r72) 73 r73)) rfl ?_
            refine mz_doQ (R := mz_r183) (as := [.ref 65]) (rest := []) (r1 := some (.int (nI WW))) (m1 := mz_set (mz_set b 72 r72) 73 r73) mz_t183 mz_v183_65 rfl rfl rfl rfl rfl ⟨?_, rfl⟩ ?_
            · refine mz_go 4 (c' := (7, [some (.ref 65)], [.int (b 66 60)], mz_set (mz_set b 72 r72) 73 r73)) rfl ?_
              rw [h6660]
              exact mz_ret rfl
            refine mz_go 15 (c' := (118, [some (.ref 65), some (.int 3), some (.int a0), some (.int (nI I)), some (.int (nI k)), some (.int (((nI WW) - 1) - (nI k))), some (.int (nI I)), some (.int 1), some (.int (((nI WW) - 1) - (nI k)))], [.ref 65], mz_set (mz_set b 72 r72) 73 r73)) rfl ?_
            refine mz_doQ (R := mz_r183) (as := [.ref 65]) (rest := []) (r1 := some (.int (nI WW))) (m1 := mz_set (mz_set b 72 r72) 73 r73) mz_t183 mz_v183_65 rfl rfl rfl rfl rfl ⟨?_, rfl⟩ ?_
            · refine mz_go 4 (c' := (7, [some (.ref 65)], [.int (b 66 60)], mz_set (mz_set b 72 r72) 73 r73)) rfl ?_
              rw [h6660]
              exact mz_ret rfl
            refine mz_go 15 (c' := (118, [some (.ref 65), some (.int 3), some (.int a0), some (.int (nI I)), some (.int (nI k)), some (.int (((nI WW) - 1) - (nI I))), some (.int (((nI WW) - 1) - (nI k))), some (.int 2), some (.int (((nI WW) - 1) - (nI I)))], [.ref 65], mz_set (mz_set b 72 r72) 73 r73)) rfl ?_
            refine mz_doQ (R := mz_r183) (as := [.ref 65]) (rest := []) (r1 := some (.int (nI WW))) (m1 := mz_set (mz_set b 72 r72) 73 r73) mz_t183 mz_v183_65 rfl rfl rfl rfl rfl ⟨?_, rfl⟩ ?_
            · refine mz_go 4 (c' := (7, [some (.ref 65)], [.int (b 66 60)], mz_set (mz_set b 72 r72) 73 r73)) rfl ?_
              rw [h6660]
              exact mz_ret rfl
            refine mz_go 15 (c' := (142, [some (.ref 65), some (.int 3), some (.int a0), some (.int (nI I)), some (.int (nI k)), some (.int (((nI WW) - 1) - (((nI WW) - 1) - (nI k)))), some (.int (((nI WW) - 1) - (nI I))), some (.int 3), some (.int (((nI WW) - 1) - (nI I)))], [.int (nI k), .int (nI I), .ref 65], mz_set (mz_set b 72 r72) 73 r73)) rfl ?_
            refine mz_doQ (R := mz_r186) (as := [.ref 65, .int (nI I), .int (nI k)]) (rest := []) (r1 := some (.int (nI (c I k)))) (m1 := mz_set (mz_set b 72 r72) 73 r73) mz_t186 mz_v186_65 rfl rfl rfl rfl rfl (Ez1.deep (by decide)) ?_
            refine mz_go 4 (c' := (152, [some (.ref 65), some (.int 3), some (.int a0), some (.int (nI I)), some (.int (nI k)), some (.int (((nI WW) - 1) - (((nI WW) - 1) - (nI k)))), some (.int (((nI WW) - 1) - (nI I))), some (.int (nI (c I k))), some (.int (((nI WW) - 1) - (nI I)))], [.int (((nI WW) - 1) - (nI I)), .int (((nI WW) - 1) - (((nI WW) - 1) - (nI k))), .ref 65], mz_set (mz_set b 72 r72) 73 r73)) rfl ?_
            refine mz_doQ (R := mz_r186) (as := [.ref 65, .int (((nI WW) - 1) - (((nI WW) - 1) - (nI k))), .int (((nI WW) - 1) - (nI I))]) (rest := []) (r1 := some (.int (nI (c ((WW - 1) - ((WW - 1) - k)) ((WW - 1) - I))))) (m1 := mz_set (mz_set b 72 r72) 73 r73) mz_t186 mz_v186_65 rfl rfl rfl rfl rfl (Ez2.deep (by decide)) ?_
            refine mz_go 3 (c' := (if a0 = 0 then 209 else 161, [some (.ref 65), some (.int 3), some (.int a0), some (.int (nI I)), some (.int (nI k)), some (.int (((nI WW) - 1) - (((nI WW) - 1) - (nI k)))), some (.int (((nI WW) - 1) - (nI I))), some (.int (nI (c I k))), some (.int (nI (c ((WW - 1) - ((WW - 1) - k)) ((WW - 1) - I))))], [], mz_set (mz_set b 72 r72) 73 r73)) rfl ?_
            refine mz_ifF q1 ?_
            refine mz_go 3 (c' := (167, [some (.ref 65), some (.int 3), some (.int a0), some (.int (nI I)), some (.int (nI k)), some (.int (((nI WW) - 1) - (((nI WW) - 1) - (nI k)))), some (.int (((nI WW) - 1) - (nI I))), some (.int (nI (c I k))), some (.int (nI (c ((WW - 1) - ((WW - 1) - k)) ((WW - 1) - I))))], [.int (nI (c I k)), .ref 72], mz_set (mz_set b 72 r72) 73 r73)) rfl ?_
            refine mz_arr (c' := (168, [some (.ref 65), some (.int 3), some (.int a0), some (.int (nI I)), some (.int (nI k)), some (.int (((nI WW) - 1) - (((nI WW) - 1) - (nI k)))), some (.int (((nI WW) - 1) - (nI I))), some (.int (nI (c I k))), some (.int (nI (c ((WW - 1) - ((WW - 1) - k)) ((WW - 1) - I))))], [.int (r72 ((nI (c I k)).toNatClampNeg))], mz_set (mz_set b 72 r72) 73 r73)) rfl (show mz_in (nI (c I k)) 10 = true from sm_inN rfl (show (c I k) < 10 by omega) (by decide)) ?_
            rw [show (nI (c I k) : Int32).toNatClampNeg = (c I k) from sm_clN rfl (show (c I k) < 2 ^ 31 by omega)]
            refine mz_go 1 (c' := (if (r72 (c I k)) < 0 then 183 else 171, [some (.ref 65), some (.int 3), some (.int a0), some (.int (nI I)), some (.int (nI k)), some (.int (((nI WW) - 1) - (((nI WW) - 1) - (nI k)))), some (.int (((nI WW) - 1) - (nI I))), some (.int (nI (c I k))), some (.int (nI (c ((WW - 1) - ((WW - 1) - k)) ((WW - 1) - I))))], [], mz_set (mz_set b 72 r72) 73 r73)) rfl ?_
            refine mz_ifT q2 ?_
            refine mz_go 3 (c' := (189, [some (.ref 65), some (.int 3), some (.int a0), some (.int (nI I)), some (.int (nI k)), some (.int (((nI WW) - 1) - (((nI WW) - 1) - (nI k)))), some (.int (((nI WW) - 1) - (nI I))), some (.int (nI (c I k))), some (.int (nI (c ((WW - 1) - ((WW - 1) - k)) ((WW - 1) - I))))], [.int (nI (c ((WW - 1) - ((WW - 1) - k)) ((WW - 1) - I))), .ref 73], mz_set (mz_set b 72 r72) 73 r73)) rfl ?_
            refine mz_arr (c' := (190, [some (.ref 65), some (.int 3), some (.int a0), some (.int (nI I)), some (.int (nI k)), some (.int (((nI WW) - 1) - (((nI WW) - 1) - (nI k)))), some (.int (((nI WW) - 1) - (nI I))), some (.int (nI (c I k))), some (.int (nI (c ((WW - 1) - ((WW - 1) - k)) ((WW - 1) - I))))], [.int (r73 ((nI (c ((WW - 1) - ((WW - 1) - k)) ((WW - 1) - I))).toNatClampNeg))], mz_set (mz_set b 72 r72) 73 r73)) rfl (show mz_in (nI (c ((WW - 1) - ((WW - 1) - k)) ((WW - 1) - I))) 10 = true from sm_inN rfl (show (c ((WW - 1) - ((WW - 1) - k)) ((WW - 1) - I)) < 10 by omega) (by decide)) ?_
            rw [show (nI (c ((WW - 1) - ((WW - 1) - k)) ((WW - 1) - I)) : Int32).toNatClampNeg = (c ((WW - 1) - ((WW - 1) - k)) ((WW - 1) - I)) from sm_clN rfl (show (c ((WW - 1) - ((WW - 1) - k)) ((WW - 1) - I)) < 2 ^ 31 by omega)]
            refine mz_go 1 (c' := (if (r73 (c ((WW - 1) - ((WW - 1) - k)) ((WW - 1) - I))) < 0 then 205 else 193, [some (.ref 65), some (.int 3), some (.int a0), some (.int (nI I)), some (.int (nI k)), some (.int (((nI WW) - 1) - (((nI WW) - 1) - (nI k)))), some (.int (((nI WW) - 1) - (nI I))), some (.int (nI (c I k))), some (.int (nI (c ((WW - 1) - ((WW - 1) - k)) ((WW - 1) - I))))], [], mz_set (mz_set b 72 r72) 73 r73)) rfl ?_
            refine mz_ifF q3 ?_
            refine mz_go 3 (c' := (199, [some (.ref 65), some (.int 3), some (.int a0), some (.int (nI I)), some (.int (nI k)), some (.int (((nI WW) - 1) - (((nI WW) - 1) - (nI k)))), some (.int (((nI WW) - 1) - (nI I))), some (.int (nI (c I k))), some (.int (nI (c ((WW - 1) - ((WW - 1) - k)) ((WW - 1) - I))))], [.int (nI (c ((WW - 1) - ((WW - 1) - k)) ((WW - 1) - I))), .ref 73], mz_set (mz_set b 72 r72) 73 r73)) rfl ?_
            refine mz_arr (c' := (200, [some (.ref 65), some (.int 3), some (.int a0), some (.int (nI I)), some (.int (nI k)), some (.int (((nI WW) - 1) - (((nI WW) - 1) - (nI k)))), some (.int (((nI WW) - 1) - (nI I))), some (.int (nI (c I k))), some (.int (nI (c ((WW - 1) - ((WW - 1) - k)) ((WW - 1) - I))))], [.int (r73 ((nI (c ((WW - 1) - ((WW - 1) - k)) ((WW - 1) - I))).toNatClampNeg))], mz_set (mz_set b 72 r72) 73 r73)) rfl (show mz_in (nI (c ((WW - 1) - ((WW - 1) - k)) ((WW - 1) - I))) 10 = true from sm_inN rfl (show (c ((WW - 1) - ((WW - 1) - k)) ((WW - 1) - I)) < 10 by omega) (by decide)) ?_
            rw [show (nI (c ((WW - 1) - ((WW - 1) - k)) ((WW - 1) - I)) : Int32).toNatClampNeg = (c ((WW - 1) - ((WW - 1) - k)) ((WW - 1) - I)) from sm_clN rfl (show (c ((WW - 1) - ((WW - 1) - k)) ((WW - 1) - I)) < 2 ^ 31 by omega)]
            refine mz_go 2 (c' := (if (r73 (c ((WW - 1) - ((WW - 1) - k)) ((WW - 1) - I))) = (nI (c I k)) then 205 else 209, [some (.ref 65), some (.int 3), some (.int a0), some (.int (nI I)), some (.int (nI k)), some (.int (((nI WW) - 1) - (((nI WW) - 1) - (nI k)))), some (.int (((nI WW) - 1) - (nI I))), some (.int (nI (c I k))), some (.int (nI (c ((WW - 1) - ((WW - 1) - k)) ((WW - 1) - I))))], [], mz_set (mz_set b 72 r72) 73 r73)) rfl ?_
            refine mz_ifT q4 ?_
            refine mz_go 7 (c' := (219, [some (.ref 65), some (.int 3), some (.int 1), some (.int (nI I)), some (.int (nI k)), some (.int (((nI WW) - 1) - (((nI WW) - 1) - (nI k)))), some (.int (((nI WW) - 1) - (nI I))), some (.int (nI (c I k))), some (.int (nI (c ((WW - 1) - ((WW - 1) - k)) ((WW - 1) - I))))], [.int (nI (c ((WW - 1) - ((WW - 1) - k)) ((WW - 1) - I))), .int (nI (c I k)), .ref 72], mz_set (mz_set b 72 r72) 73 r73)) rfl ?_
            refine mz_arr (c' := (220, [some (.ref 65), some (.int 3), some (.int 1), some (.int (nI I)), some (.int (nI k)), some (.int (((nI WW) - 1) - (((nI WW) - 1) - (nI k)))), some (.int (((nI WW) - 1) - (nI I))), some (.int (nI (c I k))), some (.int (nI (c ((WW - 1) - ((WW - 1) - k)) ((WW - 1) - I))))], [], mz_up (mz_set (mz_set b 72 r72) 73 r73) 72 ((nI (c I k)).toNatClampNeg) (nI (c ((WW - 1) - ((WW - 1) - k)) ((WW - 1) - I))))) rfl (show mz_in (nI (c I k)) 10 = true from sm_inN rfl (show (c I k) < 10 by omega) (by decide)) ?_
            rw [show (nI (c I k) : Int32).toNatClampNeg = (c I k) from sm_clN rfl (show (c I k) < 2 ^ 31 by omega)]
            refine mz_go 4 (c' := (228, [some (.ref 65), some (.int 3), some (.int 1), some (.int (nI I)), some (.int (nI k)), some (.int (((nI WW) - 1) - (((nI WW) - 1) - (nI k)))), some (.int (((nI WW) - 1) - (nI I))), some (.int (nI (c I k))), some (.int (nI (c ((WW - 1) - ((WW - 1) - k)) ((WW - 1) - I))))], [.int (nI (c I k)), .int (nI (c ((WW - 1) - ((WW - 1) - k)) ((WW - 1) - I))), .ref 73], mz_up (mz_set (mz_set b 72 r72) 73 r73) 72 (c I k) (nI (c ((WW - 1) - ((WW - 1) - k)) ((WW - 1) - I))))) rfl ?_
            refine mz_arr (c' := (229, [some (.ref 65), some (.int 3), some (.int 1), some (.int (nI I)), some (.int (nI k)), some (.int (((nI WW) - 1) - (((nI WW) - 1) - (nI k)))), some (.int (((nI WW) - 1) - (nI I))), some (.int (nI (c I k))), some (.int (nI (c ((WW - 1) - ((WW - 1) - k)) ((WW - 1) - I))))], [], mz_up (mz_up (mz_set (mz_set b 72 r72) 73 r73) 72 (c I k) (nI (c ((WW - 1) - ((WW - 1) - k)) ((WW - 1) - I)))) 73 ((nI (c ((WW - 1) - ((WW - 1) - k)) ((WW - 1) - I))).toNatClampNeg) (nI (c I k)))) rfl (show mz_in (nI (c ((WW - 1) - ((WW - 1) - k)) ((WW - 1) - I))) 10 = true from sm_inN rfl (show (c ((WW - 1) - ((WW - 1) - k)) ((WW - 1) - I)) < 10 by omega) (by decide)) ?_
            rw [show (nI (c ((WW - 1) - ((WW - 1) - k)) ((WW - 1) - I)) : Int32).toNatClampNeg = (c ((WW - 1) - ((WW - 1) - k)) ((WW - 1) - I)) from sm_clN rfl (show (c ((WW - 1) - ((WW - 1) - k)) ((WW - 1) - I)) < 2 ^ 31 by omega)]
            refine mz_go 2 (c' := (88, [some (.ref 65), some (.int 3), some (.int 1), some (.int (nI I)), some (.int ((nI k) + 1)), some (.int (((nI WW) - 1) - (((nI WW) - 1) - (nI k)))), some (.int (((nI WW) - 1) - (nI I))), some (.int (nI (c I k))), some (.int (nI (c ((WW - 1) - ((WW - 1) - k)) ((WW - 1) - I))))], [], mz_up (mz_up (mz_set (mz_set b 72 r72) 73 r73) 72 (c I k) (nI (c ((WW - 1) - ((WW - 1) - k)) ((WW - 1) - I)))) 73 (c ((WW - 1) - ((WW - 1) - k)) ((WW - 1) - I)) (nI (c I k)))) rfl ?_
            exact hr
          · have hm : mz_up (mz_up (mz_set (mz_set b 72 r72) 73 r73) 72 (c I k) (nI (c ((WW - 1) - ((WW - 1) - k)) ((WW - 1) - I)))) 73 (c ((WW - 1) - ((WW - 1) - k)) ((WW - 1) - I)) (nI (c I k)) = mz_set (mz_set b 72 ((mz_up (mz_up (mz_set (mz_set b 72 r72) 73 r73) 72 (c I k) (nI (c ((WW - 1) - ((WW - 1) - k)) ((WW - 1) - I)))) 73 (c ((WW - 1) - ((WW - 1) - k)) ((WW - 1) - I)) (nI (c I k))) 72)) 73 ((mz_up (mz_up (mz_set (mz_set b 72 r72) 73 r73) 72 (c I k) (nI (c ((WW - 1) - ((WW - 1) - k)) ((WW - 1) - I)))) 73 (c ((WW - 1) - ((WW - 1) - k)) ((WW - 1) - I)) (nI (c I k))) 73) := sm_of2 (fun i h1 h2 => by simp only [mz_set_ne h1, mz_set_ne h2, mz_up_ne h1, mz_up_ne h2])
            obtain ⟨b0, p0, p1, p2, p3, s72, s73, hin2, Er⟩ := ih (k + 1) (by omega) 0 (some (.int (((nI WW) - 1) - (((nI WW) - 1) - (nI k))))) (some (.int (((nI WW) - 1) - (nI I)))) (some (.int (nI (c I k)))) (some (.int (nI (c ((WW - 1) - ((WW - 1) - k)) ((WW - 1) - I))))) ((mz_up (mz_up (mz_set (mz_set b 72 r72) 73 r73) 72 (c I k) (nI (c ((WW - 1) - ((WW - 1) - k)) ((WW - 1) - I)))) 73 (c ((WW - 1) - ((WW - 1) - k)) ((WW - 1) - I)) (nI (c I k))) 72) ((mz_up (mz_up (mz_set (mz_set b 72 r72) 73 r73) 72 (c I k) (nI (c ((WW - 1) - ((WW - 1) - k)) ((WW - 1) - I)))) 73 (c ((WW - 1) - ((WW - 1) - k)) ((WW - 1) - I)) (nI (c I k))) 73) (vq_tuC h9 hI (by omega) hin q1 q3 q4)
            refine ⟨b0, p0, p1, p2, p3, s72, s73, hin2, fun r hr0 => ?_⟩
            have hr := Er r hr0
            rw [nI_succ k, ← hm] at hr
            refine mz_go 2 (c' := (91, [some (.ref 65), some (.int 3), some (.int a0), some (.int (nI I)), some (.int (nI k)), o0, o1, o2, o3], [.ref 65, .int (nI k)], mz_set (mz_set b 72 r72) 73 r73)) rfl ?_
            refine mz_doQ (R := mz_r183) (as := [.ref 65]) (rest := [.int (nI k)]) (r1 := some (.int (nI WW))) (m1 := mz_set (mz_set b 72 r72) 73 r73) mz_t183 mz_v183_65 rfl rfl rfl rfl rfl ⟨?_, rfl⟩ ?_
            · refine mz_go 4 (c' := (7, [some (.ref 65)], [.int (b 66 60)], mz_set (mz_set b 72 r72) 73 r73)) rfl ?_
              rw [h6660]
              exact mz_ret rfl
            refine mz_go 1 (c' := (if (nI WW) ≤ (nI k) then 235 else 97, [some (.ref 65), some (.int 3), some (.int a0), some (.int (nI I)), some (.int (nI k)), o0, o1, o2, o3], [], mz_set (mz_set b 72 r72) 73 r73)) rfl ?_
            refine mz_ifF (show ¬ ((nI WW) ≤ (nI k)) from (sm_nleN rfl rfl (show k < WW by omega) (show WW < 2 ^ 31 by omega))) ?_
            refine mz_go 12 (c' := (118, [some (.ref 65), some (.int 3), some (.int a0), some (.int (nI I)), some (.int (nI k)), some (.int (nI I)), some (.int (nI k)), some (.int 0), some (.int (nI I))], [.ref 65], mz_set (mz_set b 72 r72) 73 r73)) rfl ?_
            refine mz_doQ (R := mz_r183) (as := [.ref 65]) (rest := []) (r1 := some (.int (nI WW))) (m1 := mz_set (mz_set b 72 r72) 73 r73) mz_t183 mz_v183_65 rfl rfl rfl rfl rfl ⟨?_, rfl⟩ ?_
            · refine mz_go 4 (c' := (7, [some (.ref 65)], [.int (b 66 60)], mz_set (mz_set b 72 r72) 73 r73)) rfl ?_
              rw [h6660]
              exact mz_ret rfl
            refine mz_go 15 (c' := (118, [some (.ref 65), some (.int 3), some (.int a0), some (.int (nI I)), some (.int (nI k)), some (.int (((nI WW) - 1) - (nI k))), some (.int (nI I)), some (.int 1), some (.int (((nI WW) - 1) - (nI k)))], [.ref 65], mz_set (mz_set b 72 r72) 73 r73)) rfl ?_
            refine mz_doQ (R := mz_r183) (as := [.ref 65]) (rest := []) (r1 := some (.int (nI WW))) (m1 := mz_set (mz_set b 72 r72) 73 r73) mz_t183 mz_v183_65 rfl rfl rfl rfl rfl ⟨?_, rfl⟩ ?_
            · refine mz_go 4 (c' := (7, [some (.ref 65)], [.int (b 66 60)], mz_set (mz_set b 72 r72) 73 r73)) rfl ?_
              rw [h6660]
              exact mz_ret rfl
            refine mz_go 15 (c' := (118, [some (.ref 65), some (.int 3), some (.int a0), some (.int (nI I)), some (.int (nI k)), some (.int (((nI WW) - 1) - (nI I))), some (.int (((nI WW) - 1) - (nI k))), some (.int 2), some (.int (((nI WW) - 1) - (nI I)))], [.ref 65], mz_set (mz_set b 72 r72) 73 r73)) rfl ?_
            refine mz_doQ (R := mz_r183) (as := [.ref 65]) (rest := []) (r1 := some (.int (nI WW))) (m1 := mz_set (mz_set b 72 r72) 73 r73) mz_t183 mz_v183_65 rfl rfl rfl rfl rfl ⟨?_, rfl⟩ ?_
            · refine mz_go 4 (c' := (7, [some (.ref 65)], [.int (b 66 60)], mz_set (mz_set b 72 r72) 73 r73)) rfl ?_
              rw [h6660]
              exact mz_ret rfl
            refine mz_go 15 (c' := (142, [some (.ref 65), some (.int 3), some (.int a0), some (.int (nI I)), some (.int (nI k)), some (.int (((nI WW) - 1) - (((nI WW) - 1) - (nI k)))), some (.int (((nI WW) - 1) - (nI I))), some (.int 3), some (.int (((nI WW) - 1) - (nI I)))], [.int (nI k), .int (nI I), .ref 65], mz_set (mz_set b 72 r72) 73 r73)) rfl ?_
            refine mz_doQ (R := mz_r186) (as := [.ref 65, .int (nI I), .int (nI k)]) (rest := []) (r1 := some (.int (nI (c I k)))) (m1 := mz_set (mz_set b 72 r72) 73 r73) mz_t186 mz_v186_65 rfl rfl rfl rfl rfl (Ez1.deep (by decide)) ?_
            refine mz_go 4 (c' := (152, [some (.ref 65), some (.int 3), some (.int a0), some (.int (nI I)), some (.int (nI k)), some (.int (((nI WW) - 1) - (((nI WW) - 1) - (nI k)))), some (.int (((nI WW) - 1) - (nI I))), some (.int (nI (c I k))), some (.int (((nI WW) - 1) - (nI I)))], [.int (((nI WW) - 1) - (nI I)), .int (((nI WW) - 1) - (((nI WW) - 1) - (nI k))), .ref 65], mz_set (mz_set b 72 r72) 73 r73)) rfl ?_
            refine mz_doQ (R := mz_r186) (as := [.ref 65, .int (((nI WW) - 1) - (((nI WW) - 1) - (nI k))), .int (((nI WW) - 1) - (nI I))]) (rest := []) (r1 := some (.int (nI (c ((WW - 1) - ((WW - 1) - k)) ((WW - 1) - I))))) (m1 := mz_set (mz_set b 72 r72) 73 r73) mz_t186 mz_v186_65 rfl rfl rfl rfl rfl (Ez2.deep (by decide)) ?_
            refine mz_go 3 (c' := (if a0 = 0 then 209 else 161, [some (.ref 65), some (.int 3), some (.int a0), some (.int (nI I)), some (.int (nI k)), some (.int (((nI WW) - 1) - (((nI WW) - 1) - (nI k)))), some (.int (((nI WW) - 1) - (nI I))), some (.int (nI (c I k))), some (.int (nI (c ((WW - 1) - ((WW - 1) - k)) ((WW - 1) - I))))], [], mz_set (mz_set b 72 r72) 73 r73)) rfl ?_
            refine mz_ifF q1 ?_
            refine mz_go 3 (c' := (167, [some (.ref 65), some (.int 3), some (.int a0), some (.int (nI I)), some (.int (nI k)), some (.int (((nI WW) - 1) - (((nI WW) - 1) - (nI k)))), some (.int (((nI WW) - 1) - (nI I))), some (.int (nI (c I k))), some (.int (nI (c ((WW - 1) - ((WW - 1) - k)) ((WW - 1) - I))))], [.int (nI (c I k)), .ref 72], mz_set (mz_set b 72 r72) 73 r73)) rfl ?_
            refine mz_arr (c' := (168, [some (.ref 65), some (.int 3), some (.int a0), some (.int (nI I)), some (.int (nI k)), some (.int (((nI WW) - 1) - (((nI WW) - 1) - (nI k)))), some (.int (((nI WW) - 1) - (nI I))), some (.int (nI (c I k))), some (.int (nI (c ((WW - 1) - ((WW - 1) - k)) ((WW - 1) - I))))], [.int (r72 ((nI (c I k)).toNatClampNeg))], mz_set (mz_set b 72 r72) 73 r73)) rfl (show mz_in (nI (c I k)) 10 = true from sm_inN rfl (show (c I k) < 10 by omega) (by decide)) ?_
            rw [show (nI (c I k) : Int32).toNatClampNeg = (c I k) from sm_clN rfl (show (c I k) < 2 ^ 31 by omega)]
            refine mz_go 1 (c' := (if (r72 (c I k)) < 0 then 183 else 171, [some (.ref 65), some (.int 3), some (.int a0), some (.int (nI I)), some (.int (nI k)), some (.int (((nI WW) - 1) - (((nI WW) - 1) - (nI k)))), some (.int (((nI WW) - 1) - (nI I))), some (.int (nI (c I k))), some (.int (nI (c ((WW - 1) - ((WW - 1) - k)) ((WW - 1) - I))))], [], mz_set (mz_set b 72 r72) 73 r73)) rfl ?_
            refine mz_ifT q2 ?_
            refine mz_go 3 (c' := (189, [some (.ref 65), some (.int 3), some (.int a0), some (.int (nI I)), some (.int (nI k)), some (.int (((nI WW) - 1) - (((nI WW) - 1) - (nI k)))), some (.int (((nI WW) - 1) - (nI I))), some (.int (nI (c I k))), some (.int (nI (c ((WW - 1) - ((WW - 1) - k)) ((WW - 1) - I))))], [.int (nI (c ((WW - 1) - ((WW - 1) - k)) ((WW - 1) - I))), .ref 73], mz_set (mz_set b 72 r72) 73 r73)) rfl ?_
            refine mz_arr (c' := (190, [some (.ref 65), some (.int 3), some (.int a0), some (.int (nI I)), some (.int (nI k)), some (.int (((nI WW) - 1) - (((nI WW) - 1) - (nI k)))), some (.int (((nI WW) - 1) - (nI I))), some (.int (nI (c I k))), some (.int (nI (c ((WW - 1) - ((WW - 1) - k)) ((WW - 1) - I))))], [.int (r73 ((nI (c ((WW - 1) - ((WW - 1) - k)) ((WW - 1) - I))).toNatClampNeg))], mz_set (mz_set b 72 r72) 73 r73)) rfl (show mz_in (nI (c ((WW - 1) - ((WW - 1) - k)) ((WW - 1) - I))) 10 = true from sm_inN rfl (show (c ((WW - 1) - ((WW - 1) - k)) ((WW - 1) - I)) < 10 by omega) (by decide)) ?_
            rw [show (nI (c ((WW - 1) - ((WW - 1) - k)) ((WW - 1) - I)) : Int32).toNatClampNeg = (c ((WW - 1) - ((WW - 1) - k)) ((WW - 1) - I)) from sm_clN rfl (show (c ((WW - 1) - ((WW - 1) - k)) ((WW - 1) - I)) < 2 ^ 31 by omega)]
            refine mz_go 1 (c' := (if (r73 (c ((WW - 1) - ((WW - 1) - k)) ((WW - 1) - I))) < 0 then 205 else 193, [some (.ref 65), some (.int 3), some (.int a0), some (.int (nI I)), some (.int (nI k)), some (.int (((nI WW) - 1) - (((nI WW) - 1) - (nI k)))), some (.int (((nI WW) - 1) - (nI I))), some (.int (nI (c I k))), some (.int (nI (c ((WW - 1) - ((WW - 1) - k)) ((WW - 1) - I))))], [], mz_set (mz_set b 72 r72) 73 r73)) rfl ?_
            refine mz_ifF q3 ?_
            refine mz_go 3 (c' := (199, [some (.ref 65), some (.int 3), some (.int a0), some (.int (nI I)), some (.int (nI k)), some (.int (((nI WW) - 1) - (((nI WW) - 1) - (nI k)))), some (.int (((nI WW) - 1) - (nI I))), some (.int (nI (c I k))), some (.int (nI (c ((WW - 1) - ((WW - 1) - k)) ((WW - 1) - I))))], [.int (nI (c ((WW - 1) - ((WW - 1) - k)) ((WW - 1) - I))), .ref 73], mz_set (mz_set b 72 r72) 73 r73)) rfl ?_
            refine mz_arr (c' := (200, [some (.ref 65), some (.int 3), some (.int a0), some (.int (nI I)), some (.int (nI k)), some (.int (((nI WW) - 1) - (((nI WW) - 1) - (nI k)))), some (.int (((nI WW) - 1) - (nI I))), some (.int (nI (c I k))), some (.int (nI (c ((WW - 1) - ((WW - 1) - k)) ((WW - 1) - I))))], [.int (r73 ((nI (c ((WW - 1) - ((WW - 1) - k)) ((WW - 1) - I))).toNatClampNeg))], mz_set (mz_set b 72 r72) 73 r73)) rfl (show mz_in (nI (c ((WW - 1) - ((WW - 1) - k)) ((WW - 1) - I))) 10 = true from sm_inN rfl (show (c ((WW - 1) - ((WW - 1) - k)) ((WW - 1) - I)) < 10 by omega) (by decide)) ?_
            rw [show (nI (c ((WW - 1) - ((WW - 1) - k)) ((WW - 1) - I)) : Int32).toNatClampNeg = (c ((WW - 1) - ((WW - 1) - k)) ((WW - 1) - I)) from sm_clN rfl (show (c ((WW - 1) - ((WW - 1) - k)) ((WW - 1) - I)) < 2 ^ 31 by omega)]
            refine mz_go 2 (c' := (if (r73 (c ((WW - 1) - ((WW - 1) - k)) ((WW - 1) - I))) = (nI (c I k)) then 205 else 209, [some (.ref 65), some (.int 3), some (.int a0), some (.int (nI I)), some (.int (nI k)), some (.int (((nI WW) - 1) - (((nI WW) - 1) - (nI k)))), some (.int (((nI WW) - 1) - (nI I))), some (.int (nI (c I k))), some (.int (nI (c ((WW - 1) - ((WW - 1) - k)) ((WW - 1) - I))))], [], mz_set (mz_set b 72 r72) 73 r73)) rfl ?_
            refine mz_ifF q4 ?_
            refine mz_go 6 (c' := (219, [some (.ref 65), some (.int 3), some (.int 0), some (.int (nI I)), some (.int (nI k)), some (.int (((nI WW) - 1) - (((nI WW) - 1) - (nI k)))), some (.int (((nI WW) - 1) - (nI I))), some (.int (nI (c I k))), some (.int (nI (c ((WW - 1) - ((WW - 1) - k)) ((WW - 1) - I))))], [.int (nI (c ((WW - 1) - ((WW - 1) - k)) ((WW - 1) - I))), .int (nI (c I k)), .ref 72], mz_set (mz_set b 72 r72) 73 r73)) rfl ?_
            refine mz_arr (c' := (220, [some (.ref 65), some (.int 3), some (.int 0), some (.int (nI I)), some (.int (nI k)), some (.int (((nI WW) - 1) - (((nI WW) - 1) - (nI k)))), some (.int (((nI WW) - 1) - (nI I))), some (.int (nI (c I k))), some (.int (nI (c ((WW - 1) - ((WW - 1) - k)) ((WW - 1) - I))))], [], mz_up (mz_set (mz_set b 72 r72) 73 r73) 72 ((nI (c I k)).toNatClampNeg) (nI (c ((WW - 1) - ((WW - 1) - k)) ((WW - 1) - I))))) rfl (show mz_in (nI (c I k)) 10 = true from sm_inN rfl (show (c I k) < 10 by omega) (by decide)) ?_
            rw [show (nI (c I k) : Int32).toNatClampNeg = (c I k) from sm_clN rfl (show (c I k) < 2 ^ 31 by omega)]
            refine mz_go 4 (c' := (228, [some (.ref 65), some (.int 3), some (.int 0), some (.int (nI I)), some (.int (nI k)), some (.int (((nI WW) - 1) - (((nI WW) - 1) - (nI k)))), some (.int (((nI WW) - 1) - (nI I))), some (.int (nI (c I k))), some (.int (nI (c ((WW - 1) - ((WW - 1) - k)) ((WW - 1) - I))))], [.int (nI (c I k)), .int (nI (c ((WW - 1) - ((WW - 1) - k)) ((WW - 1) - I))), .ref 73], mz_up (mz_set (mz_set b 72 r72) 73 r73) 72 (c I k) (nI (c ((WW - 1) - ((WW - 1) - k)) ((WW - 1) - I))))) rfl ?_
            refine mz_arr (c' := (229, [some (.ref 65), some (.int 3), some (.int 0), some (.int (nI I)), some (.int (nI k)), some (.int (((nI WW) - 1) - (((nI WW) - 1) - (nI k)))), some (.int (((nI WW) - 1) - (nI I))), some (.int (nI (c I k))), some (.int (nI (c ((WW - 1) - ((WW - 1) - k)) ((WW - 1) - I))))], [], mz_up (mz_up (mz_set (mz_set b 72 r72) 73 r73) 72 (c I k) (nI (c ((WW - 1) - ((WW - 1) - k)) ((WW - 1) - I)))) 73 ((nI (c ((WW - 1) - ((WW - 1) - k)) ((WW - 1) - I))).toNatClampNeg) (nI (c I k)))) rfl (show mz_in (nI (c ((WW - 1) - ((WW - 1) - k)) ((WW - 1) - I))) 10 = true from sm_inN rfl (show (c ((WW - 1) - ((WW - 1) - k)) ((WW - 1) - I)) < 10 by omega) (by decide)) ?_
            rw [show (nI (c ((WW - 1) - ((WW - 1) - k)) ((WW - 1) - I)) : Int32).toNatClampNeg = (c ((WW - 1) - ((WW - 1) - k)) ((WW - 1) - I)) from sm_clN rfl (show (c ((WW - 1) - ((WW - 1) - k)) ((WW - 1) - I)) < 2 ^ 31 by omega)]
            refine mz_go 2 (c' := (88, [some (.ref 65), some (.int 3), some (.int 0), some (.int (nI I)), some (.int ((nI k) + 1)), some (.int (((nI WW) - 1) - (((nI WW) - 1) - (nI k)))), some (.int (((nI WW) - 1) - (nI I))), some (.int (nI (c I k))), some (.int (nI (c ((WW - 1) - ((WW - 1) - k)) ((WW - 1) - I))))], [], mz_up (mz_up (mz_set (mz_set b 72 r72) 73 r73) 72 (c I k) (nI (c ((WW - 1) - ((WW - 1) - k)) ((WW - 1) - I)))) 73 (c ((WW - 1) - ((WW - 1) - k)) ((WW - 1) - I)) (nI (c I k)))) rfl ?_
            exact hr
      · by_cases q5 : (r72 (c I k)) = (nI (c ((WW - 1) - ((WW - 1) - k)) ((WW - 1) - I)))
        · by_cases q6 : (r73 (c ((WW - 1) - ((WW - 1) - k)) ((WW - 1) - I))) < 0
          · have hm : mz_up (mz_up (mz_set (mz_set b 72 r72) 73 r73) 72 (c I k) (nI (c ((WW - 1) - ((WW - 1) - k)) ((WW - 1) - I)))) 73 (c ((WW - 1) - ((WW - 1) - k)) ((WW - 1) - I)) (nI (c I k)) = mz_set (mz_set b 72 ((mz_up (mz_up (mz_set (mz_set b 72 r72) 73 r73) 72 (c I k) (nI (c ((WW - 1) - ((WW - 1) - k)) ((WW - 1) - I)))) 73 (c ((WW - 1) - ((WW - 1) - k)) ((WW - 1) - I)) (nI (c I k))) 72)) 73 ((mz_up (mz_up (mz_set (mz_set b 72 r72) 73 r73) 72 (c I k) (nI (c ((WW - 1) - ((WW - 1) - k)) ((WW - 1) - I)))) 73 (c ((WW - 1) - ((WW - 1) - k)) ((WW - 1) - I)) (nI (c I k))) 73) := sm_of2 (fun i h1 h2 => by simp only [mz_set_ne h1, mz_set_ne h2, mz_up_ne h1, mz_up_ne h2])
            obtain ⟨b0, p0, p1, p2, p3, s72, s73, hin2, Er⟩ := ih (k + 1) (by omega) 1 (some (.int (((nI WW) - 1) - (((nI WW) - 1) - (nI k))))) (some (.int (((nI WW) - 1) - (nI I)))) (some (.int (nI (c I k)))) (some (.int (nI (c ((WW - 1) - ((WW - 1) - k)) ((WW - 1) - I))))) ((mz_up (mz_up (mz_set (mz_set b 72 r72) 73 r73) 72 (c I k) (nI (c ((WW - 1) - ((WW - 1) - k)) ((WW - 1) - I)))) 73 (c ((WW - 1) - ((WW - 1) - k)) ((WW - 1) - I)) (nI (c I k))) 72) ((mz_up (mz_up (mz_set (mz_set b 72 r72) 73 r73) 72 (c I k) (nI (c ((WW - 1) - ((WW - 1) - k)) ((WW - 1) - I)))) 73 (c ((WW - 1) - ((WW - 1) - k)) ((WW - 1) - I)) (nI (c I k))) 73) (vq_tuD h9 hI (by omega) hin q1 (Or.inr q5) (Or.inl q6) (fun v => by rw [mz_up_ne (show (72 : Nat) ≠ 73 by decide), mz_up_eq, mz_set_ne (show (72 : Nat) ≠ 73 by decide), mz_set_eq]; rfl) (fun v => by rw [mz_up_eq, mz_up_ne (show (73 : Nat) ≠ 72 by decide), mz_set_eq]; rfl))
            refine ⟨b0, p0, p1, p2, p3, s72, s73, hin2, fun r hr0 => ?_⟩
            have hr := Er r hr0
            rw [nI_succ k, ← hm] at hr
            refine mz_go 2 (c' := (91, [some (.ref 65), some (.int 3), some (.int a0), some (.int (nI I)), some (.int (nI k)), o0, o1, o2, o3], [.ref 65, .int (nI k)], mz_set (mz_set b 72 r72) 73 r73)) rfl ?_
            refine mz_doQ (R := mz_r183) (as := [.ref 65]) (rest := [.int (nI k)]) (r1 := some (.int (nI WW))) (m1 := mz_set (mz_set b 72 r72) 73 r73) mz_t183 mz_v183_65 rfl rfl rfl rfl rfl ⟨?_, rfl⟩ ?_
            · refine mz_go 4 (c' := (7, [some (.ref 65)], [.int (b 66 60)], mz_set (mz_set b 72 r72) 73 r73)) rfl ?_
              rw [h6660]
              exact mz_ret rfl
            refine mz_go 1 (c' := (if (nI WW) ≤ (nI k) then 235 else 97, [some (.ref 65), some (.int 3), some (.int a0), some (.int (nI I)), some (.int (nI k)), o0, o1, o2, o3], [], mz_set (mz_set b 72 r72) 73 r73)) rfl ?_
            refine mz_ifF (show ¬ ((nI WW) ≤ (nI k)) from (sm_nleN rfl rfl (show k < WW by omega) (show WW < 2 ^ 31 by omega))) ?_
            refine mz_go 12 (c' := (118, [some (.ref 65), some (.int 3), some (.int a0), some (.int (nI I)), some (.int (nI k)), some (.int (nI I)), some (.int (nI k)), some (.int 0), some (.int (nI I))], [.ref 65], mz_set (mz_set b 72 r72) 73 r73)) rfl ?_
            refine mz_doQ (R := mz_r183) (as := [.ref 65]) (rest := []) (r1 := some (.int (nI WW))) (m1 := mz_set (mz_set b 72 r72) 73 r73) mz_t183 mz_v183_65 rfl rfl rfl rfl rfl ⟨?_, rfl⟩ ?_
            · refine mz_go 4 (c' := (7, [some (.ref 65)], [.int (b 66 60)], mz_set (mz_set b 72 r72) 73 r73)) rfl ?_
              rw [h6660]
              exact mz_ret rfl
            refine mz_go 15 (c' := (118, [some (.ref 65), some (.int 3), some (.int a0), some (.int (nI I)), some (.int (nI k)), some (.int (((nI WW) - 1) - (nI k))), some (.int (nI I)), some (.int 1), some (.int (((nI WW) - 1) - (nI k)))], [.ref 65], mz_set (mz_set b 72 r72) 73 r73)) rfl ?_
            refine mz_doQ (R := mz_r183) (as := [.ref 65]) (rest := []) (r1 := some (.int (nI WW))) (m1 := mz_set (mz_set b 72 r72) 73 r73) mz_t183 mz_v183_65 rfl rfl rfl rfl rfl ⟨?_, rfl⟩ ?_
            · refine mz_go 4 (c' := (7, [some (.ref 65)], [.int (b 66 60)], mz_set (mz_set b 72 r72) 73 r73)) rfl ?_
              rw [h6660]
              exact mz_ret rfl
            refine mz_go 15 (c' := (118, [some (.ref 65), some (.int 3), some (.int a0), some (.int (nI I)), some (.int (nI k)), some (.int (((nI WW) - 1) - (nI I))), some (.int (((nI WW) - 1) - (nI k))), some (.int 2), some (.int (((nI WW) - 1) - (nI I)))], [.ref 65], mz_set (mz_set b 72 r72) 73 r73)) rfl ?_
            refine mz_doQ (R := mz_r183) (as := [.ref 65]) (rest := []) (r1 := some (.int (nI WW))) (m1 := mz_set (mz_set b 72 r72) 73 r73) mz_t183 mz_v183_65 rfl rfl rfl rfl rfl ⟨?_, rfl⟩ ?_
            · refine mz_go 4 (c' := (7, [some (.ref 65)], [.int (b 66 60)], mz_set (mz_set b 72 r72) 73 r73)) rfl ?_
              rw [h6660]
              exact mz_ret rfl
            refine mz_go 15 (c' := (142, [some (.ref 65), some (.int 3), some (.int a0), some (.int (nI I)), some (.int (nI k)), some (.int (((nI WW) - 1) - (((nI WW) - 1) - (nI k)))), some (.int (((nI WW) - 1) - (nI I))), some (.int 3), some (.int (((nI WW) - 1) - (nI I)))], [.int (nI k), .int (nI I), .ref 65], mz_set (mz_set b 72 r72) 73 r73)) rfl ?_
            refine mz_doQ (R := mz_r186) (as := [.ref 65, .int (nI I), .int (nI k)]) (rest := []) (r1 := some (.int (nI (c I k)))) (m1 := mz_set (mz_set b 72 r72) 73 r73) mz_t186 mz_v186_65 rfl rfl rfl rfl rfl (Ez1.deep (by decide)) ?_
            refine mz_go 4 (c' := (152, [some (.ref 65), some (.int 3), some (.int a0), some (.int (nI I)), some (.int (nI k)), some (.int (((nI WW) - 1) - (((nI WW) - 1) - (nI k)))), some (.int (((nI WW) - 1) - (nI I))), some (.int (nI (c I k))), some (.int (((nI WW) - 1) - (nI I)))], [.int (((nI WW) - 1) - (nI I)), .int (((nI WW) - 1) - (((nI WW) - 1) - (nI k))), .ref 65], mz_set (mz_set b 72 r72) 73 r73)) rfl ?_
            refine mz_doQ (R := mz_r186) (as := [.ref 65, .int (((nI WW) - 1) - (((nI WW) - 1) - (nI k))), .int (((nI WW) - 1) - (nI I))]) (rest := []) (r1 := some (.int (nI (c ((WW - 1) - ((WW - 1) - k)) ((WW - 1) - I))))) (m1 := mz_set (mz_set b 72 r72) 73 r73) mz_t186 mz_v186_65 rfl rfl rfl rfl rfl (Ez2.deep (by decide)) ?_
            refine mz_go 3 (c' := (if a0 = 0 then 209 else 161, [some (.ref 65), some (.int 3), some (.int a0), some (.int (nI I)), some (.int (nI k)), some (.int (((nI WW) - 1) - (((nI WW) - 1) - (nI k)))), some (.int (((nI WW) - 1) - (nI I))), some (.int (nI (c I k))), some (.int (nI (c ((WW - 1) - ((WW - 1) - k)) ((WW - 1) - I))))], [], mz_set (mz_set b 72 r72) 73 r73)) rfl ?_
            refine mz_ifF q1 ?_
            refine mz_go 3 (c' := (167, [some (.ref 65), some (.int 3), some (.int a0), some (.int (nI I)), some (.int (nI k)), some (.int (((nI WW) - 1) - (((nI WW) - 1) - (nI k)))), some (.int (((nI WW) - 1) - (nI I))), some (.int (nI (c I k))), some (.int (nI (c ((WW - 1) - ((WW - 1) - k)) ((WW - 1) - I))))], [.int (nI (c I k)), .ref 72], mz_set (mz_set b 72 r72) 73 r73)) rfl ?_
            refine mz_arr (c' := (168, [some (.ref 65), some (.int 3), some (.int a0), some (.int (nI I)), some (.int (nI k)), some (.int (((nI WW) - 1) - (((nI WW) - 1) - (nI k)))), some (.int (((nI WW) - 1) - (nI I))), some (.int (nI (c I k))), some (.int (nI (c ((WW - 1) - ((WW - 1) - k)) ((WW - 1) - I))))], [.int (r72 ((nI (c I k)).toNatClampNeg))], mz_set (mz_set b 72 r72) 73 r73)) rfl (show mz_in (nI (c I k)) 10 = true from sm_inN rfl (show (c I k) < 10 by omega) (by decide)) ?_
            rw [show (nI (c I k) : Int32).toNatClampNeg = (c I k) from sm_clN rfl (show (c I k) < 2 ^ 31 by omega)]
            refine mz_go 1 (c' := (if (r72 (c I k)) < 0 then 183 else 171, [some (.ref 65), some (.int 3), some (.int a0), some (.int (nI I)), some (.int (nI k)), some (.int (((nI WW) - 1) - (((nI WW) - 1) - (nI k)))), some (.int (((nI WW) - 1) - (nI I))), some (.int (nI (c I k))), some (.int (nI (c ((WW - 1) - ((WW - 1) - k)) ((WW - 1) - I))))], [], mz_set (mz_set b 72 r72) 73 r73)) rfl ?_
            refine mz_ifF q2 ?_
            refine mz_go 3 (c' := (177, [some (.ref 65), some (.int 3), some (.int a0), some (.int (nI I)), some (.int (nI k)), some (.int (((nI WW) - 1) - (((nI WW) - 1) - (nI k)))), some (.int (((nI WW) - 1) - (nI I))), some (.int (nI (c I k))), some (.int (nI (c ((WW - 1) - ((WW - 1) - k)) ((WW - 1) - I))))], [.int (nI (c I k)), .ref 72], mz_set (mz_set b 72 r72) 73 r73)) rfl ?_
            refine mz_arr (c' := (178, [some (.ref 65), some (.int 3), some (.int a0), some (.int (nI I)), some (.int (nI k)), some (.int (((nI WW) - 1) - (((nI WW) - 1) - (nI k)))), some (.int (((nI WW) - 1) - (nI I))), some (.int (nI (c I k))), some (.int (nI (c ((WW - 1) - ((WW - 1) - k)) ((WW - 1) - I))))], [.int (r72 ((nI (c I k)).toNatClampNeg))], mz_set (mz_set b 72 r72) 73 r73)) rfl (show mz_in (nI (c I k)) 10 = true from sm_inN rfl (show (c I k) < 10 by omega) (by decide)) ?_
            rw [show (nI (c I k) : Int32).toNatClampNeg = (c I k) from sm_clN rfl (show (c I k) < 2 ^ 31 by omega)]
            refine mz_go 2 (c' := (if (r72 (c I k)) = (nI (c ((WW - 1) - ((WW - 1) - k)) ((WW - 1) - I))) then 183 else 209, [some (.ref 65), some (.int 3), some (.int a0), some (.int (nI I)), some (.int (nI k)), some (.int (((nI WW) - 1) - (((nI WW) - 1) - (nI k)))), some (.int (((nI WW) - 1) - (nI I))), some (.int (nI (c I k))), some (.int (nI (c ((WW - 1) - ((WW - 1) - k)) ((WW - 1) - I))))], [], mz_set (mz_set b 72 r72) 73 r73)) rfl ?_
            refine mz_ifT q5 ?_
            refine mz_go 3 (c' := (189, [some (.ref 65), some (.int 3), some (.int a0), some (.int (nI I)), some (.int (nI k)), some (.int (((nI WW) - 1) - (((nI WW) - 1) - (nI k)))), some (.int (((nI WW) - 1) - (nI I))), some (.int (nI (c I k))), some (.int (nI (c ((WW - 1) - ((WW - 1) - k)) ((WW - 1) - I))))], [.int (nI (c ((WW - 1) - ((WW - 1) - k)) ((WW - 1) - I))), .ref 73], mz_set (mz_set b 72 r72) 73 r73)) rfl ?_
            refine mz_arr (c' := (190, [some (.ref 65), some (.int 3), some (.int a0), some (.int (nI I)), some (.int (nI k)), some (.int (((nI WW) - 1) - (((nI WW) - 1) - (nI k)))), some (.int (((nI WW) - 1) - (nI I))), some (.int (nI (c I k))), some (.int (nI (c ((WW - 1) - ((WW - 1) - k)) ((WW - 1) - I))))], [.int (r73 ((nI (c ((WW - 1) - ((WW - 1) - k)) ((WW - 1) - I))).toNatClampNeg))], mz_set (mz_set b 72 r72) 73 r73)) rfl (show mz_in (nI (c ((WW - 1) - ((WW - 1) - k)) ((WW - 1) - I))) 10 = true from sm_inN rfl (show (c ((WW - 1) - ((WW - 1) - k)) ((WW - 1) - I)) < 10 by omega) (by decide)) ?_
            rw [show (nI (c ((WW - 1) - ((WW - 1) - k)) ((WW - 1) - I)) : Int32).toNatClampNeg = (c ((WW - 1) - ((WW - 1) - k)) ((WW - 1) - I)) from sm_clN rfl (show (c ((WW - 1) - ((WW - 1) - k)) ((WW - 1) - I)) < 2 ^ 31 by omega)]
            refine mz_go 1 (c' := (if (r73 (c ((WW - 1) - ((WW - 1) - k)) ((WW - 1) - I))) < 0 then 205 else 193, [some (.ref 65), some (.int 3), some (.int a0), some (.int (nI I)), some (.int (nI k)), some (.int (((nI WW) - 1) - (((nI WW) - 1) - (nI k)))), some (.int (((nI WW) - 1) - (nI I))), some (.int (nI (c I k))), some (.int (nI (c ((WW - 1) - ((WW - 1) - k)) ((WW - 1) - I))))], [], mz_set (mz_set b 72 r72) 73 r73)) rfl ?_
            refine mz_ifT q6 ?_
            refine mz_go 7 (c' := (219, [some (.ref 65), some (.int 3), some (.int 1), some (.int (nI I)), some (.int (nI k)), some (.int (((nI WW) - 1) - (((nI WW) - 1) - (nI k)))), some (.int (((nI WW) - 1) - (nI I))), some (.int (nI (c I k))), some (.int (nI (c ((WW - 1) - ((WW - 1) - k)) ((WW - 1) - I))))], [.int (nI (c ((WW - 1) - ((WW - 1) - k)) ((WW - 1) - I))), .int (nI (c I k)), .ref 72], mz_set (mz_set b 72 r72) 73 r73)) rfl ?_
            refine mz_arr (c' := (220, [some (.ref 65), some (.int 3), some (.int 1), some (.int (nI I)), some (.int (nI k)), some (.int (((nI WW) - 1) - (((nI WW) - 1) - (nI k)))), some (.int (((nI WW) - 1) - (nI I))), some (.int (nI (c I k))), some (.int (nI (c ((WW - 1) - ((WW - 1) - k)) ((WW - 1) - I))))], [], mz_up (mz_set (mz_set b 72 r72) 73 r73) 72 ((nI (c I k)).toNatClampNeg) (nI (c ((WW - 1) - ((WW - 1) - k)) ((WW - 1) - I))))) rfl (show mz_in (nI (c I k)) 10 = true from sm_inN rfl (show (c I k) < 10 by omega) (by decide)) ?_
            rw [show (nI (c I k) : Int32).toNatClampNeg = (c I k) from sm_clN rfl (show (c I k) < 2 ^ 31 by omega)]
            refine mz_go 4 (c' := (228, [some (.ref 65), some (.int 3), some (.int 1), some (.int (nI I)), some (.int (nI k)), some (.int (((nI WW) - 1) - (((nI WW) - 1) - (nI k)))), some (.int (((nI WW) - 1) - (nI I))), some (.int (nI (c I k))), some (.int (nI (c ((WW - 1) - ((WW - 1) - k)) ((WW - 1) - I))))], [.int (nI (c I k)), .int (nI (c ((WW - 1) - ((WW - 1) - k)) ((WW - 1) - I))), .ref 73], mz_up (mz_set (mz_set b 72 r72) 73 r73) 72 (c I k) (nI (c ((WW - 1) - ((WW - 1) - k)) ((WW - 1) - I))))) rfl ?_
            refine mz_arr (c' := (229, [some (.ref 65), some (.int 3), some (.int 1), some (.int (nI I)), some (.int (nI k)), some (.int (((nI WW) - 1) - (((nI WW) - 1) - (nI k)))), some (.int (((nI WW) - 1) - (nI I))), some (.int (nI (c I k))), some (.int (nI (c ((WW - 1) - ((WW - 1) - k)) ((WW - 1) - I))))], [], mz_up (mz_up (mz_set (mz_set b 72 r72) 73 r73) 72 (c I k) (nI (c ((WW - 1) - ((WW - 1) - k)) ((WW - 1) - I)))) 73 ((nI (c ((WW - 1) - ((WW - 1) - k)) ((WW - 1) - I))).toNatClampNeg) (nI (c I k)))) rfl (show mz_in (nI (c ((WW - 1) - ((WW - 1) - k)) ((WW - 1) - I))) 10 = true from sm_inN rfl (show (c ((WW - 1) - ((WW - 1) - k)) ((WW - 1) - I)) < 10 by omega) (by decide)) ?_
            rw [show (nI (c ((WW - 1) - ((WW - 1) - k)) ((WW - 1) - I)) : Int32).toNatClampNeg = (c ((WW - 1) - ((WW - 1) - k)) ((WW - 1) - I)) from sm_clN rfl (show (c ((WW - 1) - ((WW - 1) - k)) ((WW - 1) - I)) < 2 ^ 31 by omega)]
            refine mz_go 2 (c' := (88, [some (.ref 65), some (.int 3), some (.int 1), some (.int (nI I)), some (.int ((nI k) + 1)), some (.int (((nI WW) - 1) - (((nI WW) - 1) - (nI k)))), some (.int (((nI WW) - 1) - (nI I))), some (.int (nI (c I k))), some (.int (nI (c ((WW - 1) - ((WW - 1) - k)) ((WW - 1) - I))))], [], mz_up (mz_up (mz_set (mz_set b 72 r72) 73 r73) 72 (c I k) (nI (c ((WW - 1) - ((WW - 1) - k)) ((WW - 1) - I)))) 73 (c ((WW - 1) - ((WW - 1) - k)) ((WW - 1) - I)) (nI (c I k)))) rfl ?_
            exact hr
          · by_cases q7 : (r73 (c ((WW - 1) - ((WW - 1) - k)) ((WW - 1) - I))) = (nI (c I k))
            · have hm : mz_up (mz_up (mz_set (mz_set b 72 r72) 73 r73) 72 (c I k) (nI (c ((WW - 1) - ((WW - 1) - k)) ((WW - 1) - I)))) 73 (c ((WW - 1) - ((WW - 1) - k)) ((WW - 1) - I)) (nI (c I k)) = mz_set (mz_set b 72 ((mz_up (mz_up (mz_set (mz_set b 72 r72) 73 r73) 72 (c I k) (nI (c ((WW - 1) - ((WW - 1) - k)) ((WW - 1) - I)))) 73 (c ((WW - 1) - ((WW - 1) - k)) ((WW - 1) - I)) (nI (c I k))) 72)) 73 ((mz_up (mz_up (mz_set (mz_set b 72 r72) 73 r73) 72 (c I k) (nI (c ((WW - 1) - ((WW - 1) - k)) ((WW - 1) - I)))) 73 (c ((WW - 1) - ((WW - 1) - k)) ((WW - 1) - I)) (nI (c I k))) 73) := sm_of2 (fun i h1 h2 => by simp only [mz_set_ne h1, mz_set_ne h2, mz_up_ne h1, mz_up_ne h2])
              obtain ⟨b0, p0, p1, p2, p3, s72, s73, hin2, Er⟩ := ih (k + 1) (by omega) 1 (some (.int (((nI WW) - 1) - (((nI WW) - 1) - (nI k))))) (some (.int (((nI WW) - 1) - (nI I)))) (some (.int (nI (c I k)))) (some (.int (nI (c ((WW - 1) - ((WW - 1) - k)) ((WW - 1) - I))))) ((mz_up (mz_up (mz_set (mz_set b 72 r72) 73 r73) 72 (c I k) (nI (c ((WW - 1) - ((WW - 1) - k)) ((WW - 1) - I)))) 73 (c ((WW - 1) - ((WW - 1) - k)) ((WW - 1) - I)) (nI (c I k))) 72) ((mz_up (mz_up (mz_set (mz_set b 72 r72) 73 r73) 72 (c I k) (nI (c ((WW - 1) - ((WW - 1) - k)) ((WW - 1) - I)))) 73 (c ((WW - 1) - ((WW - 1) - k)) ((WW - 1) - I)) (nI (c I k))) 73) (vq_tuD h9 hI (by omega) hin q1 (Or.inr q5) (Or.inr q7) (fun v => by rw [mz_up_ne (show (72 : Nat) ≠ 73 by decide), mz_up_eq, mz_set_ne (show (72 : Nat) ≠ 73 by decide), mz_set_eq]; rfl) (fun v => by rw [mz_up_eq, mz_up_ne (show (73 : Nat) ≠ 72 by decide), mz_set_eq]; rfl))
              refine ⟨b0, p0, p1, p2, p3, s72, s73, hin2, fun r hr0 => ?_⟩
              have hr := Er r hr0
              rw [nI_succ k, ← hm] at hr
              refine mz_go 2 (c' := (91, [some (.ref 65), some (.int 3), some (.int a0), some (.int (nI I)), some (.int (nI k)), o0, o1, o2, o3], [.ref 65, .int (nI k)], mz_set (mz_set b 72 r72) 73 r73)) rfl ?_
              refine mz_doQ (R := mz_r183) (as := [.ref 65]) (rest := [.int (nI k)]) (r1 := some (.int (nI WW))) (m1 := mz_set (mz_set b 72 r72) 73 r73) mz_t183 mz_v183_65 rfl rfl rfl rfl rfl ⟨?_, rfl⟩ ?_
              · refine mz_go 4 (c' := (7, [some (.ref 65)], [.int (b 66 60)], mz_set (mz_set b 72 r72) 73 r73)) rfl ?_
                rw [h6660]
                exact mz_ret rfl
              refine mz_go 1 (c' := (if (nI WW) ≤ (nI k) then 235 else 97, [some (.ref 65), some (.int 3), some (.int a0), some (.int (nI I)), some (.int (nI k)), o0, o1, o2, o3], [], mz_set (mz_set b 72 r72) 73 r73)) rfl ?_
              refine mz_ifF (show ¬ ((nI WW) ≤ (nI k)) from (sm_nleN rfl rfl (show k < WW by omega) (show WW < 2 ^ 31 by omega))) ?_
              refine mz_go 12 (c' := (118, [some (.ref 65), some (.int 3), some (.int a0), some (.int (nI I)), some (.int (nI k)), some (.int (nI I)), some (.int (nI k)), some (.int 0), some (.int (nI I))], [.ref 65], mz_set (mz_set b 72 r72) 73 r73)) rfl ?_
              refine mz_doQ (R := mz_r183) (as := [.ref 65]) (rest := []) (r1 := some (.int (nI WW))) (m1 := mz_set (mz_set b 72 r72) 73 r73) mz_t183 mz_v183_65 rfl rfl rfl rfl rfl ⟨?_, rfl⟩ ?_
              · refine mz_go 4 (c' := (7, [some (.ref 65)], [.int (b 66 60)], mz_set (mz_set b 72 r72) 73 r73)) rfl ?_
                rw [h6660]
                exact mz_ret rfl
              refine mz_go 15 (c' := (118, [some (.ref 65), some (.int 3), some (.int a0), some (.int (nI I)), some (.int (nI k)), some (.int (((nI WW) - 1) - (nI k))), some (.int (nI I)), some (.int 1), some (.int (((nI WW) - 1) - (nI k)))], [.ref 65], mz_set (mz_set b 72 r72) 73 r73)) rfl ?_
              refine mz_doQ (R := mz_r183) (as := [.ref 65]) (rest := []) (r1 := some (.int (nI WW))) (m1 := mz_set (mz_set b 72 r72) 73 r73) mz_t183 mz_v183_65 rfl rfl rfl rfl rfl ⟨?_, rfl⟩ ?_
              · refine mz_go 4 (c' := (7, [some (.ref 65)], [.int (b 66 60)], mz_set (mz_set b 72 r72) 73 r73)) rfl ?_
                rw [h6660]
                exact mz_ret rfl
              refine mz_go 15 (c' := (118, [some (.ref 65), some (.int 3), some (.int a0), some (.int (nI I)), some (.int (nI k)), some (.int (((nI WW) - 1) - (nI I))), some (.int (((nI WW) - 1) - (nI k))), some (.int 2), some (.int (((nI WW) - 1) - (nI I)))], [.ref 65], mz_set (mz_set b 72 r72) 73 r73)) rfl ?_
              refine mz_doQ (R := mz_r183) (as := [.ref 65]) (rest := []) (r1 := some (.int (nI WW))) (m1 := mz_set (mz_set b 72 r72) 73 r73) mz_t183 mz_v183_65 rfl rfl rfl rfl rfl ⟨?_, rfl⟩ ?_
              · refine mz_go 4 (c' := (7, [some (.ref 65)], [.int (b 66 60)], mz_set (mz_set b 72 r72) 73 r73)) rfl ?_
                rw [h6660]
                exact mz_ret rfl
              refine mz_go 15 (c' := (142, [some (.ref 65), some (.int 3), some (.int a0), some (.int (nI I)), some (.int (nI k)), some (.int (((nI WW) - 1) - (((nI WW) - 1) - (nI k)))), some (.int (((nI WW) - 1) - (nI I))), some (.int 3), some (.int (((nI WW) - 1) - (nI I)))], [.int (nI k), .int (nI I), .ref 65], mz_set (mz_set b 72 r72) 73 r73)) rfl ?_
              refine mz_doQ (R := mz_r186) (as := [.ref 65, .int (nI I), .int (nI k)]) (rest := []) (r1 := some (.int (nI (c I k)))) (m1 := mz_set (mz_set b 72 r72) 73 r73) mz_t186 mz_v186_65 rfl rfl rfl rfl rfl (Ez1.deep (by decide)) ?_
              refine mz_go 4 (c' := (152, [some (.ref 65), some (.int 3), some (.int a0), some (.int (nI I)), some (.int (nI k)), some (.int (((nI WW) - 1) - (((nI WW) - 1) - (nI k)))), some (.int (((nI WW) - 1) - (nI I))), some (.int (nI (c I k))), some (.int (((nI WW) - 1) - (nI I)))], [.int (((nI WW) - 1) - (nI I)), .int (((nI WW) - 1) - (((nI WW) - 1) - (nI k))), .ref 65], mz_set (mz_set b 72 r72) 73 r73)) rfl ?_
              refine mz_doQ (R := mz_r186) (as := [.ref 65, .int (((nI WW) - 1) - (((nI WW) - 1) - (nI k))), .int (((nI WW) - 1) - (nI I))]) (rest := []) (r1 := some (.int (nI (c ((WW - 1) - ((WW - 1) - k)) ((WW - 1) - I))))) (m1 := mz_set (mz_set b 72 r72) 73 r73) mz_t186 mz_v186_65 rfl rfl rfl rfl rfl (Ez2.deep (by decide)) ?_
              refine mz_go 3 (c' := (if a0 = 0 then 209 else 161, [some (.ref 65), some (.int 3), some (.int a0), some (.int (nI I)), some (.int (nI k)), some (.int (((nI WW) - 1) - (((nI WW) - 1) - (nI k)))), some (.int (((nI WW) - 1) - (nI I))), some (.int (nI (c I k))), some (.int (nI (c ((WW - 1) - ((WW - 1) - k)) ((WW - 1) - I))))], [], mz_set (mz_set b 72 r72) 73 r73)) rfl ?_
              refine mz_ifF q1 ?_
              refine mz_go 3 (c' := (167, [some (.ref 65), some (.int 3), some (.int a0), some (.int (nI I)), some (.int (nI k)), some (.int (((nI WW) - 1) - (((nI WW) - 1) - (nI k)))), some (.int (((nI WW) - 1) - (nI I))), some (.int (nI (c I k))), some (.int (nI (c ((WW - 1) - ((WW - 1) - k)) ((WW - 1) - I))))], [.int (nI (c I k)), .ref 72], mz_set (mz_set b 72 r72) 73 r73)) rfl ?_
              refine mz_arr (c' := (168, [some (.ref 65), some (.int 3), some (.int a0), some (.int (nI I)), some (.int (nI k)), some (.int (((nI WW) - 1) - (((nI WW) - 1) - (nI k)))), some (.int (((nI WW) - 1) - (nI I))), some (.int (nI (c I k))), some (.int (nI (c ((WW - 1) - ((WW - 1) - k)) ((WW - 1) - I))))], [.int (r72 ((nI (c I k)).toNatClampNeg))], mz_set (mz_set b 72 r72) 73 r73)) rfl (show mz_in (nI (c I k)) 10 = true from sm_inN rfl (show (c I k) < 10 by omega) (by decide)) ?_
              rw [show (nI (c I k) : Int32).toNatClampNeg = (c I k) from sm_clN rfl (show (c I k) < 2 ^ 31 by omega)]
              refine mz_go 1 (c' := (if (r72 (c I k)) < 0 then 183 else 171, [some (.ref 65), some (.int 3), some (.int a0), some (.int (nI I)), some (.int (nI k)), some (.int (((nI WW) - 1) - (((nI WW) - 1) - (nI k)))), some (.int (((nI WW) - 1) - (nI I))), some (.int (nI (c I k))), some (.int (nI (c ((WW - 1) - ((WW - 1) - k)) ((WW - 1) - I))))], [], mz_set (mz_set b 72 r72) 73 r73)) rfl ?_
              refine mz_ifF q2 ?_
              refine mz_go 3 (c' := (177, [some (.ref 65), some (.int 3), some (.int a0), some (.int (nI I)), some (.int (nI k)), some (.int (((nI WW) - 1) - (((nI WW) - 1) - (nI k)))), some (.int (((nI WW) - 1) - (nI I))), some (.int (nI (c I k))), some (.int (nI (c ((WW - 1) - ((WW - 1) - k)) ((WW - 1) - I))))], [.int (nI (c I k)), .ref 72], mz_set (mz_set b 72 r72) 73 r73)) rfl ?_
              refine mz_arr (c' := (178, [some (.ref 65), some (.int 3), some (.int a0), some (.int (nI I)), some (.int (nI k)), some (.int (((nI WW) - 1) - (((nI WW) - 1) - (nI k)))), some (.int (((nI WW) - 1) - (nI I))), some (.int (nI (c I k))), some (.int (nI (c ((WW - 1) - ((WW - 1) - k)) ((WW - 1) - I))))], [.int (r72 ((nI (c I k)).toNatClampNeg))], mz_set (mz_set b 72 r72) 73 r73)) rfl (show mz_in (nI (c I k)) 10 = true from sm_inN rfl (show (c I k) < 10 by omega) (by decide)) ?_
              rw [show (nI (c I k) : Int32).toNatClampNeg = (c I k) from sm_clN rfl (show (c I k) < 2 ^ 31 by omega)]
              refine mz_go 2 (c' := (if (r72 (c I k)) = (nI (c ((WW - 1) - ((WW - 1) - k)) ((WW - 1) - I))) then 183 else 209, [some (.ref 65), some (.int 3), some (.int a0), some (.int (nI I)), some (.int (nI k)), some (.int (((nI WW) - 1) - (((nI WW) - 1) - (nI k)))), some (.int (((nI WW) - 1) - (nI I))), some (.int (nI (c I k))), some (.int (nI (c ((WW - 1) - ((WW - 1) - k)) ((WW - 1) - I))))], [], mz_set (mz_set b 72 r72) 73 r73)) rfl ?_
              refine mz_ifT q5 ?_
              refine mz_go 3 (c' := (189, [some (.ref 65), some (.int 3), some (.int a0), some (.int (nI I)), some (.int (nI k)), some (.int (((nI WW) - 1) - (((nI WW) - 1) - (nI k)))), some (.int (((nI WW) - 1) - (nI I))), some (.int (nI (c I k))), some (.int (nI (c ((WW - 1) - ((WW - 1) - k)) ((WW - 1) - I))))], [.int (nI (c ((WW - 1) - ((WW - 1) - k)) ((WW - 1) - I))), .ref 73], mz_set (mz_set b 72 r72) 73 r73)) rfl ?_
              refine mz_arr (c' := (190, [some (.ref 65), some (.int 3), some (.int a0), some (.int (nI I)), some (.int (nI k)), some (.int (((nI WW) - 1) - (((nI WW) - 1) - (nI k)))), some (.int (((nI WW) - 1) - (nI I))), some (.int (nI (c I k))), some (.int (nI (c ((WW - 1) - ((WW - 1) - k)) ((WW - 1) - I))))], [.int (r73 ((nI (c ((WW - 1) - ((WW - 1) - k)) ((WW - 1) - I))).toNatClampNeg))], mz_set (mz_set b 72 r72) 73 r73)) rfl (show mz_in (nI (c ((WW - 1) - ((WW - 1) - k)) ((WW - 1) - I))) 10 = true from sm_inN rfl (show (c ((WW - 1) - ((WW - 1) - k)) ((WW - 1) - I)) < 10 by omega) (by decide)) ?_
              rw [show (nI (c ((WW - 1) - ((WW - 1) - k)) ((WW - 1) - I)) : Int32).toNatClampNeg = (c ((WW - 1) - ((WW - 1) - k)) ((WW - 1) - I)) from sm_clN rfl (show (c ((WW - 1) - ((WW - 1) - k)) ((WW - 1) - I)) < 2 ^ 31 by omega)]
              refine mz_go 1 (c' := (if (r73 (c ((WW - 1) - ((WW - 1) - k)) ((WW - 1) - I))) < 0 then 205 else 193, [some (.ref 65), some (.int 3), some (.int a0), some (.int (nI I)), some (.int (nI k)), some (.int (((nI WW) - 1) - (((nI WW) - 1) - (nI k)))), some (.int (((nI WW) - 1) - (nI I))), some (.int (nI (c I k))), some (.int (nI (c ((WW - 1) - ((WW - 1) - k)) ((WW - 1) - I))))], [], mz_set (mz_set b 72 r72) 73 r73)) rfl ?_
              refine mz_ifF q6 ?_
              refine mz_go 3 (c' := (199, [some (.ref 65), some (.int 3), some (.int a0), some (.int (nI I)), some (.int (nI k)), some (.int (((nI WW) - 1) - (((nI WW) - 1) - (nI k)))), some (.int (((nI WW) - 1) - (nI I))), some (.int (nI (c I k))), some (.int (nI (c ((WW - 1) - ((WW - 1) - k)) ((WW - 1) - I))))], [.int (nI (c ((WW - 1) - ((WW - 1) - k)) ((WW - 1) - I))), .ref 73], mz_set (mz_set b 72 r72) 73 r73)) rfl ?_
              refine mz_arr (c' := (200, [some (.ref 65), some (.int 3), some (.int a0), some (.int (nI I)), some (.int (nI k)), some (.int (((nI WW) - 1) - (((nI WW) - 1) - (nI k)))), some (.int (((nI WW) - 1) - (nI I))), some (.int (nI (c I k))), some (.int (nI (c ((WW - 1) - ((WW - 1) - k)) ((WW - 1) - I))))], [.int (r73 ((nI (c ((WW - 1) - ((WW - 1) - k)) ((WW - 1) - I))).toNatClampNeg))], mz_set (mz_set b 72 r72) 73 r73)) rfl (show mz_in (nI (c ((WW - 1) - ((WW - 1) - k)) ((WW - 1) - I))) 10 = true from sm_inN rfl (show (c ((WW - 1) - ((WW - 1) - k)) ((WW - 1) - I)) < 10 by omega) (by decide)) ?_
              rw [show (nI (c ((WW - 1) - ((WW - 1) - k)) ((WW - 1) - I)) : Int32).toNatClampNeg = (c ((WW - 1) - ((WW - 1) - k)) ((WW - 1) - I)) from sm_clN rfl (show (c ((WW - 1) - ((WW - 1) - k)) ((WW - 1) - I)) < 2 ^ 31 by omega)]
              refine mz_go 2 (c' := (if (r73 (c ((WW - 1) - ((WW - 1) - k)) ((WW - 1) - I))) = (nI (c I k)) then 205 else 209, [some (.ref 65), some (.int 3), some (.int a0), some (.int (nI I)), some (.int (nI k)), some (.int (((nI WW) - 1) - (((nI WW) - 1) - (nI k)))), some (.int (((nI WW) - 1) - (nI I))), some (.int (nI (c I k))), some (.int (nI (c ((WW - 1) - ((WW - 1) - k)) ((WW - 1) - I))))], [], mz_set (mz_set b 72 r72) 73 r73)) rfl ?_
              refine mz_ifT q7 ?_
              refine mz_go 7 (c' := (219, [some (.ref 65), some (.int 3), some (.int 1), some (.int (nI I)), some (.int (nI k)), some (.int (((nI WW) - 1) - (((nI WW) - 1) - (nI k)))), some (.int (((nI WW) - 1) - (nI I))), some (.int (nI (c I k))), some (.int (nI (c ((WW - 1) - ((WW - 1) - k)) ((WW - 1) - I))))], [.int (nI (c ((WW - 1) - ((WW - 1) - k)) ((WW - 1) - I))), .int (nI (c I k)), .ref 72], mz_set (mz_set b 72 r72) 73 r73)) rfl ?_
              refine mz_arr (c' := (220, [some (.ref 65), some (.int 3), some (.int 1), some (.int (nI I)), some (.int (nI k)), some (.int (((nI WW) - 1) - (((nI WW) - 1) - (nI k)))), some (.int (((nI WW) - 1) - (nI I))), some (.int (nI (c I k))), some (.int (nI (c ((WW - 1) - ((WW - 1) - k)) ((WW - 1) - I))))], [], mz_up (mz_set (mz_set b 72 r72) 73 r73) 72 ((nI (c I k)).toNatClampNeg) (nI (c ((WW - 1) - ((WW - 1) - k)) ((WW - 1) - I))))) rfl (show mz_in (nI (c I k)) 10 = true from sm_inN rfl (show (c I k) < 10 by omega) (by decide)) ?_
              rw [show (nI (c I k) : Int32).toNatClampNeg = (c I k) from sm_clN rfl (show (c I k) < 2 ^ 31 by omega)]
              refine mz_go 4 (c' := (228, [some (.ref 65), some (.int 3), some (.int 1), some (.int (nI I)), some (.int (nI k)), some (.int (((nI WW) - 1) - (((nI WW) - 1) - (nI k)))), some (.int (((nI WW) - 1) - (nI I))), some (.int (nI (c I k))), some (.int (nI (c ((WW - 1) - ((WW - 1) - k)) ((WW - 1) - I))))], [.int (nI (c I k)), .int (nI (c ((WW - 1) - ((WW - 1) - k)) ((WW - 1) - I))), .ref 73], mz_up (mz_set (mz_set b 72 r72) 73 r73) 72 (c I k) (nI (c ((WW - 1) - ((WW - 1) - k)) ((WW - 1) - I))))) rfl ?_
              refine mz_arr (c' := (229, [some (.ref 65), some (.int 3), some (.int 1), some (.int (nI I)), some (.int (nI k)), some (.int (((nI WW) - 1) - (((nI WW) - 1) - (nI k)))), some (.int (((nI WW) - 1) - (nI I))), some (.int (nI (c I k))), some (.int (nI (c ((WW - 1) - ((WW - 1) - k)) ((WW - 1) - I))))], [], mz_up (mz_up (mz_set (mz_set b 72 r72) 73 r73) 72 (c I k) (nI (c ((WW - 1) - ((WW - 1) - k)) ((WW - 1) - I)))) 73 ((nI (c ((WW - 1) - ((WW - 1) - k)) ((WW - 1) - I))).toNatClampNeg) (nI (c I k)))) rfl (show mz_in (nI (c ((WW - 1) - ((WW - 1) - k)) ((WW - 1) - I))) 10 = true from sm_inN rfl (show (c ((WW - 1) - ((WW - 1) - k)) ((WW - 1) - I)) < 10 by omega) (by decide)) ?_
              rw [show (nI (c ((WW - 1) - ((WW - 1) - k)) ((WW - 1) - I)) : Int32).toNatClampNeg = (c ((WW - 1) - ((WW - 1) - k)) ((WW - 1) - I)) from sm_clN rfl (show (c ((WW - 1) - ((WW - 1) - k)) ((WW - 1) - I)) < 2 ^ 31 by omega)]
              refine mz_go 2 (c' := (88, [some (.ref 65), some (.int 3), some (.int 1), some (.int (nI I)), some (.int ((nI k) + 1)), some (.int (((nI WW) - 1) - (((nI WW) - 1) - (nI k)))), some (.int (((nI WW) - 1) - (nI I))), some (.int (nI (c I k))), some (.int (nI (c ((WW - 1) - ((WW - 1) - k)) ((WW - 1) - I))))], [], mz_up (mz_up (mz_set (mz_set b 72 r72) 73 r73) 72 (c I k) (nI (c ((WW - 1) - ((WW - 1) - k)) ((WW - 1) - I)))) 73 (c ((WW - 1) - ((WW - 1) - k)) ((WW - 1) - I)) (nI (c I k)))) rfl ?_
              exact hr
            · have hm : mz_up (mz_up (mz_set (mz_set b 72 r72) 73 r73) 72 (c I k) (nI (c ((WW - 1) - ((WW - 1) - k)) ((WW - 1) - I)))) 73 (c ((WW - 1) - ((WW - 1) - k)) ((WW - 1) - I)) (nI (c I k)) = mz_set (mz_set b 72 ((mz_up (mz_up (mz_set (mz_set b 72 r72) 73 r73) 72 (c I k) (nI (c ((WW - 1) - ((WW - 1) - k)) ((WW - 1) - I)))) 73 (c ((WW - 1) - ((WW - 1) - k)) ((WW - 1) - I)) (nI (c I k))) 72)) 73 ((mz_up (mz_up (mz_set (mz_set b 72 r72) 73 r73) 72 (c I k) (nI (c ((WW - 1) - ((WW - 1) - k)) ((WW - 1) - I)))) 73 (c ((WW - 1) - ((WW - 1) - k)) ((WW - 1) - I)) (nI (c I k))) 73) := sm_of2 (fun i h1 h2 => by simp only [mz_set_ne h1, mz_set_ne h2, mz_up_ne h1, mz_up_ne h2])
              obtain ⟨b0, p0, p1, p2, p3, s72, s73, hin2, Er⟩ := ih (k + 1) (by omega) 0 (some (.int (((nI WW) - 1) - (((nI WW) - 1) - (nI k))))) (some (.int (((nI WW) - 1) - (nI I)))) (some (.int (nI (c I k)))) (some (.int (nI (c ((WW - 1) - ((WW - 1) - k)) ((WW - 1) - I))))) ((mz_up (mz_up (mz_set (mz_set b 72 r72) 73 r73) 72 (c I k) (nI (c ((WW - 1) - ((WW - 1) - k)) ((WW - 1) - I)))) 73 (c ((WW - 1) - ((WW - 1) - k)) ((WW - 1) - I)) (nI (c I k))) 72) ((mz_up (mz_up (mz_set (mz_set b 72 r72) 73 r73) 72 (c I k) (nI (c ((WW - 1) - ((WW - 1) - k)) ((WW - 1) - I)))) 73 (c ((WW - 1) - ((WW - 1) - k)) ((WW - 1) - I)) (nI (c I k))) 73) (vq_tuC h9 hI (by omega) hin q1 q6 q7)
              refine ⟨b0, p0, p1, p2, p3, s72, s73, hin2, fun r hr0 => ?_⟩
              have hr := Er r hr0
              rw [nI_succ k, ← hm] at hr
              refine mz_go 2 (c' := (91, [some (.ref 65), some (.int 3), some (.int a0), some (.int (nI I)), some (.int (nI k)), o0, o1, o2, o3], [.ref 65, .int (nI k)], mz_set (mz_set b 72 r72) 73 r73)) rfl ?_
              refine mz_doQ (R := mz_r183) (as := [.ref 65]) (rest := [.int (nI k)]) (r1 := some (.int (nI WW))) (m1 := mz_set (mz_set b 72 r72) 73 r73) mz_t183 mz_v183_65 rfl rfl rfl rfl rfl ⟨?_, rfl⟩ ?_
              · refine mz_go 4 (c' := (7, [some (.ref 65)], [.int (b 66 60)], mz_set (mz_set b 72 r72) 73 r73)) rfl ?_
                rw [h6660]
                exact mz_ret rfl
              refine mz_go 1 (c' := (if (nI WW) ≤ (nI k) then 235 else 97, [some (.ref 65), some (.int 3), some (.int a0), some (.int (nI I)), some (.int (nI k)), o0, o1, o2, o3], [], mz_set (mz_set b 72 r72) 73 r73)) rfl ?_
              refine mz_ifF (show ¬ ((nI WW) ≤ (nI k)) from (sm_nleN rfl rfl (show k < WW by omega) (show WW < 2 ^ 31 by omega))) ?_
              refine mz_go 12 (c' := (118, [some (.ref 65), some (.int 3), some (.int a0), some (.int (nI I)), some (.int (nI k)), some (.int (nI I)), some (.int (nI k)), some (.int 0), some (.int (nI I))], [.ref 65], mz_set (mz_set b 72 r72) 73 r73)) rfl ?_
              refine mz_doQ (R := mz_r183) (as := [.ref 65]) (rest := []) (r1 := some (.int (nI WW))) (m1 := mz_set (mz_set b 72 r72) 73 r73) mz_t183 mz_v183_65 rfl rfl rfl rfl rfl ⟨?_, rfl⟩ ?_
              · refine mz_go 4 (c' := (7, [some (.ref 65)], [.int (b 66 60)], mz_set (mz_set b 72 r72) 73 r73)) rfl ?_
                rw [h6660]
                exact mz_ret rfl
              refine mz_go 15 (c' := (118, [some (.ref 65), some (.int 3), some (.int a0), some (.int (nI I)), some (.int (nI k)), some (.int (((nI WW) - 1) - (nI k))), some (.int (nI I)), some (.int 1), some (.int (((nI WW) - 1) - (nI k)))], [.ref 65], mz_set (mz_set b 72 r72) 73 r73)) rfl ?_
              refine mz_doQ (R := mz_r183) (as := [.ref 65]) (rest := []) (r1 := some (.int (nI WW))) (m1 := mz_set (mz_set b 72 r72) 73 r73) mz_t183 mz_v183_65 rfl rfl rfl rfl rfl ⟨?_, rfl⟩ ?_
              · refine mz_go 4 (c' := (7, [some (.ref 65)], [.int (b 66 60)], mz_set (mz_set b 72 r72) 73 r73)) rfl ?_
                rw [h6660]
                exact mz_ret rfl
              refine mz_go 15 (c' := (118, [some (.ref 65), some (.int 3), some (.int a0), some (.int (nI I)), some (.int (nI k)), some (.int (((nI WW) - 1) - (nI I))), some (.int (((nI WW) - 1) - (nI k))), some (.int 2), some (.int (((nI WW) - 1) - (nI I)))], [.ref 65], mz_set (mz_set b 72 r72) 73 r73)) rfl ?_
              refine mz_doQ (R := mz_r183) (as := [.ref 65]) (rest := []) (r1 := some (.int (nI WW))) (m1 := mz_set (mz_set b 72 r72) 73 r73) mz_t183 mz_v183_65 rfl rfl rfl rfl rfl ⟨?_, rfl⟩ ?_
              · refine mz_go 4 (c' := (7, [some (.ref 65)], [.int (b 66 60)], mz_set (mz_set b 72 r72) 73 r73)) rfl ?_
                rw [h6660]
                exact mz_ret rfl
              refine mz_go 15 (c' := (142, [some (.ref 65), some (.int 3), some (.int a0), some (.int (nI I)), some (.int (nI k)), some (.int (((nI WW) - 1) - (((nI WW) - 1) - (nI k)))), some (.int (((nI WW) - 1) - (nI I))), some (.int 3), some (.int (((nI WW) - 1) - (nI I)))], [.int (nI k), .int (nI I), .ref 65], mz_set (mz_set b 72 r72) 73 r73)) rfl ?_
              refine mz_doQ (R := mz_r186) (as := [.ref 65, .int (nI I), .int (nI k)]) (rest := []) (r1 := some (.int (nI (c I k)))) (m1 := mz_set (mz_set b 72 r72) 73 r73) mz_t186 mz_v186_65 rfl rfl rfl rfl rfl (Ez1.deep (by decide)) ?_
              refine mz_go 4 (c' := (152, [some (.ref 65), some (.int 3), some (.int a0), some (.int (nI I)), some (.int (nI k)), some (.int (((nI WW) - 1) - (((nI WW) - 1) - (nI k)))), some (.int (((nI WW) - 1) - (nI I))), some (.int (nI (c I k))), some (.int (((nI WW) - 1) - (nI I)))], [.int (((nI WW) - 1) - (nI I)), .int (((nI WW) - 1) - (((nI WW) - 1) - (nI k))), .ref 65], mz_set (mz_set b 72 r72) 73 r73)) rfl ?_
              refine mz_doQ (R := mz_r186) (as := [.ref 65, .int (((nI WW) - 1) - (((nI WW) - 1) - (nI k))), .int (((nI WW) - 1) - (nI I))]) (rest := []) (r1 := some (.int (nI (c ((WW - 1) - ((WW - 1) - k)) ((WW - 1) - I))))) (m1 := mz_set (mz_set b 72 r72) 73 r73) mz_t186 mz_v186_65 rfl rfl rfl rfl rfl (Ez2.deep (by decide)) ?_
              refine mz_go 3 (c' := (if a0 = 0 then 209 else 161, [some (.ref 65), some (.int 3), some (.int a0), some (.int (nI I)), some (.int (nI k)), some (.int (((nI WW) - 1) - (((nI WW) - 1) - (nI k)))), some (.int (((nI WW) - 1) - (nI I))), some (.int (nI (c I k))), some (.int (nI (c ((WW - 1) - ((WW - 1) - k)) ((WW - 1) - I))))], [], mz_set (mz_set b 72 r72) 73 r73)) rfl ?_
              refine mz_ifF q1 ?_
              refine mz_go 3 (c' := (167, [some (.ref 65), some (.int 3), some (.int a0), some (.int (nI I)), some (.int (nI k)), some (.int (((nI WW) - 1) - (((nI WW) - 1) - (nI k)))), some (.int (((nI WW) - 1) - (nI I))), some (.int (nI (c I k))), some (.int (nI (c ((WW - 1) - ((WW - 1) - k)) ((WW - 1) - I))))], [.int (nI (c I k)), .ref 72], mz_set (mz_set b 72 r72) 73 r73)) rfl ?_
              refine mz_arr (c' := (168, [some (.ref 65), some (.int 3), some (.int a0), some (.int (nI I)), some (.int (nI k)), some (.int (((nI WW) - 1) - (((nI WW) - 1) - (nI k)))), some (.int (((nI WW) - 1) - (nI I))), some (.int (nI (c I k))), some (.int (nI (c ((WW - 1) - ((WW - 1) - k)) ((WW - 1) - I))))], [.int (r72 ((nI (c I k)).toNatClampNeg))], mz_set (mz_set b 72 r72) 73 r73)) rfl (show mz_in (nI (c I k)) 10 = true from sm_inN rfl (show (c I k) < 10 by omega) (by decide)) ?_
              rw [show (nI (c I k) : Int32).toNatClampNeg = (c I k) from sm_clN rfl (show (c I k) < 2 ^ 31 by omega)]
              refine mz_go 1 (c' := (if (r72 (c I k)) < 0 then 183 else 171, [some (.ref 65), some (.int 3), some (.int a0), some (.int (nI I)), some (.int (nI k)), some (.int (((nI WW) - 1) - (((nI WW) - 1) - (nI k)))), some (.int (((nI WW) - 1) - (nI I))), some (.int (nI (c I k))), some (.int (nI (c ((WW - 1) - ((WW - 1) - k)) ((WW - 1) - I))))], [], mz_set (mz_set b 72 r72) 73 r73)) rfl ?_
              refine mz_ifF q2 ?_
              refine mz_go 3 (c' := (177, [some (.ref 65), some (.int 3), some (.int a0), some (.int (nI I)), some (.int (nI k)), some (.int (((nI WW) - 1) - (((nI WW) - 1) - (nI k)))), some (.int (((nI WW) - 1) - (nI I))), some (.int (nI (c I k))), some (.int (nI (c ((WW - 1) - ((WW - 1) - k)) ((WW - 1) - I))))], [.int (nI (c I k)), .ref 72], mz_set (mz_set b 72 r72) 73 r73)) rfl ?_
              refine mz_arr (c' := (178, [some (.ref 65), some (.int 3), some (.int a0), some (.int (nI I)), some (.int (nI k)), some (.int (((nI WW) - 1) - (((nI WW) - 1) - (nI k)))), some (.int (((nI WW) - 1) - (nI I))), some (.int (nI (c I k))), some (.int (nI (c ((WW - 1) - ((WW - 1) - k)) ((WW - 1) - I))))], [.int (r72 ((nI (c I k)).toNatClampNeg))], mz_set (mz_set b 72 r72) 73 r73)) rfl (show mz_in (nI (c I k)) 10 = true from sm_inN rfl (show (c I k) < 10 by omega) (by decide)) ?_
              rw [show (nI (c I k) : Int32).toNatClampNeg = (c I k) from sm_clN rfl (show (c I k) < 2 ^ 31 by omega)]
              refine mz_go 2 (c' := (if (r72 (c I k)) = (nI (c ((WW - 1) - ((WW - 1) - k)) ((WW - 1) - I))) then 183 else 209, [some (.ref 65), some (.int 3), some (.int a0), some (.int (nI I)), some (.int (nI k)), some (.int (((nI WW) - 1) - (((nI WW) - 1) - (nI k)))), some (.int (((nI WW) - 1) - (nI I))), some (.int (nI (c I k))), some (.int (nI (c ((WW - 1) - ((WW - 1) - k)) ((WW - 1) - I))))], [], mz_set (mz_set b 72 r72) 73 r73)) rfl ?_
              refine mz_ifT q5 ?_
              refine mz_go 3 (c' := (189, [some (.ref 65), some (.int 3), some (.int a0), some (.int (nI I)), some (.int (nI k)), some (.int (((nI WW) - 1) - (((nI WW) - 1) - (nI k)))), some (.int (((nI WW) - 1) - (nI I))), some (.int (nI (c I k))), some (.int (nI (c ((WW - 1) - ((WW - 1) - k)) ((WW - 1) - I))))], [.int (nI (c ((WW - 1) - ((WW - 1) - k)) ((WW - 1) - I))), .ref 73], mz_set (mz_set b 72 r72) 73 r73)) rfl ?_
              refine mz_arr (c' := (190, [some (.ref 65), some (.int 3), some (.int a0), some (.int (nI I)), some (.int (nI k)), some (.int (((nI WW) - 1) - (((nI WW) - 1) - (nI k)))), some (.int (((nI WW) - 1) - (nI I))), some (.int (nI (c I k))), some (.int (nI (c ((WW - 1) - ((WW - 1) - k)) ((WW - 1) - I))))], [.int (r73 ((nI (c ((WW - 1) - ((WW - 1) - k)) ((WW - 1) - I))).toNatClampNeg))], mz_set (mz_set b 72 r72) 73 r73)) rfl (show mz_in (nI (c ((WW - 1) - ((WW - 1) - k)) ((WW - 1) - I))) 10 = true from sm_inN rfl (show (c ((WW - 1) - ((WW - 1) - k)) ((WW - 1) - I)) < 10 by omega) (by decide)) ?_
              rw [show (nI (c ((WW - 1) - ((WW - 1) - k)) ((WW - 1) - I)) : Int32).toNatClampNeg = (c ((WW - 1) - ((WW - 1) - k)) ((WW - 1) - I)) from sm_clN rfl (show (c ((WW - 1) - ((WW - 1) - k)) ((WW - 1) - I)) < 2 ^ 31 by omega)]
              refine mz_go 1 (c' := (if (r73 (c ((WW - 1) - ((WW - 1) - k)) ((WW - 1) - I))) < 0 then 205 else 193, [some (.ref 65), some (.int 3), some (.int a0), some (.int (nI I)), some (.int (nI k)), some (.int (((nI WW) - 1) - (((nI WW) - 1) - (nI k)))), some (.int (((nI WW) - 1) - (nI I))), some (.int (nI (c I k))), some (.int (nI (c ((WW - 1) - ((WW - 1) - k)) ((WW - 1) - I))))], [], mz_set (mz_set b 72 r72) 73 r73)) rfl ?_
              refine mz_ifF q6 ?_
              refine mz_go 3 (c' := (199, [some (.ref 65), some (.int 3), some (.int a0), some (.int (nI I)), some (.int (nI k)), some (.int (((nI WW) - 1) - (((nI WW) - 1) - (nI k)))), some (.int (((nI WW) - 1) - (nI I))), some (.int (nI (c I k))), some (.int (nI (c ((WW - 1) - ((WW - 1) - k)) ((WW - 1) - I))))], [.int (nI (c ((WW - 1) - ((WW - 1) - k)) ((WW - 1) - I))), .ref 73], mz_set (mz_set b 72 r72) 73 r73)) rfl ?_
              refine mz_arr (c' := (200, [some (.ref 65), some (.int 3), some (.int a0), some (.int (nI I)), some (.int (nI k)), some (.int (((nI WW) - 1) - (((nI WW) - 1) - (nI k)))), some (.int (((nI WW) - 1) - (nI I))), some (.int (nI (c I k))), some (.int (nI (c ((WW - 1) - ((WW - 1) - k)) ((WW - 1) - I))))], [.int (r73 ((nI (c ((WW - 1) - ((WW - 1) - k)) ((WW - 1) - I))).toNatClampNeg))], mz_set (mz_set b 72 r72) 73 r73)) rfl (show mz_in (nI (c ((WW - 1) - ((WW - 1) - k)) ((WW - 1) - I))) 10 = true from sm_inN rfl (show (c ((WW - 1) - ((WW - 1) - k)) ((WW - 1) - I)) < 10 by omega) (by decide)) ?_
              rw [show (nI (c ((WW - 1) - ((WW - 1) - k)) ((WW - 1) - I)) : Int32).toNatClampNeg = (c ((WW - 1) - ((WW - 1) - k)) ((WW - 1) - I)) from sm_clN rfl (show (c ((WW - 1) - ((WW - 1) - k)) ((WW - 1) - I)) < 2 ^ 31 by omega)]
              refine mz_go 2 (c' := (if (r73 (c ((WW - 1) - ((WW - 1) - k)) ((WW - 1) - I))) = (nI (c I k)) then 205 else 209, [some (.ref 65), some (.int 3), some (.int a0), some (.int (nI I)), some (.int (nI k)), some (.int (((nI WW) - 1) - (((nI WW) - 1) - (nI k)))), some (.int (((nI WW) - 1) - (nI I))), some (.int (nI (c I k))), some (.int (nI (c ((WW - 1) - ((WW - 1) - k)) ((WW - 1) - I))))], [], mz_set (mz_set b 72 r72) 73 r73)) rfl ?_
              refine mz_ifF q7 ?_
              refine mz_go 6 (c' := (219, [some (.ref 65), some (.int 3), some (.int 0), some (.int (nI I)), some (.int (nI k)), some (.int (((nI WW) - 1) - (((nI WW) - 1) - (nI k)))), some (.int (((nI WW) - 1) - (nI I))), some (.int (nI (c I k))), some (.int (nI (c ((WW - 1) - ((WW - 1) - k)) ((WW - 1) - I))))], [.int (nI (c ((WW - 1) - ((WW - 1) - k)) ((WW - 1) - I))), .int (nI (c I k)), .ref 72], mz_set (mz_set b 72 r72) 73 r73)) rfl ?_
              refine mz_arr (c' := (220, [some (.ref 65), some (.int 3), some (.int 0), some (.int (nI I)), some (.int (nI k)), some (.int (((nI WW) - 1) - (((nI WW) - 1) - (nI k)))), some (.int (((nI WW) - 1) - (nI I))), some (.int (nI (c I k))), some (.int (nI (c ((WW - 1) - ((WW - 1) - k)) ((WW - 1) - I))))], [], mz_up (mz_set (mz_set b 72 r72) 73 r73) 72 ((nI (c I k)).toNatClampNeg) (nI (c ((WW - 1) - ((WW - 1) - k)) ((WW - 1) - I))))) rfl (show mz_in (nI (c I k)) 10 = true from sm_inN rfl (show (c I k) < 10 by omega) (by decide)) ?_
              rw [show (nI (c I k) : Int32).toNatClampNeg = (c I k) from sm_clN rfl (show (c I k) < 2 ^ 31 by omega)]
              refine mz_go 4 (c' := (228, [some (.ref 65), some (.int 3), some (.int 0), some (.int (nI I)), some (.int (nI k)), some (.int (((nI WW) - 1) - (((nI WW) - 1) - (nI k)))), some (.int (((nI WW) - 1) - (nI I))), some (.int (nI (c I k))), some (.int (nI (c ((WW - 1) - ((WW - 1) - k)) ((WW - 1) - I))))], [.int (nI (c I k)), .int (nI (c ((WW - 1) - ((WW - 1) - k)) ((WW - 1) - I))), .ref 73], mz_up (mz_set (mz_set b 72 r72) 73 r73) 72 (c I k) (nI (c ((WW - 1) - ((WW - 1) - k)) ((WW - 1) - I))))) rfl ?_
              refine mz_arr (c' := (229, [some (.ref 65), some (.int 3), some (.int 0), some (.int (nI I)), some (.int (nI k)), some (.int (((nI WW) - 1) - (((nI WW) - 1) - (nI k)))), some (.int (((nI WW) - 1) - (nI I))), some (.int (nI (c I k))), some (.int (nI (c ((WW - 1) - ((WW - 1) - k)) ((WW - 1) - I))))], [], mz_up (mz_up (mz_set (mz_set b 72 r72) 73 r73) 72 (c I k) (nI (c ((WW - 1) - ((WW - 1) - k)) ((WW - 1) - I)))) 73 ((nI (c ((WW - 1) - ((WW - 1) - k)) ((WW - 1) - I))).toNatClampNeg) (nI (c I k)))) rfl (show mz_in (nI (c ((WW - 1) - ((WW - 1) - k)) ((WW - 1) - I))) 10 = true from sm_inN rfl (show (c ((WW - 1) - ((WW - 1) - k)) ((WW - 1) - I)) < 10 by omega) (by decide)) ?_
              rw [show (nI (c ((WW - 1) - ((WW - 1) - k)) ((WW - 1) - I)) : Int32).toNatClampNeg = (c ((WW - 1) - ((WW - 1) - k)) ((WW - 1) - I)) from sm_clN rfl (show (c ((WW - 1) - ((WW - 1) - k)) ((WW - 1) - I)) < 2 ^ 31 by omega)]
              refine mz_go 2 (c' := (88, [some (.ref 65), some (.int 3), some (.int 0), some (.int (nI I)), some (.int ((nI k) + 1)), some (.int (((nI WW) - 1) - (((nI WW) - 1) - (nI k)))), some (.int (((nI WW) - 1) - (nI I))), some (.int (nI (c I k))), some (.int (nI (c ((WW - 1) - ((WW - 1) - k)) ((WW - 1) - I))))], [], mz_up (mz_up (mz_set (mz_set b 72 r72) 73 r73) 72 (c I k) (nI (c ((WW - 1) - ((WW - 1) - k)) ((WW - 1) - I)))) 73 (c ((WW - 1) - ((WW - 1) - k)) ((WW - 1) - I)) (nI (c I k)))) rfl ?_
              exact hr
        · have hm : mz_up (mz_up (mz_set (mz_set b 72 r72) 73 r73) 72 (c I k) (nI (c ((WW - 1) - ((WW - 1) - k)) ((WW - 1) - I)))) 73 (c ((WW - 1) - ((WW - 1) - k)) ((WW - 1) - I)) (nI (c I k)) = mz_set (mz_set b 72 ((mz_up (mz_up (mz_set (mz_set b 72 r72) 73 r73) 72 (c I k) (nI (c ((WW - 1) - ((WW - 1) - k)) ((WW - 1) - I)))) 73 (c ((WW - 1) - ((WW - 1) - k)) ((WW - 1) - I)) (nI (c I k))) 72)) 73 ((mz_up (mz_up (mz_set (mz_set b 72 r72) 73 r73) 72 (c I k) (nI (c ((WW - 1) - ((WW - 1) - k)) ((WW - 1) - I)))) 73 (c ((WW - 1) - ((WW - 1) - k)) ((WW - 1) - I)) (nI (c I k))) 73) := sm_of2 (fun i h1 h2 => by simp only [mz_set_ne h1, mz_set_ne h2, mz_up_ne h1, mz_up_ne h2])
          obtain ⟨b0, p0, p1, p2, p3, s72, s73, hin2, Er⟩ := ih (k + 1) (by omega) 0 (some (.int (((nI WW) - 1) - (((nI WW) - 1) - (nI k))))) (some (.int (((nI WW) - 1) - (nI I)))) (some (.int (nI (c I k)))) (some (.int (nI (c ((WW - 1) - ((WW - 1) - k)) ((WW - 1) - I))))) ((mz_up (mz_up (mz_set (mz_set b 72 r72) 73 r73) 72 (c I k) (nI (c ((WW - 1) - ((WW - 1) - k)) ((WW - 1) - I)))) 73 (c ((WW - 1) - ((WW - 1) - k)) ((WW - 1) - I)) (nI (c I k))) 72) ((mz_up (mz_up (mz_set (mz_set b 72 r72) 73 r73) 72 (c I k) (nI (c ((WW - 1) - ((WW - 1) - k)) ((WW - 1) - I)))) 73 (c ((WW - 1) - ((WW - 1) - k)) ((WW - 1) - I)) (nI (c I k))) 73) (vq_tuB h9 hI (by omega) hin q1 q2 q5)
          refine ⟨b0, p0, p1, p2, p3, s72, s73, hin2, fun r hr0 => ?_⟩
          have hr := Er r hr0
          rw [nI_succ k, ← hm] at hr
          refine mz_go 2 (c' := (91, [some (.ref 65), some (.int 3), some (.int a0), some (.int (nI I)), some (.int (nI k)), o0, o1, o2, o3], [.ref 65, .int (nI k)], mz_set (mz_set b 72 r72) 73 r73)) rfl ?_
          refine mz_doQ (R := mz_r183) (as := [.ref 65]) (rest := [.int (nI k)]) (r1 := some (.int (nI WW))) (m1 := mz_set (mz_set b 72 r72) 73 r73) mz_t183 mz_v183_65 rfl rfl rfl rfl rfl ⟨?_, rfl⟩ ?_
          · refine mz_go 4 (c' := (7, [some (.ref 65)], [.int (b 66 60)], mz_set (mz_set b 72 r72) 73 r73)) rfl ?_
            rw [h6660]
            exact mz_ret rfl
          refine mz_go 1 (c' := (if (nI WW) ≤ (nI k) then 235 else 97, [some (.ref 65), some (.int 3), some (.int a0), some (.int (nI I)), some (.int (nI k)), o0, o1, o2, o3], [], mz_set (mz_set b 72 r72) 73 r73)) rfl ?_
          refine mz_ifF (show ¬ ((nI WW) ≤ (nI k)) from (sm_nleN rfl rfl (show k < WW by omega) (show WW < 2 ^ 31 by omega))) ?_
          refine mz_go 12 (c' := (118, [some (.ref 65), some (.int 3), some (.int a0), some (.int (nI I)), some (.int (nI k)), some (.int (nI I)), some (.int (nI k)), some (.int 0), some (.int (nI I))], [.ref 65], mz_set (mz_set b 72 r72) 73 r73)) rfl ?_
          refine mz_doQ (R := mz_r183) (as := [.ref 65]) (rest := []) (r1 := some (.int (nI WW))) (m1 := mz_set (mz_set b 72 r72) 73 r73) mz_t183 mz_v183_65 rfl rfl rfl rfl rfl ⟨?_, rfl⟩ ?_
          · refine mz_go 4 (c' := (7, [some (.ref 65)], [.int (b 66 60)], mz_set (mz_set b 72 r72) 73 r73)) rfl ?_
            rw [h6660]
            exact mz_ret rfl
          refine mz_go 15 (c' := (118, [some (.ref 65), some (.int 3), some (.int a0), some (.int (nI I)), some (.int (nI k)), some (.int (((nI WW) - 1) - (nI k))), some (.int (nI I)), some (.int 1), some (.int (((nI WW) - 1) - (nI k)))], [.ref 65], mz_set (mz_set b 72 r72) 73 r73)) rfl ?_
          refine mz_doQ (R := mz_r183) (as := [.ref 65]) (rest := []) (r1 := some (.int (nI WW))) (m1 := mz_set (mz_set b 72 r72) 73 r73) mz_t183 mz_v183_65 rfl rfl rfl rfl rfl ⟨?_, rfl⟩ ?_
          · refine mz_go 4 (c' := (7, [some (.ref 65)], [.int (b 66 60)], mz_set (mz_set b 72 r72) 73 r73)) rfl ?_
            rw [h6660]
            exact mz_ret rfl
          refine mz_go 15 (c' := (118, [some (.ref 65), some (.int 3), some (.int a0), some (.int (nI I)), some (.int (nI k)), some (.int (((nI WW) - 1) - (nI I))), some (.int (((nI WW) - 1) - (nI k))), some (.int 2), some (.int (((nI WW) - 1) - (nI I)))], [.ref 65], mz_set (mz_set b 72 r72) 73 r73)) rfl ?_
          refine mz_doQ (R := mz_r183) (as := [.ref 65]) (rest := []) (r1 := some (.int (nI WW))) (m1 := mz_set (mz_set b 72 r72) 73 r73) mz_t183 mz_v183_65 rfl rfl rfl rfl rfl ⟨?_, rfl⟩ ?_
          · refine mz_go 4 (c' := (7, [some (.ref 65)], [.int (b 66 60)], mz_set (mz_set b 72 r72) 73 r73)) rfl ?_
            rw [h6660]
            exact mz_ret rfl
          refine mz_go 15 (c' := (142, [some (.ref 65), some (.int 3), some (.int a0), some (.int (nI I)), some (.int (nI k)), some (.int (((nI WW) - 1) - (((nI WW) - 1) - (nI k)))), some (.int (((nI WW) - 1) - (nI I))), some (.int 3), some (.int (((nI WW) - 1) - (nI I)))], [.int (nI k), .int (nI I), .ref 65], mz_set (mz_set b 72 r72) 73 r73)) rfl ?_
          refine mz_doQ (R := mz_r186) (as := [.ref 65, .int (nI I), .int (nI k)]) (rest := []) (r1 := some (.int (nI (c I k)))) (m1 := mz_set (mz_set b 72 r72) 73 r73) mz_t186 mz_v186_65 rfl rfl rfl rfl rfl (Ez1.deep (by decide)) ?_
          refine mz_go 4 (c' := (152, [some (.ref 65), some (.int 3), some (.int a0), some (.int (nI I)), some (.int (nI k)), some (.int (((nI WW) - 1) - (((nI WW) - 1) - (nI k)))), some (.int (((nI WW) - 1) - (nI I))), some (.int (nI (c I k))), some (.int (((nI WW) - 1) - (nI I)))], [.int (((nI WW) - 1) - (nI I)), .int (((nI WW) - 1) - (((nI WW) - 1) - (nI k))), .ref 65], mz_set (mz_set b 72 r72) 73 r73)) rfl ?_
          refine mz_doQ (R := mz_r186) (as := [.ref 65, .int (((nI WW) - 1) - (((nI WW) - 1) - (nI k))), .int (((nI WW) - 1) - (nI I))]) (rest := []) (r1 := some (.int (nI (c ((WW - 1) - ((WW - 1) - k)) ((WW - 1) - I))))) (m1 := mz_set (mz_set b 72 r72) 73 r73) mz_t186 mz_v186_65 rfl rfl rfl rfl rfl (Ez2.deep (by decide)) ?_
          refine mz_go 3 (c' := (if a0 = 0 then 209 else 161, [some (.ref 65), some (.int 3), some (.int a0), some (.int (nI I)), some (.int (nI k)), some (.int (((nI WW) - 1) - (((nI WW) - 1) - (nI k)))), some (.int (((nI WW) - 1) - (nI I))), some (.int (nI (c I k))), some (.int (nI (c ((WW - 1) - ((WW - 1) - k)) ((WW - 1) - I))))], [], mz_set (mz_set b 72 r72) 73 r73)) rfl ?_
          refine mz_ifF q1 ?_
          refine mz_go 3 (c' := (167, [some (.ref 65), some (.int 3), some (.int a0), some (.int (nI I)), some (.int (nI k)), some (.int (((nI WW) - 1) - (((nI WW) - 1) - (nI k)))), some (.int (((nI WW) - 1) - (nI I))), some (.int (nI (c I k))), some (.int (nI (c ((WW - 1) - ((WW - 1) - k)) ((WW - 1) - I))))], [.int (nI (c I k)), .ref 72], mz_set (mz_set b 72 r72) 73 r73)) rfl ?_
          refine mz_arr (c' := (168, [some (.ref 65), some (.int 3), some (.int a0), some (.int (nI I)), some (.int (nI k)), some (.int (((nI WW) - 1) - (((nI WW) - 1) - (nI k)))), some (.int (((nI WW) - 1) - (nI I))), some (.int (nI (c I k))), some (.int (nI (c ((WW - 1) - ((WW - 1) - k)) ((WW - 1) - I))))], [.int (r72 ((nI (c I k)).toNatClampNeg))], mz_set (mz_set b 72 r72) 73 r73)) rfl (show mz_in (nI (c I k)) 10 = true from sm_inN rfl (show (c I k) < 10 by omega) (by decide)) ?_
          rw [show (nI (c I k) : Int32).toNatClampNeg = (c I k) from sm_clN rfl (show (c I k) < 2 ^ 31 by omega)]
          refine mz_go 1 (c' := (if (r72 (c I k)) < 0 then 183 else 171, [some (.ref 65), some (.int 3), some (.int a0), some (.int (nI I)), some (.int (nI k)), some (.int (((nI WW) - 1) - (((nI WW) - 1) - (nI k)))), some (.int (((nI WW) - 1) - (nI I))), some (.int (nI (c I k))), some (.int (nI (c ((WW - 1) - ((WW - 1) - k)) ((WW - 1) - I))))], [], mz_set (mz_set b 72 r72) 73 r73)) rfl ?_
          refine mz_ifF q2 ?_
          refine mz_go 3 (c' := (177, [some (.ref 65), some (.int 3), some (.int a0), some (.int (nI I)), some (.int (nI k)), some (.int (((nI WW) - 1) - (((nI WW) - 1) - (nI k)))), some (.int (((nI WW) - 1) - (nI I))), some (.int (nI (c I k))), some (.int (nI (c ((WW - 1) - ((WW - 1) - k)) ((WW - 1) - I))))], [.int (nI (c I k)), .ref 72], mz_set (mz_set b 72 r72) 73 r73)) rfl ?_
          refine mz_arr (c' := (178, [some (.ref 65), some (.int 3), some (.int a0), some (.int (nI I)), some (.int (nI k)), some (.int (((nI WW) - 1) - (((nI WW) - 1) - (nI k)))), some (.int (((nI WW) - 1) - (nI I))), some (.int (nI (c I k))), some (.int (nI (c ((WW - 1) - ((WW - 1) - k)) ((WW - 1) - I))))], [.int (r72 ((nI (c I k)).toNatClampNeg))], mz_set (mz_set b 72 r72) 73 r73)) rfl (show mz_in (nI (c I k)) 10 = true from sm_inN rfl (show (c I k) < 10 by omega) (by decide)) ?_
          rw [show (nI (c I k) : Int32).toNatClampNeg = (c I k) from sm_clN rfl (show (c I k) < 2 ^ 31 by omega)]
          refine mz_go 2 (c' := (if (r72 (c I k)) = (nI (c ((WW - 1) - ((WW - 1) - k)) ((WW - 1) - I))) then 183 else 209, [some (.ref 65), some (.int 3), some (.int a0), some (.int (nI I)), some (.int (nI k)), some (.int (((nI WW) - 1) - (((nI WW) - 1) - (nI k)))), some (.int (((nI WW) - 1) - (nI I))), some (.int (nI (c I k))), some (.int (nI (c ((WW - 1) - ((WW - 1) - k)) ((WW - 1) - I))))], [], mz_set (mz_set b 72 r72) 73 r73)) rfl ?_
          refine mz_ifF q5 ?_
          refine mz_go 6 (c' := (219, [some (.ref 65), some (.int 3), some (.int 0), some (.int (nI I)), some (.int (nI k)), some (.int (((nI WW) - 1) - (((nI WW) - 1) - (nI k)))), some (.int (((nI WW) - 1) - (nI I))), some (.int (nI (c I k))), some (.int (nI (c ((WW - 1) - ((WW - 1) - k)) ((WW - 1) - I))))], [.int (nI (c ((WW - 1) - ((WW - 1) - k)) ((WW - 1) - I))), .int (nI (c I k)), .ref 72], mz_set (mz_set b 72 r72) 73 r73)) rfl ?_
          refine mz_arr (c' := (220, [some (.ref 65), some (.int 3), some (.int 0), some (.int (nI I)), some (.int (nI k)), some (.int (((nI WW) - 1) - (((nI WW) - 1) - (nI k)))), some (.int (((nI WW) - 1) - (nI I))), some (.int (nI (c I k))), some (.int (nI (c ((WW - 1) - ((WW - 1) - k)) ((WW - 1) - I))))], [], mz_up (mz_set (mz_set b 72 r72) 73 r73) 72 ((nI (c I k)).toNatClampNeg) (nI (c ((WW - 1) - ((WW - 1) - k)) ((WW - 1) - I))))) rfl (show mz_in (nI (c I k)) 10 = true from sm_inN rfl (show (c I k) < 10 by omega) (by decide)) ?_
          rw [show (nI (c I k) : Int32).toNatClampNeg = (c I k) from sm_clN rfl (show (c I k) < 2 ^ 31 by omega)]
          refine mz_go 4 (c' := (228, [some (.ref 65), some (.int 3), some (.int 0), some (.int (nI I)), some (.int (nI k)), some (.int (((nI WW) - 1) - (((nI WW) - 1) - (nI k)))), some (.int (((nI WW) - 1) - (nI I))), some (.int (nI (c I k))), some (.int (nI (c ((WW - 1) - ((WW - 1) - k)) ((WW - 1) - I))))], [.int (nI (c I k)), .int (nI (c ((WW - 1) - ((WW - 1) - k)) ((WW - 1) - I))), .ref 73], mz_up (mz_set (mz_set b 72 r72) 73 r73) 72 (c I k) (nI (c ((WW - 1) - ((WW - 1) - k)) ((WW - 1) - I))))) rfl ?_
          refine mz_arr (c' := (229, [some (.ref 65), some (.int 3), some (.int 0), some (.int (nI I)), some (.int (nI k)), some (.int (((nI WW) - 1) - (((nI WW) - 1) - (nI k)))), some (.int (((nI WW) - 1) - (nI I))), some (.int (nI (c I k))), some (.int (nI (c ((WW - 1) - ((WW - 1) - k)) ((WW - 1) - I))))], [], mz_up (mz_up (mz_set (mz_set b 72 r72) 73 r73) 72 (c I k) (nI (c ((WW - 1) - ((WW - 1) - k)) ((WW - 1) - I)))) 73 ((nI (c ((WW - 1) - ((WW - 1) - k)) ((WW - 1) - I))).toNatClampNeg) (nI (c I k)))) rfl (show mz_in (nI (c ((WW - 1) - ((WW - 1) - k)) ((WW - 1) - I))) 10 = true from sm_inN rfl (show (c ((WW - 1) - ((WW - 1) - k)) ((WW - 1) - I)) < 10 by omega) (by decide)) ?_
          rw [show (nI (c ((WW - 1) - ((WW - 1) - k)) ((WW - 1) - I)) : Int32).toNatClampNeg = (c ((WW - 1) - ((WW - 1) - k)) ((WW - 1) - I)) from sm_clN rfl (show (c ((WW - 1) - ((WW - 1) - k)) ((WW - 1) - I)) < 2 ^ 31 by omega)]
          refine mz_go 2 (c' := (88, [some (.ref 65), some (.int 3), some (.int 0), some (.int (nI I)), some (.int ((nI k) + 1)), some (.int (((nI WW) - 1) - (((nI WW) - 1) - (nI k)))), some (.int (((nI WW) - 1) - (nI I))), some (.int (nI (c I k))), some (.int (nI (c ((WW - 1) - ((WW - 1) - k)) ((WW - 1) - I))))], [], mz_up (mz_up (mz_set (mz_set b 72 r72) 73 r73) 72 (c I k) (nI (c ((WW - 1) - ((WW - 1) - k)) ((WW - 1) - I)))) 73 (c ((WW - 1) - ((WW - 1) - k)) ((WW - 1) - I)) (nI (c I k)))) rfl ?_
          exact hr
set_option maxHeartbeats 4000000 in
set_option maxRecDepth 100000 in
theorem vr_tui3 {w b : mz_M} {WW : Nat} (hWW : WW ≤ 6) (h1W : 1 ≤ WW) (h6660 : b 66 60 = nI WW) (hbc : ∀ i, i < 36 → b 66 (70 + i) = w 21 i) {c : Nat → Nat → Nat} (hcn : ∀ i j, i < WW → j < WW → w 21 ((j * 6) + i) = nI (c i j)) (h9 : ∀ i j, i < WW → j < WW → c i j ≤ 9) : ∀ j k : Nat, k + j = WW → ∀ (a0 : Int32) (o0 o1 o2 o3 o4 : Option Value) (r72 r73 : Nat → Int32), vq_tI c 3 WW (k * WW) a0 r72 r73 → ∃ (b0 : Int32), ∃ (p0 : Option Value), ∃ (p1 : Option Value), ∃ (p2 : Option Value), ∃ (p3 : Option Value), ∃ (p4 : Option Value), ∃ (s72 : Nat → Int32), ∃ (s73 : Nat → Int32), vq_tI c 3 WW (WW * WW) b0 s72 s73 ∧ ∀ r, mz_Ex 100 mz_k201 (241, [some (.ref 65), some (.int 3), some (.int b0), some (.int (nI WW)), p0, p1, p2, p3, p4], [], mz_set (mz_set b 72 s72) 73 s73) r → mz_Ex 100 mz_k201 (77, [some (.ref 65), some (.int 3), some (.int a0), some (.int (nI k)), o0, o1, o2, o3, o4], [], mz_set (mz_set b 72 r72) 73 r73) r := by
  intro j
  induction j with
  | zero =>
    intro k hk a0 o0 o1 o2 o3 o4 r72 r73 hin
    rw [show k = WW by omega] at hin ⊢
    exact ⟨a0, o0, o1, o2, o3, o4, r72, r73, hin, fun r hr => by
      refine mz_go 2 (c' := (79, [some (.ref 65), some (.int 3), some (.int a0), some (.int (nI WW)), o0, o1, o2, o3, o4], [.ref 65, .int (nI WW)], mz_set (mz_set b 72 r72) 73 r73)) rfl ?_
      refine mz_doQ (R := mz_r183) (as := [.ref 65]) (rest := [.int (nI WW)]) (r1 := some (.int (nI WW))) (m1 := mz_set (mz_set b 72 r72) 73 r73) mz_t183 mz_v183_65 rfl rfl rfl rfl rfl ⟨?_, rfl⟩ ?_
      · refine mz_go 4 (c' := (7, [some (.ref 65)], [.int (b 66 60)], mz_set (mz_set b 72 r72) 73 r73)) rfl ?_
        rw [h6660]
        exact mz_ret rfl
      refine mz_go 1 (c' := (if (nI WW) ≤ (nI WW) then 241 else 85, [some (.ref 65), some (.int 3), some (.int a0), some (.int (nI WW)), o0, o1, o2, o3, o4], [], mz_set (mz_set b 72 r72) 73 r73)) rfl ?_
      refine mz_ifT (show ((nI WW) ≤ (nI WW)) from (sm_leN rfl rfl (show WW ≤ WW by omega) (show WW < 2 ^ 31 by omega))) ?_
      exact hr⟩
  | succ j ih =>
    intro k hk a0 o0 o1 o2 o3 o4 r72 r73 hin
    obtain ⟨by1, p5y1, p6y1, p7y1, p8y1, s72y1, s73y1, hiny1, Ey1⟩ := vr_tuj3 hWW h1W h6660 hbc hcn h9 (I := k) (by omega) WW 0 (by omega) a0 o1 o2 o3 o4 r72 r73 hin
    obtain ⟨b0, p0, p1, p2, p3, p4, s72, s73, hin2, Er⟩ := ih (k + 1) (by omega) by1 (some (.int (nI WW))) p5y1 p6y1 p7y1 p8y1 s72y1 s73y1 (by rw [Nat.succ_mul]; exact hiny1)
    refine ⟨b0, p0, p1, p2, p3, p4, s72, s73, hin2, fun r hr0 => ?_⟩
    have hr := Er r hr0
    rw [nI_succ k] at hr
    refine mz_go 2 (c' := (79, [some (.ref 65), some (.int 3), some (.int a0), some (.int (nI k)), o0, o1, o2, o3, o4], [.ref 65, .int (nI k)], mz_set (mz_set b 72 r72) 73 r73)) rfl ?_
    refine mz_doQ (R := mz_r183) (as := [.ref 65]) (rest := [.int (nI k)]) (r1 := some (.int (nI WW))) (m1 := mz_set (mz_set b 72 r72) 73 r73) mz_t183 mz_v183_65 rfl rfl rfl rfl rfl ⟨?_, rfl⟩ ?_
    · refine mz_go 4 (c' := (7, [some (.ref 65)], [.int (b 66 60)], mz_set (mz_set b 72 r72) 73 r73)) rfl ?_
      rw [h6660]
      exact mz_ret rfl
    refine mz_go 1 (c' := (if (nI WW) ≤ (nI k) then 241 else 85, [some (.ref 65), some (.int 3), some (.int a0), some (.int (nI k)), o0, o1, o2, o3, o4], [], mz_set (mz_set b 72 r72) 73 r73)) rfl ?_
    refine mz_ifF (show ¬ ((nI WW) ≤ (nI k)) from (sm_nleN rfl rfl (show k < WW by omega) (show WW < 2 ^ 31 by omega))) ?_
    refine mz_go 2 (c' := (88, [some (.ref 65), some (.int 3), some (.int a0), some (.int (nI k)), some (.int 0), o1, o2, o3, o4], [], mz_set (mz_set b 72 r72) 73 r73)) rfl ?_
    refine Ey1 _ ?_
    refine mz_go 2 (c' := (77, [some (.ref 65), some (.int 3), some (.int by1), some (.int ((nI k) + 1)), some (.int (nI WW)), p5y1, p6y1, p7y1, p8y1], [], mz_set (mz_set b 72 s72y1) 73 s73y1)) rfl ?_
    exact hr
set_option maxHeartbeats 4000000 in
set_option maxRecDepth 100000 in
theorem sc_turned {n : Nat} (hn : n < 64) {w : mz_M} (hI : sm_I n w) (xa : Int32) : ∃ v1 v2 m1 m2, mz_Me 100 mz_r91 [.ref 0, .int xa] w (some (.int v1)) m1 ∧ mz_Me 100 mz_r201 [.ref 65, .int xa] m1 (some (.int v2)) m2 ∧ sm_I (n + 1) m2 ∧ v1 = v2 := by
  have hI2 := hI
  obtain ⟨hn0, ⟨-, ⟨hr80, hr5, hrr⟩, ⟨⟨TT, hTT, h81, h661⟩, htp⟩, ⟨⟨T0, hT0, hU0, hV0, -⟩, ⟨T1, hT1, hU1, hV1, -⟩, ⟨T2, hT2, hU2, hV2, -⟩⟩, ⟨hbx, hby, hbl⟩, ⟨⟨WW, HH, hWW, hHH, hWH, h202, h203, h6660, h6661⟩, h6662, h6663, h6664, hpc⟩, ⟨hth, h66160, hthr⟩, ⟨⟨AA, hAA, h111, h662⟩, h663, hwt⟩⟩, ⟨hsh, hsn⟩, ⟨hcb1, hcb2⟩, ⟨JJ, hJJ, h07, h652, hkept⟩⟩ := hI
  obtain ⟨N, hw, hr2, h660, -, -, h6615⟩ := sm_world hI2
  have hw2 := hw
  obtain ⟨hN, h4, hpb, -, -⟩ := hw2
  have hT60a := sm_T60 hV0
  have hT60b := sm_T60 hV1
  have hT60c := sm_T60 hV2
  obtain ⟨B1, hB1, e571⟩ := sm_Nof (by decide) hcb1
  obtain ⟨B2, hB2, e6519⟩ := sm_Nof (by decide) hcb2
  refine mz_two (fun _ => rfl) (fun _ => rfl) ?_
  by_cases q1 : (sm_bI (sm_in xa 0 3)) = 0
  · refine mz_goP 3 (c' := (3, [some (.ref 0), some (.int xa)], [.int 3, .int 0, .int xa], w)) rfl ?_
    refine mz_doPQ (R := mz_r121) (as := [.int xa, .int 0, .int 3]) (rest := []) (r1 := some (.int (sm_bI (sm_in xa 0 3)))) (m1 := w) mz_t121 mz_v121 rfl rfl rfl rfl rfl ((cs_in (m := w) xa 0 3).deep (by decide)) ?_
    refine mz_goP 1 (c' := (if (sm_bI (sm_in xa 0 3)) = 0 then 9 else 15, [some (.ref 0), some (.int xa)], [], w)) rfl ?_
    refine mz_ifTP q1 ?_
    refine mz_goP 2 (c' := (11, [some (.ref 0), some (.int xa)], [.int 1, .ref 0], w)) rfl ?_
    refine mz_doPQ (R := mz_r109) (as := [.ref 0, .int 1]) (rest := []) (r1 := some (.int (-1000001))) (m1 := mz_up w 64 1 ((w 64 1) + 1)) mz_t109 mz_v109_0 rfl rfl rfl rfl rfl ((cs_err1 (m := w)).deep (by decide)) ?_
    refine mz_retP (r := (some (.int ((-1000001))), mz_up w 64 1 ((w 64 1) + 1))) rfl ⟨(-1000001), rfl, ?_⟩
    refine mz_goP 3 (c' := (3, [some (.ref 65), some (.int xa), none, none, none, none, none, none, none], [.int 3, .int 0, .int xa], mz_up w 64 1 ((w 64 1) + 1))) rfl ?_
    refine mz_doPQ (R := mz_r128) (as := [.int xa, .int 0, .int 3]) (rest := []) (r1 := some (.int (sm_bI (sm_in xa 0 3)))) (m1 := mz_up w 64 1 ((w 64 1) + 1)) mz_t128 mz_v128 rfl rfl rfl rfl rfl ((ct_in (m := mz_up w 64 1 ((w 64 1) + 1)) xa 0 3).deep (by decide)) ?_
    refine mz_goP 1 (c' := (if (sm_bI (sm_in xa 0 3)) = 0 then 9 else 15, [some (.ref 65), some (.int xa), none, none, none, none, none, none, none], [], mz_up w 64 1 ((w 64 1) + 1))) rfl ?_
    refine mz_ifTP q1 ?_
    refine mz_goP 2 (c' := (11, [some (.ref 65), some (.int xa), none, none, none, none, none, none, none], [.int 1, .ref 65], mz_up w 64 1 ((w 64 1) + 1))) rfl ?_
    refine mz_doPQ (R := mz_r127) (as := [.ref 65, .int 1]) (rest := []) (r1 := some (.int (-1000001))) (m1 := mz_up (mz_up w 64 1 ((w 64 1) + 1)) 68 1 ((w 68 1) + 1)) mz_t127 mz_v127_65 rfl rfl rfl rfl rfl ((ct_err1 (m := mz_up w 64 1 ((w 64 1) + 1))).deep (by decide)) ?_
    refine mz_retP (r := (some (.int ((-1000001))), mz_up (mz_up w 64 1 ((w 64 1) + 1)) 68 1 ((w 68 1) + 1))) rfl ⟨(-1000001), rfl, ?_, rfl⟩
    show sm_I (n + 1) (mz_up (mz_up w 64 1 ((w 64 1) + 1)) 68 1 ((w 68 1) + 1))
    exact sm_I_scr hn hI2 (fun i hi => by
      have hne : ∀ r, sm_scr r = true → i ≠ r := fun r hr e => by
        rw [e, hr] at hi
        cases hi
      simp only [mz_up_ne (hne 64 rfl), mz_up_ne (hne 68 rfl)]) rfl rfl
  · by_cases q2 : WW ≤ 0
    · refine mz_goP 3 (c' := (3, [some (.ref 0), some (.int xa)], [.int 3, .int 0, .int xa], w)) rfl ?_
      refine mz_doPQ (R := mz_r121) (as := [.int xa, .int 0, .int 3]) (rest := []) (r1 := some (.int 1)) (m1 := w) mz_t121 mz_v121 rfl rfl rfl rfl rfl ((cs_in1 (m := w) (v := xa) (a := 0) (b := 3) (show ¬ (xa < 0) from (sm_in_lo q1)) (show ¬ (3 < xa) from (sm_in_hi q1))).deep (by decide)) ?_
      refine mz_goP 4 (c' := (22, [some (.ref 0), some (.int xa)], [.ref 20], w)) rfl ?_
      refine mz_doPQ (R := mz_r2) (as := [.ref 20]) (rest := []) (r1 := some (.int 0)) (m1 := w) mz_t2 mz_v2_20 rfl rfl rfl rfl rfl ⟨?_, rfl⟩ ?_
      · refine mz_go 2 (c' := (4, [some (.ref 20)], [.int (w 20 2)], w)) rfl ?_
        rw [h202]
        refine mz_go 1 (c' := (if (nI WW) ≤ 0 then 18 else 7, [some (.ref 20)], [], w)) rfl ?_
        refine mz_ifT (show ((nI WW) ≤ 0) from (sm_leN rfl rfl (show WW ≤ 0 by omega) (show 0 < 2 ^ 31 by omega))) ?_
        refine mz_go 1 (c' := (19, [some (.ref 20)], [.int 0], w)) rfl ?_
        exact mz_ret rfl
      refine mz_goP 3 (c' := (30, [some (.ref 0), some (.int xa)], [.int 2, .ref 0], w)) rfl ?_
      refine mz_doPQ (R := mz_r109) (as := [.ref 0, .int 2]) (rest := []) (r1 := some (.int (-1000002))) (m1 := mz_up w 64 2 ((w 64 2) + 1)) mz_t109 mz_v109_0 rfl rfl rfl rfl rfl ((cs_err2 (m := w)).deep (by decide)) ?_
      refine mz_retP (r := (some (.int ((-1000002))), mz_up w 64 2 ((w 64 2) + 1))) rfl ⟨(-1000002), rfl, ?_⟩
      refine mz_goP 3 (c' := (3, [some (.ref 65), some (.int xa), none, none, none, none, none, none, none], [.int 3, .int 0, .int xa], mz_up w 64 2 ((w 64 2) + 1))) rfl ?_
      refine mz_doPQ (R := mz_r128) (as := [.int xa, .int 0, .int 3]) (rest := []) (r1 := some (.int 1)) (m1 := mz_up w 64 2 ((w 64 2) + 1)) mz_t128 mz_v128 rfl rfl rfl rfl rfl ((ct_in1 (m := mz_up w 64 2 ((w 64 2) + 1)) (v := xa) (a := 0) (b := 3) (show ¬ (xa < 0) from (sm_in_lo q1)) (show ¬ (3 < xa) from (sm_in_hi q1))).deep (by decide)) ?_
      refine mz_goP 2 (c' := (16, [some (.ref 65), some (.int xa), none, none, none, none, none, none, none], [.ref 65], mz_up w 64 2 ((w 64 2) + 1))) rfl ?_
      refine mz_doPQ (R := mz_r185) (as := [.ref 65]) (rest := []) (r1 := some (.int 0)) (m1 := mz_up w 64 2 ((w 64 2) + 1)) mz_t185 mz_v185_65 rfl rfl rfl rfl rfl ⟨?_, rfl⟩ ?_
      · refine mz_go 1 (c' := (1, [some (.ref 65)], [.ref 65], mz_up w 64 2 ((w 64 2) + 1))) rfl ?_
        refine mz_doQ (R := mz_r183) (as := [.ref 65]) (rest := []) (r1 := some (.int (nI WW))) (m1 := mz_up w 64 2 ((w 64 2) + 1)) mz_t183 mz_v183_65 rfl rfl rfl rfl rfl ⟨?_, rfl⟩ ?_
        · refine mz_go 4 (c' := (7, [some (.ref 65)], [.int (w 66 60)], mz_up w 64 2 ((w 64 2) + 1))) rfl ?_
          rw [h6660]
          exact mz_ret rfl
        refine mz_go 1 (c' := (if (nI WW) ≤ 0 then 11 else 7, [some (.ref 65)], [], mz_up w 64 2 ((w 64 2) + 1))) rfl ?_
        refine mz_ifT (show ((nI WW) ≤ 0) from (sm_leN rfl rfl (show WW ≤ 0 by omega) (show 0 < 2 ^ 31 by omega))) ?_
        refine mz_go 1 (c' := (12, [some (.ref 65)], [.int 0], mz_up w 64 2 ((w 64 2) + 1))) rfl ?_
        exact mz_ret rfl
      refine mz_goP 3 (c' := (24, [some (.ref 65), some (.int xa), none, none, none, none, none, none, none], [.int 2, .ref 65], mz_up w 64 2 ((w 64 2) + 1))) rfl ?_
      refine mz_doPQ (R := mz_r127) (as := [.ref 65, .int 2]) (rest := []) (r1 := some (.int (-1000002))) (m1 := mz_up (mz_up w 64 2 ((w 64 2) + 1)) 68 2 ((w 68 2) + 1)) mz_t127 mz_v127_65 rfl rfl rfl rfl rfl ((ct_err2 (m := mz_up w 64 2 ((w 64 2) + 1))).deep (by decide)) ?_
      refine mz_retP (r := (some (.int ((-1000002))), mz_up (mz_up w 64 2 ((w 64 2) + 1)) 68 2 ((w 68 2) + 1))) rfl ⟨(-1000002), rfl, ?_, rfl⟩
      show sm_I (n + 1) (mz_up (mz_up w 64 2 ((w 64 2) + 1)) 68 2 ((w 68 2) + 1))
      exact sm_I_scr hn hI2 (fun i hi => by
        have hne : ∀ r, sm_scr r = true → i ≠ r := fun r hr e => by
          rw [e, hr] at hi
          cases hi
        simp only [mz_up_ne (hne 64 rfl), mz_up_ne (hne 68 rfl)]) rfl rfl
    · by_cases q3 : WW = HH
      · have hl4 : (0 : Int) ≤ (xa).toInt := Int32.le_iff_toInt_le.mp (Int32.not_lt.mp (sm_in_lo q1))
        have hu4 : (xa).toInt ≤ (3 : Int) := Int32.le_iff_toInt_le.mp (Int32.not_lt.mp (sm_in_hi q1))
        obtain rfl | rfl | rfl | rfl : xa = 0 ∨ xa = 1 ∨ xa = 2 ∨ xa = 3 := by
          rcases (show xa.toInt = 0 ∨ xa.toInt = 1 ∨ xa.toInt = 2 ∨ xa.toInt = 3 by omega) with h | h | h | h
          · exact (Or.inl (Int32.toInt_inj.mp h))
          · exact (Or.inr (Or.inl (Int32.toInt_inj.mp h)))
          · exact (Or.inr (Or.inr (Or.inl (Int32.toInt_inj.mp h))))
          · exact (Or.inr (Or.inr (Or.inr (Int32.toInt_inj.mp h))))
        · refine mz_goP 3 (c' := (3, [some (.ref 0), some (.int 0)], [.int 3, .int 0, .int 0], w)) rfl ?_
          refine mz_doPQ (R := mz_r121) (as := [.int 0, .int 0, .int 3]) (rest := []) (r1 := some (.int 1)) (m1 := w) mz_t121 mz_v121 rfl rfl rfl rfl rfl ((cs_in1 (m := w) (v := 0) (a := 0) (b := 3) (by decide) (by decide)).deep (by decide)) ?_
          refine mz_goP 4 (c' := (22, [some (.ref 0), some (.int 0)], [.ref 20], w)) rfl ?_
          refine mz_doPQ (R := mz_r2) (as := [.ref 20]) (rest := []) (r1 := some (.int 1)) (m1 := w) mz_t2 mz_v2_20 rfl rfl rfl rfl rfl ⟨?_, rfl⟩ ?_
          · refine mz_go 2 (c' := (4, [some (.ref 20)], [.int (w 20 2)], w)) rfl ?_
            rw [h202]
            refine mz_go 1 (c' := (if (nI WW) ≤ 0 then 18 else 7, [some (.ref 20)], [], w)) rfl ?_
            refine mz_ifF (show ¬ ((nI WW) ≤ 0) from (sm_nleN rfl rfl (show 0 < WW by omega) (show WW < 2 ^ 31 by omega))) ?_
            refine mz_go 2 (c' := (11, [some (.ref 20)], [.int (w 20 3)], w)) rfl ?_
            rw [h203]
            refine mz_go 1 (c' := (if (nI HH) ≤ 0 then 18 else 14, [some (.ref 20)], [], w)) rfl ?_
            refine mz_ifF (show ¬ ((nI HH) ≤ 0) from (sm_nleN rfl rfl (show 0 < HH by omega) (show HH < 2 ^ 31 by omega))) ?_
            refine mz_go 2 (c' := (19, [some (.ref 20)], [.int 1], w)) rfl ?_
            exact mz_ret rfl
          refine mz_goP 5 (c' := (44, [some (.ref 0), some (.int 0)], [.int (w 20 2)], w)) rfl ?_
          rw [h202]
          refine mz_goP 4 (c' := (54, [some (.ref 0), some (.int 0)], [.int (w 20 3), .int (nI WW)], w)) rfl ?_
          rw [h203]
          refine mz_goP 1 (c' := (if (nI WW) = (nI HH) then 63 else 57, [some (.ref 0), some (.int 0)], [], w)) rfl ?_
          refine mz_ifTP (show ((nI WW) = (nI HH)) from (sm_eqN rfl rfl (show WW = HH by omega))) ?_
          refine mz_goP 4 (c' := (71, [some (.ref 0), some (.int 0)], [.int 0, .ref 20], w)) rfl ?_
          have Ee1 := vc_ali0 (w := w) (WW := WW) hWW (by omega) h202 (h203.trans (congrArg nI (show HH = WW by omega))) (c := (vq_cn (w 21))) (fun i j hi hj => (vq_cnE (fun i hi => (hpc i hi).1) (by omega) (by omega)).1) (fun i j hi hj => (vq_cnE (fun i hi => (hpc i hi).1) (by omega) (by omega)).2)
          refine mz_doPQ (R := mz_r18) (as := [.ref 20, .int 0]) (rest := []) (r1 := some (.int (vq_tv (vq_cn (w 21)) 0 WW))) (m1 := w) mz_t18 mz_v18_20 rfl rfl rfl rfl rfl (Ee1.deep (by decide)) ?_
          refine mz_goP 1 (c' := (if (vq_tv (vq_cn (w 21)) 0 WW) = 0 then 81 else 77, [some (.ref 0), some (.int 0)], [], w)) rfl ?_
          by_cases q5 : (vq_tv (vq_cn (w 21)) 0 WW) = 0
          · refine mz_ifTP q5 ?_
            refine mz_goP 1 (c' := (82, [some (.ref 0), some (.int 0)], [.int 0], w)) rfl ?_
            refine mz_retP (r := (some (.int (0)), w)) rfl ⟨0, rfl, ?_⟩
            refine mz_goP 3 (c' := (3, [some (.ref 65), some (.int 0), none, none, none, none, none, none, none], [.int 3, .int 0, .int 0], w)) rfl ?_
            refine mz_doPQ (R := mz_r128) (as := [.int 0, .int 0, .int 3]) (rest := []) (r1 := some (.int 1)) (m1 := w) mz_t128 mz_v128 rfl rfl rfl rfl rfl ((ct_in1 (m := w) (v := 0) (a := 0) (b := 3) (by decide) (by decide)).deep (by decide)) ?_
            refine mz_goP 2 (c' := (16, [some (.ref 65), some (.int 0), none, none, none, none, none, none, none], [.ref 65], w)) rfl ?_
            refine mz_doPQ (R := mz_r185) (as := [.ref 65]) (rest := []) (r1 := some (.int 1)) (m1 := w) mz_t185 mz_v185_65 rfl rfl rfl rfl rfl ⟨?_, rfl⟩ ?_
            · refine mz_go 1 (c' := (1, [some (.ref 65)], [.ref 65], w)) rfl ?_
              refine mz_doQ (R := mz_r183) (as := [.ref 65]) (rest := []) (r1 := some (.int (nI WW))) (m1 := w) mz_t183 mz_v183_65 rfl rfl rfl rfl rfl ⟨?_, rfl⟩ ?_
              · refine mz_go 4 (c' := (7, [some (.ref 65)], [.int (w 66 60)], w)) rfl ?_
                rw [h6660]
                exact mz_ret rfl
              refine mz_go 1 (c' := (if (nI WW) ≤ 0 then 11 else 7, [some (.ref 65)], [], w)) rfl ?_
              refine mz_ifF (show ¬ ((nI WW) ≤ 0) from (sm_nleN rfl rfl (show 0 < WW by omega) (show WW < 2 ^ 31 by omega))) ?_
              refine mz_go 2 (c' := (12, [some (.ref 65)], [.int 1], w)) rfl ?_
              exact mz_ret rfl
            refine mz_goP 2 (c' := (29, [some (.ref 65), some (.int 0), none, none, none, none, none, none, none], [.ref 65], w)) rfl ?_
            refine mz_doPQ (R := mz_r183) (as := [.ref 65]) (rest := []) (r1 := some (.int (nI WW))) (m1 := w) mz_t183 mz_v183_65 rfl rfl rfl rfl rfl ⟨?_, rfl⟩ ?_
            · refine mz_go 4 (c' := (7, [some (.ref 65)], [.int (w 66 60)], w)) rfl ?_
              rw [h6660]
              exact mz_ret rfl
            refine mz_goP 1 (c' := (33, [some (.ref 65), some (.int 0), none, none, none, none, none, none, none], [.ref 65, .int (nI WW)], w)) rfl ?_
            refine mz_doPQ (R := mz_r184) (as := [.ref 65]) (rest := [.int (nI WW)]) (r1 := some (.int (nI HH))) (m1 := w) mz_t184 mz_v184_65 rfl rfl rfl rfl rfl ⟨?_, rfl⟩ ?_
            · refine mz_go 4 (c' := (7, [some (.ref 65)], [.int (w 66 61)], w)) rfl ?_
              rw [h6661]
              exact mz_ret rfl
            refine mz_goP 1 (c' := (if (nI WW) = (nI HH) then 45 else 39, [some (.ref 65), some (.int 0), none, none, none, none, none, none, none], [], w)) rfl ?_
            refine mz_ifTP (show ((nI WW) = (nI HH)) from (sm_eqN rfl rfl (show WW = HH by omega))) ?_
            refine mz_goP 2 (c' := (47, [some (.ref 65), some (.int 0), some (.int 0), none, none, none, none, none, none], [], w)) rfl ?_
            obtain ⟨s72a, s73a, hina, Ea⟩ := vr_tu0 (b := w) 0 10 0 rfl ((w) 72) ((w) 73) (fun v hv => absurd hv (Nat.not_lt_zero v))
            rw [show mz_set (mz_set (w) 72 ((w) 72)) 73 ((w) 73) = w from by rw [sm_id, sm_id]] at Ea
            refine mz_hkP Ea ?_
            refine mz_goP 4 (c' := (77, [some (.ref 65), some (.int 0), some (.int 1), some (.int 0), none, none, none, none, none], [], mz_set (mz_set w 72 s72a) 73 s73a)) rfl ?_
            obtain ⟨bz, p4z, p5z, p6z, p7z, p8z, s72z, s73z, hinz, Ez⟩ := vr_tui0 (w := w) (b := w) (WW := WW) hWW (by omega) h6660 (fun i hi => (hpc i hi).2.1) (c := (vq_cn (w 21))) (fun i j hi hj => (vq_cnE (fun i hi => (hpc i hi).1) (by omega) (by omega)).1) (fun i j hi hj => (vq_cnE (fun i hi => (hpc i hi).1) (by omega) (by omega)).2) WW 0 (by omega) 1 none none none none none s72a s73a (by rw [Nat.zero_mul]; exact vq_ti0 hina)
            rw [vq_tend hinz] at Ez
            refine mz_hkP Ez ?_
            refine mz_goP 2 (c' := (if (vq_tv (vq_cn (w 21)) 0 WW) = 0 then 249 else 245, [some (.ref 65), some (.int 0), some (.int (vq_tv (vq_cn (w 21)) 0 WW)), some (.int (nI WW)), p4z, p5z, p6z, p7z, p8z], [], mz_set (mz_set w 72 s72z) 73 s73z)) rfl ?_
            refine mz_ifTP q5 ?_
            refine mz_goP 1 (c' := (250, [some (.ref 65), some (.int 0), some (.int (vq_tv (vq_cn (w 21)) 0 WW)), some (.int (nI WW)), p4z, p5z, p6z, p7z, p8z], [.int 0], mz_set (mz_set w 72 s72z) 73 s73z)) rfl ?_
            refine mz_retP (r := (some (.int (0)), mz_set (mz_set w 72 s72z) 73 s73z)) rfl ⟨0, rfl, ?_, rfl⟩
            show sm_I (n + 1) (mz_set (mz_set w 72 s72z) 73 s73z)
            exact sm_I_scr hn hI2 (fun i hi => by
              have hne : ∀ r, sm_scr r = true → i ≠ r := fun r hr e => by
                rw [e, hr] at hi
                cases hi
              simp only [mz_set_ne (hne 72 rfl), mz_set_ne (hne 73 rfl)]) rfl rfl
          · refine mz_ifFP q5 ?_
            refine mz_goP 2 (c' := (82, [some (.ref 0), some (.int 0)], [.int 1], w)) rfl ?_
            refine mz_retP (r := (some (.int (1)), w)) rfl ⟨1, rfl, ?_⟩
            refine mz_goP 3 (c' := (3, [some (.ref 65), some (.int 0), none, none, none, none, none, none, none], [.int 3, .int 0, .int 0], w)) rfl ?_
            refine mz_doPQ (R := mz_r128) (as := [.int 0, .int 0, .int 3]) (rest := []) (r1 := some (.int 1)) (m1 := w) mz_t128 mz_v128 rfl rfl rfl rfl rfl ((ct_in1 (m := w) (v := 0) (a := 0) (b := 3) (by decide) (by decide)).deep (by decide)) ?_
            refine mz_goP 2 (c' := (16, [some (.ref 65), some (.int 0), none, none, none, none, none, none, none], [.ref 65], w)) rfl ?_
            refine mz_doPQ (R := mz_r185) (as := [.ref 65]) (rest := []) (r1 := some (.int 1)) (m1 := w) mz_t185 mz_v185_65 rfl rfl rfl rfl rfl ⟨?_, rfl⟩ ?_
            · refine mz_go 1 (c' := (1, [some (.ref 65)], [.ref 65], w)) rfl ?_
              refine mz_doQ (R := mz_r183) (as := [.ref 65]) (rest := []) (r1 := some (.int (nI WW))) (m1 := w) mz_t183 mz_v183_65 rfl rfl rfl rfl rfl ⟨?_, rfl⟩ ?_
              · refine mz_go 4 (c' := (7, [some (.ref 65)], [.int (w 66 60)], w)) rfl ?_
                rw [h6660]
                exact mz_ret rfl
              refine mz_go 1 (c' := (if (nI WW) ≤ 0 then 11 else 7, [some (.ref 65)], [], w)) rfl ?_
              refine mz_ifF (show ¬ ((nI WW) ≤ 0) from (sm_nleN rfl rfl (show 0 < WW by omega) (show WW < 2 ^ 31 by omega))) ?_
              refine mz_go 2 (c' := (12, [some (.ref 65)], [.int 1], w)) rfl ?_
              exact mz_ret rfl
            refine mz_goP 2 (c' := (29, [some (.ref 65), some (.int 0), none, none, none, none, none, none, none], [.ref 65], w)) rfl ?_
            refine mz_doPQ (R := mz_r183) (as := [.ref 65]) (rest := []) (r1 := some (.int (nI WW))) (m1 := w) mz_t183 mz_v183_65 rfl rfl rfl rfl rfl ⟨?_, rfl⟩ ?_
            · refine mz_go 4 (c' := (7, [some (.ref 65)], [.int (w 66 60)], w)) rfl ?_
              rw [h6660]
              exact mz_ret rfl
            refine mz_goP 1 (c' := (33, [some (.ref 65), some (.int 0), none, none, none, none, none, none, none], [.ref 65, .int (nI WW)], w)) rfl ?_
            refine mz_doPQ (R := mz_r184) (as := [.ref 65]) (rest := [.int (nI WW)]) (r1 := some (.int (nI HH))) (m1 := w) mz_t184 mz_v184_65 rfl rfl rfl rfl rfl ⟨?_, rfl⟩ ?_
            · refine mz_go 4 (c' := (7, [some (.ref 65)], [.int (w 66 61)], w)) rfl ?_
              rw [h6661]
              exact mz_ret rfl
            refine mz_goP 1 (c' := (if (nI WW) = (nI HH) then 45 else 39, [some (.ref 65), some (.int 0), none, none, none, none, none, none, none], [], w)) rfl ?_
            refine mz_ifTP (show ((nI WW) = (nI HH)) from (sm_eqN rfl rfl (show WW = HH by omega))) ?_
            refine mz_goP 2 (c' := (47, [some (.ref 65), some (.int 0), some (.int 0), none, none, none, none, none, none], [], w)) rfl ?_
            obtain ⟨s72a, s73a, hina, Ea⟩ := vr_tu0 (b := w) 0 10 0 rfl ((w) 72) ((w) 73) (fun v hv => absurd hv (Nat.not_lt_zero v))
            rw [show mz_set (mz_set (w) 72 ((w) 72)) 73 ((w) 73) = w from by rw [sm_id, sm_id]] at Ea
            refine mz_hkP Ea ?_
            refine mz_goP 4 (c' := (77, [some (.ref 65), some (.int 0), some (.int 1), some (.int 0), none, none, none, none, none], [], mz_set (mz_set w 72 s72a) 73 s73a)) rfl ?_
            obtain ⟨bz, p4z, p5z, p6z, p7z, p8z, s72z, s73z, hinz, Ez⟩ := vr_tui0 (w := w) (b := w) (WW := WW) hWW (by omega) h6660 (fun i hi => (hpc i hi).2.1) (c := (vq_cn (w 21))) (fun i j hi hj => (vq_cnE (fun i hi => (hpc i hi).1) (by omega) (by omega)).1) (fun i j hi hj => (vq_cnE (fun i hi => (hpc i hi).1) (by omega) (by omega)).2) WW 0 (by omega) 1 none none none none none s72a s73a (by rw [Nat.zero_mul]; exact vq_ti0 hina)
            rw [vq_tend hinz] at Ez
            refine mz_hkP Ez ?_
            refine mz_goP 2 (c' := (if (vq_tv (vq_cn (w 21)) 0 WW) = 0 then 249 else 245, [some (.ref 65), some (.int 0), some (.int (vq_tv (vq_cn (w 21)) 0 WW)), some (.int (nI WW)), p4z, p5z, p6z, p7z, p8z], [], mz_set (mz_set w 72 s72z) 73 s73z)) rfl ?_
            refine mz_ifFP q5 ?_
            refine mz_goP 2 (c' := (250, [some (.ref 65), some (.int 0), some (.int (vq_tv (vq_cn (w 21)) 0 WW)), some (.int (nI WW)), p4z, p5z, p6z, p7z, p8z], [.int 1], mz_set (mz_set w 72 s72z) 73 s73z)) rfl ?_
            refine mz_retP (r := (some (.int (1)), mz_set (mz_set w 72 s72z) 73 s73z)) rfl ⟨1, rfl, ?_, rfl⟩
            show sm_I (n + 1) (mz_set (mz_set w 72 s72z) 73 s73z)
            exact sm_I_scr hn hI2 (fun i hi => by
              have hne : ∀ r, sm_scr r = true → i ≠ r := fun r hr e => by
                rw [e, hr] at hi
                cases hi
              simp only [mz_set_ne (hne 72 rfl), mz_set_ne (hne 73 rfl)]) rfl rfl
        · refine mz_goP 3 (c' := (3, [some (.ref 0), some (.int 1)], [.int 3, .int 0, .int 1], w)) rfl ?_
          refine mz_doPQ (R := mz_r121) (as := [.int 1, .int 0, .int 3]) (rest := []) (r1 := some (.int 1)) (m1 := w) mz_t121 mz_v121 rfl rfl rfl rfl rfl ((cs_in1 (m := w) (v := 1) (a := 0) (b := 3) (by decide) (by decide)).deep (by decide)) ?_
          refine mz_goP 4 (c' := (22, [some (.ref 0), some (.int 1)], [.ref 20], w)) rfl ?_
          refine mz_doPQ (R := mz_r2) (as := [.ref 20]) (rest := []) (r1 := some (.int 1)) (m1 := w) mz_t2 mz_v2_20 rfl rfl rfl rfl rfl ⟨?_, rfl⟩ ?_
          · refine mz_go 2 (c' := (4, [some (.ref 20)], [.int (w 20 2)], w)) rfl ?_
            rw [h202]
            refine mz_go 1 (c' := (if (nI WW) ≤ 0 then 18 else 7, [some (.ref 20)], [], w)) rfl ?_
            refine mz_ifF (show ¬ ((nI WW) ≤ 0) from (sm_nleN rfl rfl (show 0 < WW by omega) (show WW < 2 ^ 31 by omega))) ?_
            refine mz_go 2 (c' := (11, [some (.ref 20)], [.int (w 20 3)], w)) rfl ?_
            rw [h203]
            refine mz_go 1 (c' := (if (nI HH) ≤ 0 then 18 else 14, [some (.ref 20)], [], w)) rfl ?_
            refine mz_ifF (show ¬ ((nI HH) ≤ 0) from (sm_nleN rfl rfl (show 0 < HH by omega) (show HH < 2 ^ 31 by omega))) ?_
            refine mz_go 2 (c' := (19, [some (.ref 20)], [.int 1], w)) rfl ?_
            exact mz_ret rfl
          refine mz_goP 5 (c' := (44, [some (.ref 0), some (.int 1)], [.int (w 20 2)], w)) rfl ?_
          rw [h202]
          refine mz_goP 4 (c' := (54, [some (.ref 0), some (.int 1)], [.int (w 20 3), .int (nI WW)], w)) rfl ?_
          rw [h203]
          refine mz_goP 1 (c' := (if (nI WW) = (nI HH) then 63 else 57, [some (.ref 0), some (.int 1)], [], w)) rfl ?_
          refine mz_ifTP (show ((nI WW) = (nI HH)) from (sm_eqN rfl rfl (show WW = HH by omega))) ?_
          refine mz_goP 4 (c' := (71, [some (.ref 0), some (.int 1)], [.int 1, .ref 20], w)) rfl ?_
          have Ee1 := vc_ali1 (w := w) (WW := WW) hWW (by omega) h202 (h203.trans (congrArg nI (show HH = WW by omega))) (c := (vq_cn (w 21))) (fun i j hi hj => (vq_cnE (fun i hi => (hpc i hi).1) (by omega) (by omega)).1) (fun i j hi hj => (vq_cnE (fun i hi => (hpc i hi).1) (by omega) (by omega)).2)
          refine mz_doPQ (R := mz_r18) (as := [.ref 20, .int 1]) (rest := []) (r1 := some (.int (vq_tv (vq_cn (w 21)) 1 WW))) (m1 := w) mz_t18 mz_v18_20 rfl rfl rfl rfl rfl (Ee1.deep (by decide)) ?_
          refine mz_goP 1 (c' := (if (vq_tv (vq_cn (w 21)) 1 WW) = 0 then 81 else 77, [some (.ref 0), some (.int 1)], [], w)) rfl ?_
          by_cases q6 : (vq_tv (vq_cn (w 21)) 1 WW) = 0
          · refine mz_ifTP q6 ?_
            refine mz_goP 1 (c' := (82, [some (.ref 0), some (.int 1)], [.int 0], w)) rfl ?_
            refine mz_retP (r := (some (.int (0)), w)) rfl ⟨0, rfl, ?_⟩
            refine mz_goP 3 (c' := (3, [some (.ref 65), some (.int 1), none, none, none, none, none, none, none], [.int 3, .int 0, .int 1], w)) rfl ?_
            refine mz_doPQ (R := mz_r128) (as := [.int 1, .int 0, .int 3]) (rest := []) (r1 := some (.int 1)) (m1 := w) mz_t128 mz_v128 rfl rfl rfl rfl rfl ((ct_in1 (m := w) (v := 1) (a := 0) (b := 3) (by decide) (by decide)).deep (by decide)) ?_
            refine mz_goP 2 (c' := (16, [some (.ref 65), some (.int 1), none, none, none, none, none, none, none], [.ref 65], w)) rfl ?_
            refine mz_doPQ (R := mz_r185) (as := [.ref 65]) (rest := []) (r1 := some (.int 1)) (m1 := w) mz_t185 mz_v185_65 rfl rfl rfl rfl rfl ⟨?_, rfl⟩ ?_
            · refine mz_go 1 (c' := (1, [some (.ref 65)], [.ref 65], w)) rfl ?_
              refine mz_doQ (R := mz_r183) (as := [.ref 65]) (rest := []) (r1 := some (.int (nI WW))) (m1 := w) mz_t183 mz_v183_65 rfl rfl rfl rfl rfl ⟨?_, rfl⟩ ?_
              · refine mz_go 4 (c' := (7, [some (.ref 65)], [.int (w 66 60)], w)) rfl ?_
                rw [h6660]
                exact mz_ret rfl
              refine mz_go 1 (c' := (if (nI WW) ≤ 0 then 11 else 7, [some (.ref 65)], [], w)) rfl ?_
              refine mz_ifF (show ¬ ((nI WW) ≤ 0) from (sm_nleN rfl rfl (show 0 < WW by omega) (show WW < 2 ^ 31 by omega))) ?_
              refine mz_go 2 (c' := (12, [some (.ref 65)], [.int 1], w)) rfl ?_
              exact mz_ret rfl
            refine mz_goP 2 (c' := (29, [some (.ref 65), some (.int 1), none, none, none, none, none, none, none], [.ref 65], w)) rfl ?_
            refine mz_doPQ (R := mz_r183) (as := [.ref 65]) (rest := []) (r1 := some (.int (nI WW))) (m1 := w) mz_t183 mz_v183_65 rfl rfl rfl rfl rfl ⟨?_, rfl⟩ ?_
            · refine mz_go 4 (c' := (7, [some (.ref 65)], [.int (w 66 60)], w)) rfl ?_
              rw [h6660]
              exact mz_ret rfl
            refine mz_goP 1 (c' := (33, [some (.ref 65), some (.int 1), none, none, none, none, none, none, none], [.ref 65, .int (nI WW)], w)) rfl ?_
            refine mz_doPQ (R := mz_r184) (as := [.ref 65]) (rest := [.int (nI WW)]) (r1 := some (.int (nI HH))) (m1 := w) mz_t184 mz_v184_65 rfl rfl rfl rfl rfl ⟨?_, rfl⟩ ?_
            · refine mz_go 4 (c' := (7, [some (.ref 65)], [.int (w 66 61)], w)) rfl ?_
              rw [h6661]
              exact mz_ret rfl
            refine mz_goP 1 (c' := (if (nI WW) = (nI HH) then 45 else 39, [some (.ref 65), some (.int 1), none, none, none, none, none, none, none], [], w)) rfl ?_
            refine mz_ifTP (show ((nI WW) = (nI HH)) from (sm_eqN rfl rfl (show WW = HH by omega))) ?_
            refine mz_goP 2 (c' := (47, [some (.ref 65), some (.int 1), some (.int 0), none, none, none, none, none, none], [], w)) rfl ?_
            obtain ⟨s72a, s73a, hina, Ea⟩ := vr_tu0 (b := w) 1 10 0 rfl ((w) 72) ((w) 73) (fun v hv => absurd hv (Nat.not_lt_zero v))
            rw [show mz_set (mz_set (w) 72 ((w) 72)) 73 ((w) 73) = w from by rw [sm_id, sm_id]] at Ea
            refine mz_hkP Ea ?_
            refine mz_goP 4 (c' := (77, [some (.ref 65), some (.int 1), some (.int 1), some (.int 0), none, none, none, none, none], [], mz_set (mz_set w 72 s72a) 73 s73a)) rfl ?_
            obtain ⟨bz, p4z, p5z, p6z, p7z, p8z, s72z, s73z, hinz, Ez⟩ := vr_tui1 (w := w) (b := w) (WW := WW) hWW (by omega) h6660 (fun i hi => (hpc i hi).2.1) (c := (vq_cn (w 21))) (fun i j hi hj => (vq_cnE (fun i hi => (hpc i hi).1) (by omega) (by omega)).1) (fun i j hi hj => (vq_cnE (fun i hi => (hpc i hi).1) (by omega) (by omega)).2) WW 0 (by omega) 1 none none none none none s72a s73a (by rw [Nat.zero_mul]; exact vq_ti0 hina)
            rw [vq_tend hinz] at Ez
            refine mz_hkP Ez ?_
            refine mz_goP 2 (c' := (if (vq_tv (vq_cn (w 21)) 1 WW) = 0 then 249 else 245, [some (.ref 65), some (.int 1), some (.int (vq_tv (vq_cn (w 21)) 1 WW)), some (.int (nI WW)), p4z, p5z, p6z, p7z, p8z], [], mz_set (mz_set w 72 s72z) 73 s73z)) rfl ?_
            refine mz_ifTP q6 ?_
            refine mz_goP 1 (c' := (250, [some (.ref 65), some (.int 1), some (.int (vq_tv (vq_cn (w 21)) 1 WW)), some (.int (nI WW)), p4z, p5z, p6z, p7z, p8z], [.int 0], mz_set (mz_set w 72 s72z) 73 s73z)) rfl ?_
            refine mz_retP (r := (some (.int (0)), mz_set (mz_set w 72 s72z) 73 s73z)) rfl ⟨0, rfl, ?_, rfl⟩
            show sm_I (n + 1) (mz_set (mz_set w 72 s72z) 73 s73z)
            exact sm_I_scr hn hI2 (fun i hi => by
              have hne : ∀ r, sm_scr r = true → i ≠ r := fun r hr e => by
                rw [e, hr] at hi
                cases hi
              simp only [mz_set_ne (hne 72 rfl), mz_set_ne (hne 73 rfl)]) rfl rfl
          · refine mz_ifFP q6 ?_
            refine mz_goP 2 (c' := (82, [some (.ref 0), some (.int 1)], [.int 1], w)) rfl ?_
            refine mz_retP (r := (some (.int (1)), w)) rfl ⟨1, rfl, ?_⟩
            refine mz_goP 3 (c' := (3, [some (.ref 65), some (.int 1), none, none, none, none, none, none, none], [.int 3, .int 0, .int 1], w)) rfl ?_
            refine mz_doPQ (R := mz_r128) (as := [.int 1, .int 0, .int 3]) (rest := []) (r1 := some (.int 1)) (m1 := w) mz_t128 mz_v128 rfl rfl rfl rfl rfl ((ct_in1 (m := w) (v := 1) (a := 0) (b := 3) (by decide) (by decide)).deep (by decide)) ?_
            refine mz_goP 2 (c' := (16, [some (.ref 65), some (.int 1), none, none, none, none, none, none, none], [.ref 65], w)) rfl ?_
            refine mz_doPQ (R := mz_r185) (as := [.ref 65]) (rest := []) (r1 := some (.int 1)) (m1 := w) mz_t185 mz_v185_65 rfl rfl rfl rfl rfl ⟨?_, rfl⟩ ?_
            · refine mz_go 1 (c' := (1, [some (.ref 65)], [.ref 65], w)) rfl ?_
              refine mz_doQ (R := mz_r183) (as := [.ref 65]) (rest := []) (r1 := some (.int (nI WW))) (m1 := w) mz_t183 mz_v183_65 rfl rfl rfl rfl rfl ⟨?_, rfl⟩ ?_
              · refine mz_go 4 (c' := (7, [some (.ref 65)], [.int (w 66 60)], w)) rfl ?_
                rw [h6660]
                exact mz_ret rfl
              refine mz_go 1 (c' := (if (nI WW) ≤ 0 then 11 else 7, [some (.ref 65)], [], w)) rfl ?_
              refine mz_ifF (show ¬ ((nI WW) ≤ 0) from (sm_nleN rfl rfl (show 0 < WW by omega) (show WW < 2 ^ 31 by omega))) ?_
              refine mz_go 2 (c' := (12, [some (.ref 65)], [.int 1], w)) rfl ?_
              exact mz_ret rfl
            refine mz_goP 2 (c' := (29, [some (.ref 65), some (.int 1), none, none, none, none, none, none, none], [.ref 65], w)) rfl ?_
            refine mz_doPQ (R := mz_r183) (as := [.ref 65]) (rest := []) (r1 := some (.int (nI WW))) (m1 := w) mz_t183 mz_v183_65 rfl rfl rfl rfl rfl ⟨?_, rfl⟩ ?_
            · refine mz_go 4 (c' := (7, [some (.ref 65)], [.int (w 66 60)], w)) rfl ?_
              rw [h6660]
              exact mz_ret rfl
            refine mz_goP 1 (c' := (33, [some (.ref 65), some (.int 1), none, none, none, none, none, none, none], [.ref 65, .int (nI WW)], w)) rfl ?_
            refine mz_doPQ (R := mz_r184) (as := [.ref 65]) (rest := [.int (nI WW)]) (r1 := some (.int (nI HH))) (m1 := w) mz_t184 mz_v184_65 rfl rfl rfl rfl rfl ⟨?_, rfl⟩ ?_
            · refine mz_go 4 (c' := (7, [some (.ref 65)], [.int (w 66 61)], w)) rfl ?_
              rw [h6661]
              exact mz_ret rfl
            refine mz_goP 1 (c' := (if (nI WW) = (nI HH) then 45 else 39, [some (.ref 65), some (.int 1), none, none, none, none, none, none, none], [], w)) rfl ?_
            refine mz_ifTP (show ((nI WW) = (nI HH)) from (sm_eqN rfl rfl (show WW = HH by omega))) ?_
            refine mz_goP 2 (c' := (47, [some (.ref 65), some (.int 1), some (.int 0), none, none, none, none, none, none], [], w)) rfl ?_
            obtain ⟨s72a, s73a, hina, Ea⟩ := vr_tu0 (b := w) 1 10 0 rfl ((w) 72) ((w) 73) (fun v hv => absurd hv (Nat.not_lt_zero v))
            rw [show mz_set (mz_set (w) 72 ((w) 72)) 73 ((w) 73) = w from by rw [sm_id, sm_id]] at Ea
            refine mz_hkP Ea ?_
            refine mz_goP 4 (c' := (77, [some (.ref 65), some (.int 1), some (.int 1), some (.int 0), none, none, none, none, none], [], mz_set (mz_set w 72 s72a) 73 s73a)) rfl ?_
            obtain ⟨bz, p4z, p5z, p6z, p7z, p8z, s72z, s73z, hinz, Ez⟩ := vr_tui1 (w := w) (b := w) (WW := WW) hWW (by omega) h6660 (fun i hi => (hpc i hi).2.1) (c := (vq_cn (w 21))) (fun i j hi hj => (vq_cnE (fun i hi => (hpc i hi).1) (by omega) (by omega)).1) (fun i j hi hj => (vq_cnE (fun i hi => (hpc i hi).1) (by omega) (by omega)).2) WW 0 (by omega) 1 none none none none none s72a s73a (by rw [Nat.zero_mul]; exact vq_ti0 hina)
            rw [vq_tend hinz] at Ez
            refine mz_hkP Ez ?_
            refine mz_goP 2 (c' := (if (vq_tv (vq_cn (w 21)) 1 WW) = 0 then 249 else 245, [some (.ref 65), some (.int 1), some (.int (vq_tv (vq_cn (w 21)) 1 WW)), some (.int (nI WW)), p4z, p5z, p6z, p7z, p8z], [], mz_set (mz_set w 72 s72z) 73 s73z)) rfl ?_
            refine mz_ifFP q6 ?_
            refine mz_goP 2 (c' := (250, [some (.ref 65), some (.int 1), some (.int (vq_tv (vq_cn (w 21)) 1 WW)), some (.int (nI WW)), p4z, p5z, p6z, p7z, p8z], [.int 1], mz_set (mz_set w 72 s72z) 73 s73z)) rfl ?_
            refine mz_retP (r := (some (.int (1)), mz_set (mz_set w 72 s72z) 73 s73z)) rfl ⟨1, rfl, ?_, rfl⟩
            show sm_I (n + 1) (mz_set (mz_set w 72 s72z) 73 s73z)
            exact sm_I_scr hn hI2 (fun i hi => by
              have hne : ∀ r, sm_scr r = true → i ≠ r := fun r hr e => by
                rw [e, hr] at hi
                cases hi
              simp only [mz_set_ne (hne 72 rfl), mz_set_ne (hne 73 rfl)]) rfl rfl
        · refine mz_goP 3 (c' := (3, [some (.ref 0), some (.int 2)], [.int 3, .int 0, .int 2], w)) rfl ?_
          refine mz_doPQ (R := mz_r121) (as := [.int 2, .int 0, .int 3]) (rest := []) (r1 := some (.int 1)) (m1 := w) mz_t121 mz_v121 rfl rfl rfl rfl rfl ((cs_in1 (m := w) (v := 2) (a := 0) (b := 3) (by decide) (by decide)).deep (by decide)) ?_
          refine mz_goP 4 (c' := (22, [some (.ref 0), some (.int 2)], [.ref 20], w)) rfl ?_
          refine mz_doPQ (R := mz_r2) (as := [.ref 20]) (rest := []) (r1 := some (.int 1)) (m1 := w) mz_t2 mz_v2_20 rfl rfl rfl rfl rfl ⟨?_, rfl⟩ ?_
          · refine mz_go 2 (c' := (4, [some (.ref 20)], [.int (w 20 2)], w)) rfl ?_
            rw [h202]
            refine mz_go 1 (c' := (if (nI WW) ≤ 0 then 18 else 7, [some (.ref 20)], [], w)) rfl ?_
            refine mz_ifF (show ¬ ((nI WW) ≤ 0) from (sm_nleN rfl rfl (show 0 < WW by omega) (show WW < 2 ^ 31 by omega))) ?_
            refine mz_go 2 (c' := (11, [some (.ref 20)], [.int (w 20 3)], w)) rfl ?_
            rw [h203]
            refine mz_go 1 (c' := (if (nI HH) ≤ 0 then 18 else 14, [some (.ref 20)], [], w)) rfl ?_
            refine mz_ifF (show ¬ ((nI HH) ≤ 0) from (sm_nleN rfl rfl (show 0 < HH by omega) (show HH < 2 ^ 31 by omega))) ?_
            refine mz_go 2 (c' := (19, [some (.ref 20)], [.int 1], w)) rfl ?_
            exact mz_ret rfl
          refine mz_goP 5 (c' := (44, [some (.ref 0), some (.int 2)], [.int (w 20 2)], w)) rfl ?_
          rw [h202]
          refine mz_goP 4 (c' := (54, [some (.ref 0), some (.int 2)], [.int (w 20 3), .int (nI WW)], w)) rfl ?_
          rw [h203]
          refine mz_goP 1 (c' := (if (nI WW) = (nI HH) then 63 else 57, [some (.ref 0), some (.int 2)], [], w)) rfl ?_
          refine mz_ifTP (show ((nI WW) = (nI HH)) from (sm_eqN rfl rfl (show WW = HH by omega))) ?_
          refine mz_goP 4 (c' := (71, [some (.ref 0), some (.int 2)], [.int 2, .ref 20], w)) rfl ?_
          have Ee1 := vc_ali2 (w := w) (WW := WW) hWW (by omega) h202 (h203.trans (congrArg nI (show HH = WW by omega))) (c := (vq_cn (w 21))) (fun i j hi hj => (vq_cnE (fun i hi => (hpc i hi).1) (by omega) (by omega)).1) (fun i j hi hj => (vq_cnE (fun i hi => (hpc i hi).1) (by omega) (by omega)).2)
          refine mz_doPQ (R := mz_r18) (as := [.ref 20, .int 2]) (rest := []) (r1 := some (.int (vq_tv (vq_cn (w 21)) 2 WW))) (m1 := w) mz_t18 mz_v18_20 rfl rfl rfl rfl rfl (Ee1.deep (by decide)) ?_
          refine mz_goP 1 (c' := (if (vq_tv (vq_cn (w 21)) 2 WW) = 0 then 81 else 77, [some (.ref 0), some (.int 2)], [], w)) rfl ?_
          by_cases q7 : (vq_tv (vq_cn (w 21)) 2 WW) = 0
          · refine mz_ifTP q7 ?_
            refine mz_goP 1 (c' := (82, [some (.ref 0), some (.int 2)], [.int 0], w)) rfl ?_
            refine mz_retP (r := (some (.int (0)), w)) rfl ⟨0, rfl, ?_⟩
            refine mz_goP 3 (c' := (3, [some (.ref 65), some (.int 2), none, none, none, none, none, none, none], [.int 3, .int 0, .int 2], w)) rfl ?_
            refine mz_doPQ (R := mz_r128) (as := [.int 2, .int 0, .int 3]) (rest := []) (r1 := some (.int 1)) (m1 := w) mz_t128 mz_v128 rfl rfl rfl rfl rfl ((ct_in1 (m := w) (v := 2) (a := 0) (b := 3) (by decide) (by decide)).deep (by decide)) ?_
            refine mz_goP 2 (c' := (16, [some (.ref 65), some (.int 2), none, none, none, none, none, none, none], [.ref 65], w)) rfl ?_
            refine mz_doPQ (R := mz_r185) (as := [.ref 65]) (rest := []) (r1 := some (.int 1)) (m1 := w) mz_t185 mz_v185_65 rfl rfl rfl rfl rfl ⟨?_, rfl⟩ ?_
            · refine mz_go 1 (c' := (1, [some (.ref 65)], [.ref 65], w)) rfl ?_
              refine mz_doQ (R := mz_r183) (as := [.ref 65]) (rest := []) (r1 := some (.int (nI WW))) (m1 := w) mz_t183 mz_v183_65 rfl rfl rfl rfl rfl ⟨?_, rfl⟩ ?_
              · refine mz_go 4 (c' := (7, [some (.ref 65)], [.int (w 66 60)], w)) rfl ?_
                rw [h6660]
                exact mz_ret rfl
              refine mz_go 1 (c' := (if (nI WW) ≤ 0 then 11 else 7, [some (.ref 65)], [], w)) rfl ?_
              refine mz_ifF (show ¬ ((nI WW) ≤ 0) from (sm_nleN rfl rfl (show 0 < WW by omega) (show WW < 2 ^ 31 by omega))) ?_
              refine mz_go 2 (c' := (12, [some (.ref 65)], [.int 1], w)) rfl ?_
              exact mz_ret rfl
            refine mz_goP 2 (c' := (29, [some (.ref 65), some (.int 2), none, none, none, none, none, none, none], [.ref 65], w)) rfl ?_
            refine mz_doPQ (R := mz_r183) (as := [.ref 65]) (rest := []) (r1 := some (.int (nI WW))) (m1 := w) mz_t183 mz_v183_65 rfl rfl rfl rfl rfl ⟨?_, rfl⟩ ?_
            · refine mz_go 4 (c' := (7, [some (.ref 65)], [.int (w 66 60)], w)) rfl ?_
              rw [h6660]
              exact mz_ret rfl
            refine mz_goP 1 (c' := (33, [some (.ref 65), some (.int 2), none, none, none, none, none, none, none], [.ref 65, .int (nI WW)], w)) rfl ?_
            refine mz_doPQ (R := mz_r184) (as := [.ref 65]) (rest := [.int (nI WW)]) (r1 := some (.int (nI HH))) (m1 := w) mz_t184 mz_v184_65 rfl rfl rfl rfl rfl ⟨?_, rfl⟩ ?_
            · refine mz_go 4 (c' := (7, [some (.ref 65)], [.int (w 66 61)], w)) rfl ?_
              rw [h6661]
              exact mz_ret rfl
            refine mz_goP 1 (c' := (if (nI WW) = (nI HH) then 45 else 39, [some (.ref 65), some (.int 2), none, none, none, none, none, none, none], [], w)) rfl ?_
            refine mz_ifTP (show ((nI WW) = (nI HH)) from (sm_eqN rfl rfl (show WW = HH by omega))) ?_
            refine mz_goP 2 (c' := (47, [some (.ref 65), some (.int 2), some (.int 0), none, none, none, none, none, none], [], w)) rfl ?_
            obtain ⟨s72a, s73a, hina, Ea⟩ := vr_tu0 (b := w) 2 10 0 rfl ((w) 72) ((w) 73) (fun v hv => absurd hv (Nat.not_lt_zero v))
            rw [show mz_set (mz_set (w) 72 ((w) 72)) 73 ((w) 73) = w from by rw [sm_id, sm_id]] at Ea
            refine mz_hkP Ea ?_
            refine mz_goP 4 (c' := (77, [some (.ref 65), some (.int 2), some (.int 1), some (.int 0), none, none, none, none, none], [], mz_set (mz_set w 72 s72a) 73 s73a)) rfl ?_
            obtain ⟨bz, p4z, p5z, p6z, p7z, p8z, s72z, s73z, hinz, Ez⟩ := vr_tui2 (w := w) (b := w) (WW := WW) hWW (by omega) h6660 (fun i hi => (hpc i hi).2.1) (c := (vq_cn (w 21))) (fun i j hi hj => (vq_cnE (fun i hi => (hpc i hi).1) (by omega) (by omega)).1) (fun i j hi hj => (vq_cnE (fun i hi => (hpc i hi).1) (by omega) (by omega)).2) WW 0 (by omega) 1 none none none none none s72a s73a (by rw [Nat.zero_mul]; exact vq_ti0 hina)
            rw [vq_tend hinz] at Ez
            refine mz_hkP Ez ?_
            refine mz_goP 2 (c' := (if (vq_tv (vq_cn (w 21)) 2 WW) = 0 then 249 else 245, [some (.ref 65), some (.int 2), some (.int (vq_tv (vq_cn (w 21)) 2 WW)), some (.int (nI WW)), p4z, p5z, p6z, p7z, p8z], [], mz_set (mz_set w 72 s72z) 73 s73z)) rfl ?_
            refine mz_ifTP q7 ?_
            refine mz_goP 1 (c' := (250, [some (.ref 65), some (.int 2), some (.int (vq_tv (vq_cn (w 21)) 2 WW)), some (.int (nI WW)), p4z, p5z, p6z, p7z, p8z], [.int 0], mz_set (mz_set w 72 s72z) 73 s73z)) rfl ?_
            refine mz_retP (r := (some (.int (0)), mz_set (mz_set w 72 s72z) 73 s73z)) rfl ⟨0, rfl, ?_, rfl⟩
            show sm_I (n + 1) (mz_set (mz_set w 72 s72z) 73 s73z)
            exact sm_I_scr hn hI2 (fun i hi => by
              have hne : ∀ r, sm_scr r = true → i ≠ r := fun r hr e => by
                rw [e, hr] at hi
                cases hi
              simp only [mz_set_ne (hne 72 rfl), mz_set_ne (hne 73 rfl)]) rfl rfl
          · refine mz_ifFP q7 ?_
            refine mz_goP 2 (c' := (82, [some (.ref 0), some (.int 2)], [.int 1], w)) rfl ?_
            refine mz_retP (r := (some (.int (1)), w)) rfl ⟨1, rfl, ?_⟩
            refine mz_goP 3 (c' := (3, [some (.ref 65), some (.int 2), none, none, none, none, none, none, none], [.int 3, .int 0, .int 2], w)) rfl ?_
            refine mz_doPQ (R := mz_r128) (as := [.int 2, .int 0, .int 3]) (rest := []) (r1 := some (.int 1)) (m1 := w) mz_t128 mz_v128 rfl rfl rfl rfl rfl ((ct_in1 (m := w) (v := 2) (a := 0) (b := 3) (by decide) (by decide)).deep (by decide)) ?_
            refine mz_goP 2 (c' := (16, [some (.ref 65), some (.int 2), none, none, none, none, none, none, none], [.ref 65], w)) rfl ?_
            refine mz_doPQ (R := mz_r185) (as := [.ref 65]) (rest := []) (r1 := some (.int 1)) (m1 := w) mz_t185 mz_v185_65 rfl rfl rfl rfl rfl ⟨?_, rfl⟩ ?_
            · refine mz_go 1 (c' := (1, [some (.ref 65)], [.ref 65], w)) rfl ?_
              refine mz_doQ (R := mz_r183) (as := [.ref 65]) (rest := []) (r1 := some (.int (nI WW))) (m1 := w) mz_t183 mz_v183_65 rfl rfl rfl rfl rfl ⟨?_, rfl⟩ ?_
              · refine mz_go 4 (c' := (7, [some (.ref 65)], [.int (w 66 60)], w)) rfl ?_
                rw [h6660]
                exact mz_ret rfl
              refine mz_go 1 (c' := (if (nI WW) ≤ 0 then 11 else 7, [some (.ref 65)], [], w)) rfl ?_
              refine mz_ifF (show ¬ ((nI WW) ≤ 0) from (sm_nleN rfl rfl (show 0 < WW by omega) (show WW < 2 ^ 31 by omega))) ?_
              refine mz_go 2 (c' := (12, [some (.ref 65)], [.int 1], w)) rfl ?_
              exact mz_ret rfl
            refine mz_goP 2 (c' := (29, [some (.ref 65), some (.int 2), none, none, none, none, none, none, none], [.ref 65], w)) rfl ?_
            refine mz_doPQ (R := mz_r183) (as := [.ref 65]) (rest := []) (r1 := some (.int (nI WW))) (m1 := w) mz_t183 mz_v183_65 rfl rfl rfl rfl rfl ⟨?_, rfl⟩ ?_
            · refine mz_go 4 (c' := (7, [some (.ref 65)], [.int (w 66 60)], w)) rfl ?_
              rw [h6660]
              exact mz_ret rfl
            refine mz_goP 1 (c' := (33, [some (.ref 65), some (.int 2), none, none, none, none, none, none, none], [.ref 65, .int (nI WW)], w)) rfl ?_
            refine mz_doPQ (R := mz_r184) (as := [.ref 65]) (rest := [.int (nI WW)]) (r1 := some (.int (nI HH))) (m1 := w) mz_t184 mz_v184_65 rfl rfl rfl rfl rfl ⟨?_, rfl⟩ ?_
            · refine mz_go 4 (c' := (7, [some (.ref 65)], [.int (w 66 61)], w)) rfl ?_
              rw [h6661]
              exact mz_ret rfl
            refine mz_goP 1 (c' := (if (nI WW) = (nI HH) then 45 else 39, [some (.ref 65), some (.int 2), none, none, none, none, none, none, none], [], w)) rfl ?_
            refine mz_ifTP (show ((nI WW) = (nI HH)) from (sm_eqN rfl rfl (show WW = HH by omega))) ?_
            refine mz_goP 2 (c' := (47, [some (.ref 65), some (.int 2), some (.int 0), none, none, none, none, none, none], [], w)) rfl ?_
            obtain ⟨s72a, s73a, hina, Ea⟩ := vr_tu0 (b := w) 2 10 0 rfl ((w) 72) ((w) 73) (fun v hv => absurd hv (Nat.not_lt_zero v))
            rw [show mz_set (mz_set (w) 72 ((w) 72)) 73 ((w) 73) = w from by rw [sm_id, sm_id]] at Ea
            refine mz_hkP Ea ?_
            refine mz_goP 4 (c' := (77, [some (.ref 65), some (.int 2), some (.int 1), some (.int 0), none, none, none, none, none], [], mz_set (mz_set w 72 s72a) 73 s73a)) rfl ?_
            obtain ⟨bz, p4z, p5z, p6z, p7z, p8z, s72z, s73z, hinz, Ez⟩ := vr_tui2 (w := w) (b := w) (WW := WW) hWW (by omega) h6660 (fun i hi => (hpc i hi).2.1) (c := (vq_cn (w 21))) (fun i j hi hj => (vq_cnE (fun i hi => (hpc i hi).1) (by omega) (by omega)).1) (fun i j hi hj => (vq_cnE (fun i hi => (hpc i hi).1) (by omega) (by omega)).2) WW 0 (by omega) 1 none none none none none s72a s73a (by rw [Nat.zero_mul]; exact vq_ti0 hina)
            rw [vq_tend hinz] at Ez
            refine mz_hkP Ez ?_
            refine mz_goP 2 (c' := (if (vq_tv (vq_cn (w 21)) 2 WW) = 0 then 249 else 245, [some (.ref 65), some (.int 2), some (.int (vq_tv (vq_cn (w 21)) 2 WW)), some (.int (nI WW)), p4z, p5z, p6z, p7z, p8z], [], mz_set (mz_set w 72 s72z) 73 s73z)) rfl ?_
            refine mz_ifFP q7 ?_
            refine mz_goP 2 (c' := (250, [some (.ref 65), some (.int 2), some (.int (vq_tv (vq_cn (w 21)) 2 WW)), some (.int (nI WW)), p4z, p5z, p6z, p7z, p8z], [.int 1], mz_set (mz_set w 72 s72z) 73 s73z)) rfl ?_
            refine mz_retP (r := (some (.int (1)), mz_set (mz_set w 72 s72z) 73 s73z)) rfl ⟨1, rfl, ?_, rfl⟩
            show sm_I (n + 1) (mz_set (mz_set w 72 s72z) 73 s73z)
            exact sm_I_scr hn hI2 (fun i hi => by
              have hne : ∀ r, sm_scr r = true → i ≠ r := fun r hr e => by
                rw [e, hr] at hi
                cases hi
              simp only [mz_set_ne (hne 72 rfl), mz_set_ne (hne 73 rfl)]) rfl rfl
        · refine mz_goP 3 (c' := (3, [some (.ref 0), some (.int 3)], [.int 3, .int 0, .int 3], w)) rfl ?_
          refine mz_doPQ (R := mz_r121) (as := [.int 3, .int 0, .int 3]) (rest := []) (r1 := some (.int 1)) (m1 := w) mz_t121 mz_v121 rfl rfl rfl rfl rfl ((cs_in1 (m := w) (v := 3) (a := 0) (b := 3) (by decide) (by decide)).deep (by decide)) ?_
          refine mz_goP 4 (c' := (22, [some (.ref 0), some (.int 3)], [.ref 20], w)) rfl ?_
          refine mz_doPQ (R := mz_r2) (as := [.ref 20]) (rest := []) (r1 := some (.int 1)) (m1 := w) mz_t2 mz_v2_20 rfl rfl rfl rfl rfl ⟨?_, rfl⟩ ?_
          · refine mz_go 2 (c' := (4, [some (.ref 20)], [.int (w 20 2)], w)) rfl ?_
            rw [h202]
            refine mz_go 1 (c' := (if (nI WW) ≤ 0 then 18 else 7, [some (.ref 20)], [], w)) rfl ?_
            refine mz_ifF (show ¬ ((nI WW) ≤ 0) from (sm_nleN rfl rfl (show 0 < WW by omega) (show WW < 2 ^ 31 by omega))) ?_
            refine mz_go 2 (c' := (11, [some (.ref 20)], [.int (w 20 3)], w)) rfl ?_
            rw [h203]
            refine mz_go 1 (c' := (if (nI HH) ≤ 0 then 18 else 14, [some (.ref 20)], [], w)) rfl ?_
            refine mz_ifF (show ¬ ((nI HH) ≤ 0) from (sm_nleN rfl rfl (show 0 < HH by omega) (show HH < 2 ^ 31 by omega))) ?_
            refine mz_go 2 (c' := (19, [some (.ref 20)], [.int 1], w)) rfl ?_
            exact mz_ret rfl
          refine mz_goP 5 (c' := (44, [some (.ref 0), some (.int 3)], [.int (w 20 2)], w)) rfl ?_
          rw [h202]
          refine mz_goP 4 (c' := (54, [some (.ref 0), some (.int 3)], [.int (w 20 3), .int (nI WW)], w)) rfl ?_
          rw [h203]
          refine mz_goP 1 (c' := (if (nI WW) = (nI HH) then 63 else 57, [some (.ref 0), some (.int 3)], [], w)) rfl ?_
          refine mz_ifTP (show ((nI WW) = (nI HH)) from (sm_eqN rfl rfl (show WW = HH by omega))) ?_
          refine mz_goP 4 (c' := (71, [some (.ref 0), some (.int 3)], [.int 3, .ref 20], w)) rfl ?_
          have Ee1 := vc_ali3 (w := w) (WW := WW) hWW (by omega) h202 (h203.trans (congrArg nI (show HH = WW by omega))) (c := (vq_cn (w 21))) (fun i j hi hj => (vq_cnE (fun i hi => (hpc i hi).1) (by omega) (by omega)).1) (fun i j hi hj => (vq_cnE (fun i hi => (hpc i hi).1) (by omega) (by omega)).2)
          refine mz_doPQ (R := mz_r18) (as := [.ref 20, .int 3]) (rest := []) (r1 := some (.int (vq_tv (vq_cn (w 21)) 3 WW))) (m1 := w) mz_t18 mz_v18_20 rfl rfl rfl rfl rfl (Ee1.deep (by decide)) ?_
          refine mz_goP 1 (c' := (if (vq_tv (vq_cn (w 21)) 3 WW) = 0 then 81 else 77, [some (.ref 0), some (.int 3)], [], w)) rfl ?_
          by_cases q8 : (vq_tv (vq_cn (w 21)) 3 WW) = 0
          · refine mz_ifTP q8 ?_
            refine mz_goP 1 (c' := (82, [some (.ref 0), some (.int 3)], [.int 0], w)) rfl ?_
            refine mz_retP (r := (some (.int (0)), w)) rfl ⟨0, rfl, ?_⟩
            refine mz_goP 3 (c' := (3, [some (.ref 65), some (.int 3), none, none, none, none, none, none, none], [.int 3, .int 0, .int 3], w)) rfl ?_
            refine mz_doPQ (R := mz_r128) (as := [.int 3, .int 0, .int 3]) (rest := []) (r1 := some (.int 1)) (m1 := w) mz_t128 mz_v128 rfl rfl rfl rfl rfl ((ct_in1 (m := w) (v := 3) (a := 0) (b := 3) (by decide) (by decide)).deep (by decide)) ?_
            refine mz_goP 2 (c' := (16, [some (.ref 65), some (.int 3), none, none, none, none, none, none, none], [.ref 65], w)) rfl ?_
            refine mz_doPQ (R := mz_r185) (as := [.ref 65]) (rest := []) (r1 := some (.int 1)) (m1 := w) mz_t185 mz_v185_65 rfl rfl rfl rfl rfl ⟨?_, rfl⟩ ?_
            · refine mz_go 1 (c' := (1, [some (.ref 65)], [.ref 65], w)) rfl ?_
              refine mz_doQ (R := mz_r183) (as := [.ref 65]) (rest := []) (r1 := some (.int (nI WW))) (m1 := w) mz_t183 mz_v183_65 rfl rfl rfl rfl rfl ⟨?_, rfl⟩ ?_
              · refine mz_go 4 (c' := (7, [some (.ref 65)], [.int (w 66 60)], w)) rfl ?_
                rw [h6660]
                exact mz_ret rfl
              refine mz_go 1 (c' := (if (nI WW) ≤ 0 then 11 else 7, [some (.ref 65)], [], w)) rfl ?_
              refine mz_ifF (show ¬ ((nI WW) ≤ 0) from (sm_nleN rfl rfl (show 0 < WW by omega) (show WW < 2 ^ 31 by omega))) ?_
              refine mz_go 2 (c' := (12, [some (.ref 65)], [.int 1], w)) rfl ?_
              exact mz_ret rfl
            refine mz_goP 2 (c' := (29, [some (.ref 65), some (.int 3), none, none, none, none, none, none, none], [.ref 65], w)) rfl ?_
            refine mz_doPQ (R := mz_r183) (as := [.ref 65]) (rest := []) (r1 := some (.int (nI WW))) (m1 := w) mz_t183 mz_v183_65 rfl rfl rfl rfl rfl ⟨?_, rfl⟩ ?_
            · refine mz_go 4 (c' := (7, [some (.ref 65)], [.int (w 66 60)], w)) rfl ?_
              rw [h6660]
              exact mz_ret rfl
            refine mz_goP 1 (c' := (33, [some (.ref 65), some (.int 3), none, none, none, none, none, none, none], [.ref 65, .int (nI WW)], w)) rfl ?_
            refine mz_doPQ (R := mz_r184) (as := [.ref 65]) (rest := [.int (nI WW)]) (r1 := some (.int (nI HH))) (m1 := w) mz_t184 mz_v184_65 rfl rfl rfl rfl rfl ⟨?_, rfl⟩ ?_
            · refine mz_go 4 (c' := (7, [some (.ref 65)], [.int (w 66 61)], w)) rfl ?_
              rw [h6661]
              exact mz_ret rfl
            refine mz_goP 1 (c' := (if (nI WW) = (nI HH) then 45 else 39, [some (.ref 65), some (.int 3), none, none, none, none, none, none, none], [], w)) rfl ?_
            refine mz_ifTP (show ((nI WW) = (nI HH)) from (sm_eqN rfl rfl (show WW = HH by omega))) ?_
            refine mz_goP 2 (c' := (47, [some (.ref 65), some (.int 3), some (.int 0), none, none, none, none, none, none], [], w)) rfl ?_
            obtain ⟨s72a, s73a, hina, Ea⟩ := vr_tu0 (b := w) 3 10 0 rfl ((w) 72) ((w) 73) (fun v hv => absurd hv (Nat.not_lt_zero v))
            rw [show mz_set (mz_set (w) 72 ((w) 72)) 73 ((w) 73) = w from by rw [sm_id, sm_id]] at Ea
            refine mz_hkP Ea ?_
            refine mz_goP 4 (c' := (77, [some (.ref 65), some (.int 3), some (.int 1), some (.int 0), none, none, none, none, none], [], mz_set (mz_set w 72 s72a) 73 s73a)) rfl ?_
            obtain ⟨bz, p4z, p5z, p6z, p7z, p8z, s72z, s73z, hinz, Ez⟩ := vr_tui3 (w := w) (b := w) (WW := WW) hWW (by omega) h6660 (fun i hi => (hpc i hi).2.1) (c := (vq_cn (w 21))) (fun i j hi hj => (vq_cnE (fun i hi => (hpc i hi).1) (by omega) (by omega)).1) (fun i j hi hj => (vq_cnE (fun i hi => (hpc i hi).1) (by omega) (by omega)).2) WW 0 (by omega) 1 none none none none none s72a s73a (by rw [Nat.zero_mul]; exact vq_ti0 hina)
            rw [vq_tend hinz] at Ez
            refine mz_hkP Ez ?_
            refine mz_goP 2 (c' := (if (vq_tv (vq_cn (w 21)) 3 WW) = 0 then 249 else 245, [some (.ref 65), some (.int 3), some (.int (vq_tv (vq_cn (w 21)) 3 WW)), some (.int (nI WW)), p4z, p5z, p6z, p7z, p8z], [], mz_set (mz_set w 72 s72z) 73 s73z)) rfl ?_
            refine mz_ifTP q8 ?_
            refine mz_goP 1 (c' := (250, [some (.ref 65), some (.int 3), some (.int (vq_tv (vq_cn (w 21)) 3 WW)), some (.int (nI WW)), p4z, p5z, p6z, p7z, p8z], [.int 0], mz_set (mz_set w 72 s72z) 73 s73z)) rfl ?_
            refine mz_retP (r := (some (.int (0)), mz_set (mz_set w 72 s72z) 73 s73z)) rfl ⟨0, rfl, ?_, rfl⟩
            show sm_I (n + 1) (mz_set (mz_set w 72 s72z) 73 s73z)
            exact sm_I_scr hn hI2 (fun i hi => by
              have hne : ∀ r, sm_scr r = true → i ≠ r := fun r hr e => by
                rw [e, hr] at hi
                cases hi
              simp only [mz_set_ne (hne 72 rfl), mz_set_ne (hne 73 rfl)]) rfl rfl
          · refine mz_ifFP q8 ?_
            refine mz_goP 2 (c' := (82, [some (.ref 0), some (.int 3)], [.int 1], w)) rfl ?_
            refine mz_retP (r := (some (.int (1)), w)) rfl ⟨1, rfl, ?_⟩
            refine mz_goP 3 (c' := (3, [some (.ref 65), some (.int 3), none, none, none, none, none, none, none], [.int 3, .int 0, .int 3], w)) rfl ?_
            refine mz_doPQ (R := mz_r128) (as := [.int 3, .int 0, .int 3]) (rest := []) (r1 := some (.int 1)) (m1 := w) mz_t128 mz_v128 rfl rfl rfl rfl rfl ((ct_in1 (m := w) (v := 3) (a := 0) (b := 3) (by decide) (by decide)).deep (by decide)) ?_
            refine mz_goP 2 (c' := (16, [some (.ref 65), some (.int 3), none, none, none, none, none, none, none], [.ref 65], w)) rfl ?_
            refine mz_doPQ (R := mz_r185) (as := [.ref 65]) (rest := []) (r1 := some (.int 1)) (m1 := w) mz_t185 mz_v185_65 rfl rfl rfl rfl rfl ⟨?_, rfl⟩ ?_
            · refine mz_go 1 (c' := (1, [some (.ref 65)], [.ref 65], w)) rfl ?_
              refine mz_doQ (R := mz_r183) (as := [.ref 65]) (rest := []) (r1 := some (.int (nI WW))) (m1 := w) mz_t183 mz_v183_65 rfl rfl rfl rfl rfl ⟨?_, rfl⟩ ?_
              · refine mz_go 4 (c' := (7, [some (.ref 65)], [.int (w 66 60)], w)) rfl ?_
                rw [h6660]
                exact mz_ret rfl
              refine mz_go 1 (c' := (if (nI WW) ≤ 0 then 11 else 7, [some (.ref 65)], [], w)) rfl ?_
              refine mz_ifF (show ¬ ((nI WW) ≤ 0) from (sm_nleN rfl rfl (show 0 < WW by omega) (show WW < 2 ^ 31 by omega))) ?_
              refine mz_go 2 (c' := (12, [some (.ref 65)], [.int 1], w)) rfl ?_
              exact mz_ret rfl
            refine mz_goP 2 (c' := (29, [some (.ref 65), some (.int 3), none, none, none, none, none, none, none], [.ref 65], w)) rfl ?_
            refine mz_doPQ (R := mz_r183) (as := [.ref 65]) (rest := []) (r1 := some (.int (nI WW))) (m1 := w) mz_t183 mz_v183_65 rfl rfl rfl rfl rfl ⟨?_, rfl⟩ ?_
            · refine mz_go 4 (c' := (7, [some (.ref 65)], [.int (w 66 60)], w)) rfl ?_
              rw [h6660]
              exact mz_ret rfl
            refine mz_goP 1 (c' := (33, [some (.ref 65), some (.int 3), none, none, none, none, none, none, none], [.ref 65, .int (nI WW)], w)) rfl ?_
            refine mz_doPQ (R := mz_r184) (as := [.ref 65]) (rest := [.int (nI WW)]) (r1 := some (.int (nI HH))) (m1 := w) mz_t184 mz_v184_65 rfl rfl rfl rfl rfl ⟨?_, rfl⟩ ?_
            · refine mz_go 4 (c' := (7, [some (.ref 65)], [.int (w 66 61)], w)) rfl ?_
              rw [h6661]
              exact mz_ret rfl
            refine mz_goP 1 (c' := (if (nI WW) = (nI HH) then 45 else 39, [some (.ref 65), some (.int 3), none, none, none, none, none, none, none], [], w)) rfl ?_
            refine mz_ifTP (show ((nI WW) = (nI HH)) from (sm_eqN rfl rfl (show WW = HH by omega))) ?_
            refine mz_goP 2 (c' := (47, [some (.ref 65), some (.int 3), some (.int 0), none, none, none, none, none, none], [], w)) rfl ?_
            obtain ⟨s72a, s73a, hina, Ea⟩ := vr_tu0 (b := w) 3 10 0 rfl ((w) 72) ((w) 73) (fun v hv => absurd hv (Nat.not_lt_zero v))
            rw [show mz_set (mz_set (w) 72 ((w) 72)) 73 ((w) 73) = w from by rw [sm_id, sm_id]] at Ea
            refine mz_hkP Ea ?_
            refine mz_goP 4 (c' := (77, [some (.ref 65), some (.int 3), some (.int 1), some (.int 0), none, none, none, none, none], [], mz_set (mz_set w 72 s72a) 73 s73a)) rfl ?_
            obtain ⟨bz, p4z, p5z, p6z, p7z, p8z, s72z, s73z, hinz, Ez⟩ := vr_tui3 (w := w) (b := w) (WW := WW) hWW (by omega) h6660 (fun i hi => (hpc i hi).2.1) (c := (vq_cn (w 21))) (fun i j hi hj => (vq_cnE (fun i hi => (hpc i hi).1) (by omega) (by omega)).1) (fun i j hi hj => (vq_cnE (fun i hi => (hpc i hi).1) (by omega) (by omega)).2) WW 0 (by omega) 1 none none none none none s72a s73a (by rw [Nat.zero_mul]; exact vq_ti0 hina)
            rw [vq_tend hinz] at Ez
            refine mz_hkP Ez ?_
            refine mz_goP 2 (c' := (if (vq_tv (vq_cn (w 21)) 3 WW) = 0 then 249 else 245, [some (.ref 65), some (.int 3), some (.int (vq_tv (vq_cn (w 21)) 3 WW)), some (.int (nI WW)), p4z, p5z, p6z, p7z, p8z], [], mz_set (mz_set w 72 s72z) 73 s73z)) rfl ?_
            refine mz_ifFP q8 ?_
            refine mz_goP 2 (c' := (250, [some (.ref 65), some (.int 3), some (.int (vq_tv (vq_cn (w 21)) 3 WW)), some (.int (nI WW)), p4z, p5z, p6z, p7z, p8z], [.int 1], mz_set (mz_set w 72 s72z) 73 s73z)) rfl ?_
            refine mz_retP (r := (some (.int (1)), mz_set (mz_set w 72 s72z) 73 s73z)) rfl ⟨1, rfl, ?_, rfl⟩
            show sm_I (n + 1) (mz_set (mz_set w 72 s72z) 73 s73z)
            exact sm_I_scr hn hI2 (fun i hi => by
              have hne : ∀ r, sm_scr r = true → i ≠ r := fun r hr e => by
                rw [e, hr] at hi
                cases hi
              simp only [mz_set_ne (hne 72 rfl), mz_set_ne (hne 73 rfl)]) rfl rfl
      · refine mz_goP 3 (c' := (3, [some (.ref 0), some (.int xa)], [.int 3, .int 0, .int xa], w)) rfl ?_
        refine mz_doPQ (R := mz_r121) (as := [.int xa, .int 0, .int 3]) (rest := []) (r1 := some (.int 1)) (m1 := w) mz_t121 mz_v121 rfl rfl rfl rfl rfl ((cs_in1 (m := w) (v := xa) (a := 0) (b := 3) (show ¬ (xa < 0) from (sm_in_lo q1)) (show ¬ (3 < xa) from (sm_in_hi q1))).deep (by decide)) ?_
        refine mz_goP 4 (c' := (22, [some (.ref 0), some (.int xa)], [.ref 20], w)) rfl ?_
        refine mz_doPQ (R := mz_r2) (as := [.ref 20]) (rest := []) (r1 := some (.int 1)) (m1 := w) mz_t2 mz_v2_20 rfl rfl rfl rfl rfl ⟨?_, rfl⟩ ?_
        · refine mz_go 2 (c' := (4, [some (.ref 20)], [.int (w 20 2)], w)) rfl ?_
          rw [h202]
          refine mz_go 1 (c' := (if (nI WW) ≤ 0 then 18 else 7, [some (.ref 20)], [], w)) rfl ?_
          refine mz_ifF (show ¬ ((nI WW) ≤ 0) from (sm_nleN rfl rfl (show 0 < WW by omega) (show WW < 2 ^ 31 by omega))) ?_
          refine mz_go 2 (c' := (11, [some (.ref 20)], [.int (w 20 3)], w)) rfl ?_
          rw [h203]
          refine mz_go 1 (c' := (if (nI HH) ≤ 0 then 18 else 14, [some (.ref 20)], [], w)) rfl ?_
          refine mz_ifF (show ¬ ((nI HH) ≤ 0) from (sm_nleN rfl rfl (show 0 < HH by omega) (show HH < 2 ^ 31 by omega))) ?_
          refine mz_go 2 (c' := (19, [some (.ref 20)], [.int 1], w)) rfl ?_
          exact mz_ret rfl
        refine mz_goP 5 (c' := (44, [some (.ref 0), some (.int xa)], [.int (w 20 2)], w)) rfl ?_
        rw [h202]
        refine mz_goP 4 (c' := (54, [some (.ref 0), some (.int xa)], [.int (w 20 3), .int (nI WW)], w)) rfl ?_
        rw [h203]
        refine mz_goP 1 (c' := (if (nI WW) = (nI HH) then 63 else 57, [some (.ref 0), some (.int xa)], [], w)) rfl ?_
        refine mz_ifFP (show ¬ ((nI WW) = (nI HH)) from (sm_neN rfl rfl (show WW ≠ HH by omega) (show WW < 2 ^ 31 by omega) (show HH < 2 ^ 31 by omega))) ?_
        refine mz_goP 2 (c' := (59, [some (.ref 0), some (.int xa)], [.int 3, .ref 0], w)) rfl ?_
        refine mz_doPQ (R := mz_r109) (as := [.ref 0, .int 3]) (rest := []) (r1 := some (.int (-1000003))) (m1 := mz_up w 64 3 ((w 64 3) + 1)) mz_t109 mz_v109_0 rfl rfl rfl rfl rfl ((cs_err3 (m := w)).deep (by decide)) ?_
        refine mz_retP (r := (some (.int ((-1000003))), mz_up w 64 3 ((w 64 3) + 1))) rfl ⟨(-1000003), rfl, ?_⟩
        refine mz_goP 3 (c' := (3, [some (.ref 65), some (.int xa), none, none, none, none, none, none, none], [.int 3, .int 0, .int xa], mz_up w 64 3 ((w 64 3) + 1))) rfl ?_
        refine mz_doPQ (R := mz_r128) (as := [.int xa, .int 0, .int 3]) (rest := []) (r1 := some (.int 1)) (m1 := mz_up w 64 3 ((w 64 3) + 1)) mz_t128 mz_v128 rfl rfl rfl rfl rfl ((ct_in1 (m := mz_up w 64 3 ((w 64 3) + 1)) (v := xa) (a := 0) (b := 3) (show ¬ (xa < 0) from (sm_in_lo q1)) (show ¬ (3 < xa) from (sm_in_hi q1))).deep (by decide)) ?_
        refine mz_goP 2 (c' := (16, [some (.ref 65), some (.int xa), none, none, none, none, none, none, none], [.ref 65], mz_up w 64 3 ((w 64 3) + 1))) rfl ?_
        refine mz_doPQ (R := mz_r185) (as := [.ref 65]) (rest := []) (r1 := some (.int 1)) (m1 := mz_up w 64 3 ((w 64 3) + 1)) mz_t185 mz_v185_65 rfl rfl rfl rfl rfl ⟨?_, rfl⟩ ?_
        · refine mz_go 1 (c' := (1, [some (.ref 65)], [.ref 65], mz_up w 64 3 ((w 64 3) + 1))) rfl ?_
          refine mz_doQ (R := mz_r183) (as := [.ref 65]) (rest := []) (r1 := some (.int (nI WW))) (m1 := mz_up w 64 3 ((w 64 3) + 1)) mz_t183 mz_v183_65 rfl rfl rfl rfl rfl ⟨?_, rfl⟩ ?_
          · refine mz_go 4 (c' := (7, [some (.ref 65)], [.int (w 66 60)], mz_up w 64 3 ((w 64 3) + 1))) rfl ?_
            rw [h6660]
            exact mz_ret rfl
          refine mz_go 1 (c' := (if (nI WW) ≤ 0 then 11 else 7, [some (.ref 65)], [], mz_up w 64 3 ((w 64 3) + 1))) rfl ?_
          refine mz_ifF (show ¬ ((nI WW) ≤ 0) from (sm_nleN rfl rfl (show 0 < WW by omega) (show WW < 2 ^ 31 by omega))) ?_
          refine mz_go 2 (c' := (12, [some (.ref 65)], [.int 1], mz_up w 64 3 ((w 64 3) + 1))) rfl ?_
          exact mz_ret rfl
        refine mz_goP 2 (c' := (29, [some (.ref 65), some (.int xa), none, none, none, none, none, none, none], [.ref 65], mz_up w 64 3 ((w 64 3) + 1))) rfl ?_
        refine mz_doPQ (R := mz_r183) (as := [.ref 65]) (rest := []) (r1 := some (.int (nI WW))) (m1 := mz_up w 64 3 ((w 64 3) + 1)) mz_t183 mz_v183_65 rfl rfl rfl rfl rfl ⟨?_, rfl⟩ ?_
        · refine mz_go 4 (c' := (7, [some (.ref 65)], [.int (w 66 60)], mz_up w 64 3 ((w 64 3) + 1))) rfl ?_
          rw [h6660]
          exact mz_ret rfl
        refine mz_goP 1 (c' := (33, [some (.ref 65), some (.int xa), none, none, none, none, none, none, none], [.ref 65, .int (nI WW)], mz_up w 64 3 ((w 64 3) + 1))) rfl ?_
        refine mz_doPQ (R := mz_r184) (as := [.ref 65]) (rest := [.int (nI WW)]) (r1 := some (.int (nI HH))) (m1 := mz_up w 64 3 ((w 64 3) + 1)) mz_t184 mz_v184_65 rfl rfl rfl rfl rfl ⟨?_, rfl⟩ ?_
        · refine mz_go 4 (c' := (7, [some (.ref 65)], [.int (w 66 61)], mz_up w 64 3 ((w 64 3) + 1))) rfl ?_
          rw [h6661]
          exact mz_ret rfl
        refine mz_goP 1 (c' := (if (nI WW) = (nI HH) then 45 else 39, [some (.ref 65), some (.int xa), none, none, none, none, none, none, none], [], mz_up w 64 3 ((w 64 3) + 1))) rfl ?_
        refine mz_ifFP (show ¬ ((nI WW) = (nI HH)) from (sm_neN rfl rfl (show WW ≠ HH by omega) (show WW < 2 ^ 31 by omega) (show HH < 2 ^ 31 by omega))) ?_
        refine mz_goP 2 (c' := (41, [some (.ref 65), some (.int xa), none, none, none, none, none, none, none], [.int 3, .ref 65], mz_up w 64 3 ((w 64 3) + 1))) rfl ?_
        refine mz_doPQ (R := mz_r127) (as := [.ref 65, .int 3]) (rest := []) (r1 := some (.int (-1000003))) (m1 := mz_up (mz_up w 64 3 ((w 64 3) + 1)) 68 3 ((w 68 3) + 1)) mz_t127 mz_v127_65 rfl rfl rfl rfl rfl ((ct_err3 (m := mz_up w 64 3 ((w 64 3) + 1))).deep (by decide)) ?_
        refine mz_retP (r := (some (.int ((-1000003))), mz_up (mz_up w 64 3 ((w 64 3) + 1)) 68 3 ((w 68 3) + 1))) rfl ⟨(-1000003), rfl, ?_, rfl⟩
        show sm_I (n + 1) (mz_up (mz_up w 64 3 ((w 64 3) + 1)) 68 3 ((w 68 3) + 1))
        exact sm_I_scr hn hI2 (fun i hi => by
          have hne : ∀ r, sm_scr r = true → i ≠ r := fun r hr e => by
            rw [e, hr] at hi
            cases hi
          simp only [mz_up_ne (hne 64 rfl), mz_up_ne (hne 68 rfl)]) rfl rfl
