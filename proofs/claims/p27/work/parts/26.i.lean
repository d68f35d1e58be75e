/-! cells of a picture: another colour, an edge -/
noncomputable def vq_ot (f : Nat → Int32) (W H : Nat) (a b c : Int32) : Int32 := if 0 ≤ a.toInt ∧ a.toInt < (W : Int) ∧ 0 ≤ b.toInt ∧ b.toInt < (H : Int) then (if f (b.toInt.toNat * 6 + a.toInt.toNat) = c then 0 else 1) else 0
theorem vq_o0 {f : Nat → Int32} {W H : Nat} {a b c : Int32} (h : W = 0) : 0 = vq_ot f W H a b c := by
  unfold vq_ot
  rw [if_neg (by omega)]
theorem vq_o1 {f : Nat → Int32} {W H : Nat} {a b c : Int32} (h : a < 0) : 0 = vq_ot f W H a b c := by
  have h2 : a.toInt < 0 := Int32.lt_iff_toInt_lt.mp h
  unfold vq_ot
  rw [if_neg (by omega)]
theorem vq_o2 {f : Nat → Int32} {W H A : Nat} {b c : Int32} (hA : A < 2 ^ 31) (h : W ≤ A) : 0 = vq_ot f W H (nI A) b c := by
  unfold vq_ot
  rw [nI_toInt hA, if_neg (by omega)]
theorem vq_o3 {f : Nat → Int32} {W H : Nat} {a b c : Int32} (h : b < 0) : 0 = vq_ot f W H a b c := by
  have h2 : b.toInt < 0 := Int32.lt_iff_toInt_lt.mp h
  unfold vq_ot
  rw [if_neg (by omega)]
theorem vq_o4 {f : Nat → Int32} {W H B : Nat} {a c : Int32} (hB : B < 2 ^ 31) (h : H ≤ B) : 0 = vq_ot f W H a (nI B) c := by
  unfold vq_ot
  rw [nI_toInt hB, if_neg (by omega)]
theorem vq_o {f : Nat → Int32} {W H A B : Nat} {c : Int32} (hA : A < W) (hB : B < H) (hW : W ≤ 6) (hH : H ≤ 6) : vq_ot f W H (nI A) (nI B) c = if f (B * 6 + A) = c then 0 else 1 := by
  unfold vq_ot
  rw [nI_toInt (show A < 2 ^ 31 by omega), nI_toInt (show B < 2 ^ 31 by omega), if_pos (by omega)]
  rfl
theorem vq_o5 {f : Nat → Int32} {W H A B : Nat} {c : Int32} (hA : A < W) (hB : B < H) (hW : W ≤ 6) (hH : H ≤ 6) (h : f (B * 6 + A) = c) : 0 = vq_ot f W H (nI A) (nI B) c := by
  rw [vq_o hA hB hW hH, if_pos h]
theorem vq_o6 {f : Nat → Int32} {W H A B : Nat} {c : Int32} (hA : A < W) (hB : B < H) (hW : W ≤ 6) (hH : H ≤ 6) (h : ¬ f (B * 6 + A) = c) : 1 = vq_ot f W H (nI A) (nI B) c := by
  rw [vq_o hA hB hW hH, if_neg h]
theorem vq_ot_eq {f g : Nat → Int32} {W H : Nat} (hW : W ≤ 6) (hH : H ≤ 6) (h : ∀ i, i < 36 → f i = g i) (a b c : Int32) : vq_ot f W H a b c = vq_ot g W H a b c := by
  unfold vq_ot
  by_cases q : 0 ≤ a.toInt ∧ a.toInt < (W : Int) ∧ 0 ≤ b.toInt ∧ b.toInt < (H : Int)
  · rw [if_pos q, if_pos q, h (b.toInt.toNat * 6 + a.toInt.toNat) (by omega)]
  · rw [if_neg q, if_neg q]
noncomputable def vq_ed (f : Nat → Int32) (W H I J : Nat) (c : Int32) : Int32 := if vq_ot f W H (nI I - 1) (nI J) c = 0 then (if vq_ot f W H (nI I + 1) (nI J) c = 0 then (if vq_ot f W H (nI I) (nI J - 1) c = 0 then (if vq_ot f W H (nI I) (nI J + 1) c = 0 then 0 else 1) else 1) else 1) else 1
theorem vq_ed_eq {f g : Nat → Int32} {W H : Nat} (hW : W ≤ 6) (hH : H ≤ 6) (h : ∀ i, i < 36 → f i = g i) (I J : Nat) (c : Int32) : vq_ed f W H I J c = vq_ed g W H I J c := by
  unfold vq_ed
  rw [vq_ot_eq hW hH h, vq_ot_eq hW hH h, vq_ot_eq hW hH h, vq_ot_eq hW hH h]
theorem vq_m1 {I : Nat} (h : I = 0) : nI I - 1 = -1 := by
  subst h
  decide
/-! folds and sums -/
noncomputable def vq_fold {α : Type} (g : Int32 → α → α) (o : Int32 → Prop) [DecidablePred o] : Nat → Int32 → α → α
  | 0, _, s => s
  | n + 1, x, s => if o x then s else vq_fold g o n (x + 1) (g x s)
theorem vq_fold_out {α : Type} {g : Int32 → α → α} {o : Int32 → Prop} [DecidablePred o] {n : Nat} {x : Int32} {s : α} (h : o x) : vq_fold g o n x s = s := by
  cases n with
  | zero => rfl
  | succ n => exact if_pos h
theorem vq_fold_in {α : Type} {g : Int32 → α → α} {o : Int32 → Prop} [DecidablePred o] {n : Nat} {x : Int32} {s s' : α} (h : ¬ o x) (e : g x s = s') : vq_fold g o (n + 1) x s = vq_fold g o n (x + 1) s' := by
  rw [← e]
  exact if_neg h
noncomputable def vq_fn {α : Type} (g : Nat → α → α) : Nat → Nat → α → α
  | 0, _, s => s
  | n + 1, k, s => vq_fn g n (k + 1) (g k s)
theorem vq_fn_in {α : Type} {g : Nat → α → α} {n k : Nat} {s s' : α} (e : g k s = s') : vq_fn g (n + 1) k s = vq_fn g n (k + 1) s' := by
  rw [← e]
  rfl
noncomputable def vq_sum : Nat → (Nat → Int32) → Int32
  | 0, _ => 0
  | n + 1, f => f 0 + vq_sum n (fun k => f (k + 1))
theorem vq_alc (a b c : Int32) : a + (b + c) = b + (a + c) := by rw [← Int32.add_assoc, Int32.add_comm a b, Int32.add_assoc]
theorem vq_sum_add : ∀ (n : Nat) (f g : Nat → Int32), vq_sum n (fun k => f k + g k) = vq_sum n f + vq_sum n g := by
  intro n
  induction n with
  | zero =>
    intro f g
    rfl
  | succ n ih =>
    intro f g
    show f 0 + g 0 + vq_sum n (fun k => f (k + 1) + g (k + 1)) = f 0 + vq_sum n (fun k => f (k + 1)) + (g 0 + vq_sum n (fun k => g (k + 1)))
    rw [ih (fun k => f (k + 1)) (fun k => g (k + 1)), Int32.add_assoc, Int32.add_assoc, vq_alc (g 0)]
theorem vq_sum_0 : ∀ n : Nat, vq_sum n (fun _ => 0) = 0 := by
  intro n
  induction n with
  | zero => rfl
  | succ n ih =>
    show 0 + vq_sum n (fun _ => 0) = 0
    rw [ih]
    rfl
theorem vq_sum_comm : ∀ (n m : Nat) (F : Nat → Nat → Int32), vq_sum n (fun i => vq_sum m (fun j => F i j)) = vq_sum m (fun j => vq_sum n (fun i => F i j)) := by
  intro n
  induction n with
  | zero =>
    intro m F
    exact (vq_sum_0 m).symm
  | succ n ih =>
    intro m F
    show vq_sum m (fun j => F 0 j) + vq_sum n (fun i => vq_sum m (fun j => F (i + 1) j)) = vq_sum m (fun j => F 0 j + vq_sum n (fun i => F (i + 1) j))
    rw [ih m (fun i j => F (i + 1) j), vq_sum_add]
theorem vq_sum_ex {n : Nat} {f g : Nat → Int32} (h : ∀ k, f k = g k) : vq_sum n f = vq_sum n g := by
  rw [show f = g from funext h]
theorem vq_x0 (x : Int32) : x + nI 0 = x := by
  rw [show nI 0 = 0 from rfl, Int32.add_zero]
theorem vq_x1 (x : Int32) (k : Nat) : x + 1 + nI k = x + nI (k + 1) := by
  rw [nI_succ k, Int32.add_assoc, Int32.add_comm 1]
theorem vq_fold_sum (h : Int32 → Int32) {e : Int32} (he : e.toInt < 2147483647) : ∀ (n : Nat) (x s : Int32), x.toInt + (n : Int) ≤ e.toInt + 1 → vq_fold (fun y t => t + h y) (fun y => e < y) n x s = s + vq_sum n (fun k => h (x + nI k)) := by
  intro n
  induction n with
  | zero =>
    intro x s _
    show s = s + 0
    rw [Int32.add_zero]
  | succ n ih =>
    intro x s hx
    have h1 : ¬ e < x := fun q => by
      have := Int32.lt_iff_toInt_lt.mp q
      omega
    have h2 : (x + 1).toInt = x.toInt + 1 := by
      have hl := Int32.le_toInt x
      have e1 : (1 : Int32).toInt = 1 := by decide
      rw [sm_add (by rw [e1]; omega) (by rw [e1]; omega), e1]
    rw [vq_fold_in (g := fun y t => t + h y) (o := fun y => e < y) (s' := s + h x) h1 rfl, ih (x + 1) (s + h x) (by omega)]
    show s + h x + vq_sum n (fun k => h (x + 1 + nI k)) = s + (h (x + nI 0) + vq_sum n (fun k => h (x + nI (k + 1))))
    rw [vq_x0, Int32.add_assoc, vq_sum_ex (fun k => by rw [vq_x1])]
/-! cells of a colour around one -/
noncomputable def vq_is (f : Nat → Int32) (W H : Nat) (a b c : Int32) : Int32 := if 0 ≤ a.toInt ∧ a.toInt < (W : Int) ∧ 0 ≤ b.toInt ∧ b.toInt < (H : Int) then (if f (b.toInt.toNat * 6 + a.toInt.toNat) = c then 1 else 0) else 0
theorem vq_s {f : Nat → Int32} {W H : Nat} {a b c s : Int32} (h : ¬ (0 ≤ a.toInt ∧ a.toInt < (W : Int) ∧ 0 ≤ b.toInt ∧ b.toInt < (H : Int))) : s + vq_is f W H a b c = s := by
  unfold vq_is
  rw [if_neg h, Int32.add_zero]
theorem vq_s0 {f : Nat → Int32} {W H : Nat} {a b c s : Int32} (h : W = 0) : s + vq_is f W H a b c = s := vq_s (by omega)
theorem vq_s1 {f : Nat → Int32} {W H : Nat} {a b c s : Int32} (h : a < 0) : s + vq_is f W H a b c = s := by
  have h2 : a.toInt < 0 := Int32.lt_iff_toInt_lt.mp h
  exact vq_s (by omega)
theorem vq_s2 {f : Nat → Int32} {W H A : Nat} {b c s : Int32} (hA : A < 2 ^ 31) (h : W ≤ A) : s + vq_is f W H (nI A) b c = s := by
  have h2 := nI_toInt hA
  exact vq_s (by omega)
theorem vq_s3 {f : Nat → Int32} {W H : Nat} {a b c s : Int32} (h : b < 0) : s + vq_is f W H a b c = s := by
  have h2 : b.toInt < 0 := Int32.lt_iff_toInt_lt.mp h
  exact vq_s (by omega)
theorem vq_s4 {f : Nat → Int32} {W H B : Nat} {a c s : Int32} (hB : B < 2 ^ 31) (h : H ≤ B) : s + vq_is f W H a (nI B) c = s := by
  have h2 := nI_toInt hB
  exact vq_s (by omega)
theorem vq_i {f : Nat → Int32} {W H A B : Nat} {c : Int32} (hA : A < W) (hB : B < H) (hW : W ≤ 6) (hH : H ≤ 6) : vq_is f W H (nI A) (nI B) c = if f (B * 6 + A) = c then 1 else 0 := by
  unfold vq_is
  rw [nI_toInt (show A < 2 ^ 31 by omega), nI_toInt (show B < 2 ^ 31 by omega), if_pos (by omega)]
  rfl
theorem vq_s5 {f : Nat → Int32} {W H A B : Nat} {c s : Int32} (hA : A < W) (hB : B < H) (hW : W ≤ 6) (hH : H ≤ 6) (h : f (B * 6 + A) = c) : s + vq_is f W H (nI A) (nI B) c = s + 1 := by
  rw [vq_i hA hB hW hH, if_pos h]
theorem vq_s6 {f : Nat → Int32} {W H A B : Nat} {c s : Int32} (hA : A < W) (hB : B < H) (hW : W ≤ 6) (hH : H ≤ 6) (h : ¬ f (B * 6 + A) = c) : s + vq_is f W H (nI A) (nI B) c = s := by
  rw [vq_i hA hB hW hH, if_neg h, Int32.add_zero]
theorem vq_is_eq {f g : Nat → Int32} {W H : Nat} (hW : W ≤ 6) (hH : H ≤ 6) (h : ∀ i, i < 36 → f i = g i) (a b c : Int32) : vq_is f W H a b c = vq_is g W H a b c := by
  unfold vq_is
  by_cases q : 0 ≤ a.toInt ∧ a.toInt < (W : Int) ∧ 0 ≤ b.toInt ∧ b.toInt < (H : Int)
  · rw [if_pos q, if_pos q, h (b.toInt.toNat * 6 + a.toInt.toNat) (by omega)]
  · rw [if_neg q, if_neg q]
noncomputable def vq_fu (x d : Int32) : Nat := ((x + d).toInt - (x - d).toInt + 1).toNat
/-- row by row, and column by column -/
noncomputable def vq_ac (f : Nat → Int32) (W H : Nat) (i j d c : Int32) : Int32 := vq_fold (fun b s => vq_fold (fun a s => s + vq_is f W H a b c) (fun a => i + d < a) (vq_fu i d) (i - d) s) (fun b => j + d < b) (vq_fu j d) (j - d) 0
noncomputable def vq_ar (f : Nat → Int32) (W H : Nat) (i j d c : Int32) : Int32 := vq_fold (fun a s => vq_fold (fun b s => s + vq_is f W H a b c) (fun b => j + d < b) (vq_fu j d) (j - d) s) (fun a => i + d < a) (vq_fu i d) (i - d) 0
theorem vq_fu_le {x d : Int32} (hx : sm_B 1000 x) (hd : sm_B 1000 d) (h0 : 0 ≤ d.toInt) : (x - d).toInt + (vq_fu x d : Int) ≤ (x + d).toInt + 1 ∧ (x + d).toInt < 2147483647 := by
  obtain ⟨x1, x2⟩ := hx
  obtain ⟨d1, d2⟩ := hd
  have e1 : (x + d).toInt = x.toInt + d.toInt := sm_add (by omega) (by omega)
  have e2 : (x - d).toInt = x.toInt - d.toInt := sm_sub (by omega) (by omega)
  unfold vq_fu
  omega
theorem vq_ac_ar {f : Nat → Int32} {W H : Nat} {i j d c : Int32} (hi : sm_B 1000 i) (hj : sm_B 1000 j) (hd : sm_B 1000 d) (h0 : 0 ≤ d.toInt) : vq_ac f W H i j d c = vq_ar f W H i j d c := by
  obtain ⟨i1, i2⟩ := vq_fu_le hi hd h0
  obtain ⟨j1, j2⟩ := vq_fu_le hj hd h0
  unfold vq_ac vq_ar
  rw [show (fun b s => vq_fold (fun a s => s + vq_is f W H a b c) (fun a => i + d < a) (vq_fu i d) (i - d) s) = fun b s => s + vq_sum (vq_fu i d) (fun k => vq_is f W H (i - d + nI k) b c) from funext fun b => funext fun s => vq_fold_sum (fun a => vq_is f W H a b c) i2 _ _ _ i1]
  rw [show (fun a s => vq_fold (fun b s => s + vq_is f W H a b c) (fun b => j + d < b) (vq_fu j d) (j - d) s) = fun a s => s + vq_sum (vq_fu j d) (fun k => vq_is f W H a (j - d + nI k) c) from funext fun a => funext fun s => vq_fold_sum (fun b => vq_is f W H a b c) j2 _ _ _ j1]
  rw [vq_fold_sum (fun b => vq_sum (vq_fu i d) (fun k => vq_is f W H (i - d + nI k) b c)) j2 _ _ _ j1, vq_fold_sum (fun a => vq_sum (vq_fu j d) (fun k => vq_is f W H a (j - d + nI k) c)) i2 _ _ _ i1]
  rw [vq_sum_comm]
theorem vq_ar_eq {f g : Nat → Int32} {W H : Nat} (hW : W ≤ 6) (hH : H ≤ 6) (h : ∀ i, i < 36 → f i = g i) (i j d c : Int32) : vq_ar f W H i j d c = vq_ar g W H i j d c := by
  unfold vq_ar
  have e : ∀ a b, vq_is f W H a b c = vq_is g W H a b c := fun a b => vq_is_eq hW hH h a b c
  simp only [e]
/-! the best -/
noncomputable def vq_su (n p : Int32) (s : Int32 × Int32) : Int32 × Int32 := if s.1 < n then (n, p) else s
theorem vq_su0 {n p a b : Int32} (h : ¬ a < n) : vq_su n p (a, b) = (a, b) := if_neg h
theorem vq_su1 {n p a b : Int32} (h : a < n) : vq_su n p (a, b) = (n, p) := if_pos h
/-! fair: the most and the fewest, the greatest in both -/
noncomputable def vq_mm (n : Int32) (s : Int32 × Int32) : Int32 × Int32 := (sm_max s.1 n, sm_min s.2 n)
theorem vq_mm1 {n x y x' y' : Int32} (h1 : sm_max x n = x') (h2 : sm_min y n = y') : vq_mm n (x, y) = (x', y') := by
  unfold vq_mm
  rw [← h1, ← h2]
theorem vq_max1 {x n : Int32} (h : x < n) : sm_max x n = n := if_pos h
theorem vq_max0 {x n : Int32} (h : ¬ x < n) : sm_max x n = x := if_neg h
theorem vq_min1 {x n : Int32} (h : n < x) : sm_min x n = n := if_pos h
theorem vq_min0 {x n : Int32} (h : ¬ n < x) : sm_min x n = x := if_neg h
theorem vq_sum_split : ∀ (p q : Nat) (g : Nat → Int32), vq_sum (p + q) g = vq_sum p g + vq_sum q (fun k => g (p + k)) := by
  intro p
  induction p with
  | zero =>
    intro q g
    rw [Nat.zero_add, show (fun k => g (0 + k)) = g from funext fun k => by rw [Nat.zero_add]]
    exact (Int32.zero_add _).symm
  | succ p ih =>
    intro q g
    rw [show p + 1 + q = (p + q) + 1 by omega]
    show g 0 + vq_sum (p + q) (fun k => g (k + 1)) = g 0 + vq_sum p (fun k => g (k + 1)) + vq_sum q (fun k => g (p + 1 + k))
    rw [ih q (fun k => g (k + 1)), Int32.add_assoc, show (fun k => g (p + k + 1)) = fun k => g (p + 1 + k) from funext fun k => by rw [show p + k + 1 = p + 1 + k by omega]]
theorem vq_sum_z : ∀ (n : Nat) (g : Nat → Int32), (∀ k, k < n → g k = 0) → vq_sum n g = 0 := by
  intro n
  induction n with
  | zero =>
    intro g _
    rfl
  | succ n ih =>
    intro g h
    show g 0 + vq_sum n (fun k => g (k + 1)) = 0
    rw [h 0 (by omega), ih (fun k => g (k + 1)) (fun k hk => h (k + 1) (by omega))]
    rfl
theorem vq_sum_le {M : Nat} (hM : M ≤ 6) : ∀ (n : Nat) (g : Nat → Int32), n ≤ 20 → (∀ k, k < n → 0 ≤ (g k).toInt ∧ (g k).toInt ≤ (M : Int)) → 0 ≤ (vq_sum n g).toInt ∧ (vq_sum n g).toInt ≤ ((n * M : Nat) : Int) := by
  intro n
  induction n with
  | zero =>
    intro g _ _
    have e : (vq_sum 0 g).toInt = 0 := by
      show (0 : Int32).toInt = 0
      decide
    rw [e]
    omega
  | succ n ih =>
    intro g hn h
    obtain ⟨i1, i2⟩ := ih (fun k => g (k + 1)) (by omega) (fun k hk => h (k + 1) (by omega))
    obtain ⟨h1, h2⟩ := h 0 (by omega)
    have h3 : n * M ≤ 20 * 6 := Nat.mul_le_mul (by omega) hM
    have h4 : (n + 1) * M = n * M + M := Nat.succ_mul n M
    have e : (vq_sum (n + 1) g).toInt = (g 0).toInt + (vq_sum n (fun k => g (k + 1))).toInt := by
      show (g 0 + vq_sum n (fun k => g (k + 1))).toInt = _
      exact sm_add (by omega) (by omega)
    rw [e, h4]
    omega
theorem vq_sum13 {M : Nat} (hM : M ≤ 6) (g : Nat → Int32) (h : ∀ k, k < 13 → 0 ≤ (g k).toInt ∧ (g k).toInt ≤ (M : Int)) (hz : ∀ k, k < 6 ∨ k = 12 → g k = 0) : 0 ≤ (vq_sum 13 g).toInt ∧ (vq_sum 13 g).toInt ≤ ((6 * M : Nat) : Int) := by
  have e : vq_sum 13 g = vq_sum 6 (fun k => g (6 + k)) := by
    rw [show (13 : Nat) = 6 + (6 + 1) from rfl, vq_sum_split 6 (6 + 1) g, vq_sum_split 6 1 (fun k => g (6 + k)), vq_sum_z 6 g (fun k hk => hz k (Or.inl hk)), vq_sum_z 1 (fun k => g (6 + (6 + k))) (fun k hk => hz _ (Or.inr (by omega))), Int32.zero_add, Int32.add_zero]
  rw [e]
  exact vq_sum_le hM 6 _ (by decide) (fun k hk => h (6 + k) (by omega))
theorem vq_c6 {k : Nat} (hk : k < 13) : ((0 : Int32) - 6 + nI k).toInt = (k : Int) - 6 := by
  have e1 : ((0 : Int32) - 6).toInt = -6 := by decide
  have e2 := nI_toInt (show k < 2 ^ 31 by omega)
  rw [sm_add (by omega) (by omega), e1, e2]
  omega
theorem vq_is01 {f : Nat → Int32} {W H : Nat} {x y c : Int32} : 0 ≤ (vq_is f W H x y c).toInt ∧ (vq_is f W H x y c).toInt ≤ ((1 : Nat) : Int) := by
  have e0 : (0 : Int32).toInt = 0 := by decide
  have e1 : (1 : Int32).toInt = 1 := by decide
  unfold vq_is
  split
  · split
    · rw [e1]
      omega
    · rw [e0]
      omega
  · rw [e0]
    omega
theorem vq_isz {f : Nat → Int32} {W H : Nat} {x y c : Int32} (h : ¬ (0 ≤ x.toInt ∧ x.toInt < (W : Int) ∧ 0 ≤ y.toInt ∧ y.toInt < (H : Int))) : vq_is f W H x y c = 0 := if_neg h
theorem vq_fu6 : vq_fu 0 6 = 13 := by decide
theorem vq_ar36 {f : Nat → Int32} {W H : Nat} (hW : W ≤ 6) (hH : H ≤ 6) (c : Int32) : 0 ≤ (vq_ar f W H 0 0 6 c).toInt ∧ (vq_ar f W H 0 0 6 c).toInt ≤ 36 := by
  have hB0 : sm_B 1000 (0 : Int32) := by
    unfold sm_B
    decide
  have hB6 : sm_B 1000 (6 : Int32) := by
    unfold sm_B
    decide
  obtain ⟨i1, i2⟩ := vq_fu_le hB0 hB6 (by decide)
  have e : vq_ar f W H 0 0 6 c = 0 + vq_sum 13 (fun k => vq_sum 13 (fun l => vq_is f W H (0 - 6 + nI k) (0 - 6 + nI l) c)) := by
    unfold vq_ar
    rw [show (fun x s => vq_fold (fun y s => s + vq_is f W H x y c) (fun y => 0 + 6 < y) (vq_fu 0 6) (0 - 6) s) = fun x s => s + vq_sum (vq_fu 0 6) (fun k => vq_is f W H x (0 - 6 + nI k) c) from funext fun x => funext fun s => vq_fold_sum (fun y => vq_is f W H x y c) i2 _ _ _ i1]
    rw [vq_fold_sum (fun x => vq_sum (vq_fu 0 6) (fun k => vq_is f W H x (0 - 6 + nI k) c)) i2 _ _ _ i1, vq_fu6]
  rw [e, Int32.zero_add]
  have hin : ∀ x, 0 ≤ (vq_sum 13 (fun l => vq_is f W H x (0 - 6 + nI l) c)).toInt ∧ (vq_sum 13 (fun l => vq_is f W H x (0 - 6 + nI l) c)).toInt ≤ ((6 * 1 : Nat) : Int) := fun x => vq_sum13 (by decide) _ (fun k _ => vq_is01) (fun k hk => vq_isz (by rw [vq_c6 (show k < 13 by omega)]; omega))
  have h := vq_sum13 (M := 6) (by decide) (fun k => vq_sum 13 (fun l => vq_is f W H (0 - 6 + nI k) (0 - 6 + nI l) c)) (fun k _ => hin _) (fun k hk => vq_sum_z 13 _ (fun l _ => vq_isz (by rw [vq_c6 (show k < 13 by omega)]; omega)))
  omega
theorem vq_min36 {n : Int32} (h : n.toInt ≤ 36) : sm_min 99 n = sm_min 36 n := by
  have e1 : (99 : Int32).toInt = 99 := by decide
  have e2 : (36 : Int32).toInt = 36 := by decide
  have q1 : sm_min 99 n = n := vq_min1 (Int32.lt_iff_toInt_lt.mpr (by omega))
  rw [q1]
  by_cases q : n < 36
  · rw [vq_min1 q]
  · rw [vq_min0 q]
    have q2 : ¬ n.toInt < (36 : Int32).toInt := fun z => q (Int32.lt_iff_toInt_lt.mpr z)
    exact Int32.toInt_inj.mp (by omega)
theorem vq_fair0 {f : Nat → Int32} {W H N : Nat} (hW : W ≤ 6) (hH : H ≤ 6) (hN : 0 < N) : vq_fn (fun ii s => vq_mm (vq_ar f W H 0 0 6 (nI ii)) s) N 0 (0, 99) = vq_fn (fun ii s => vq_mm (vq_ar f W H 0 0 6 (nI ii)) s) N 0 (0, 36) := by
  obtain ⟨M, rfl⟩ : ∃ M, N = M + 1 := ⟨N - 1, by omega⟩
  show vq_fn _ M (0 + 1) (vq_mm (vq_ar f W H 0 0 6 (nI 0)) (0, 99)) = vq_fn _ M (0 + 1) (vq_mm (vq_ar f W H 0 0 6 (nI 0)) (0, 36))
  rw [show vq_mm (vq_ar f W H 0 0 6 (nI 0)) (0, 99) = vq_mm (vq_ar f W H 0 0 6 (nI 0)) (0, 36) from vq_mm1 rfl (vq_min36 (vq_ar36 hW hH _).2)]
noncomputable def vq_gl : Nat → Int32 → Int32 → Int32
  | 0, x, _ => x
  | n + 1, x, y => if y = 0 then x else vq_gl n y (x - x / y * y)
theorem vq_gl0 {n : Nat} {x y : Int32} (h : y = 0) : vq_gl n x y = x := by
  cases n with
  | zero => rfl
  | succ n => exact if_pos h
theorem vq_gl1 {n : Nat} {x y : Int32} (h : ¬ y = 0) : vq_gl (n + 1) x y = vq_gl n y (x - x / y * y) := if_neg h
theorem vq_gl_nz : ∀ (n : Nat) (x y : Int32), ¬ x = 0 → ¬ vq_gl n x y = 0 := by
  intro n
  induction n with
  | zero =>
    intro x y h
    exact h
  | succ n ih =>
    intro x y h
    by_cases q : y = 0
    · rw [vq_gl0 q]
      exact h
    · rw [vq_gl1 q]
      exact ih _ _ q
theorem vq_gl_nz2 {n : Nat} {x y : Int32} (h : ¬ y = 0) : ¬ vq_gl (n + 1) x y = 0 := by
  rw [vq_gl1 h]
  exact vq_gl_nz n _ _ h
set_option maxHeartbeats 4000000 in
set_option maxRecDepth 100000 in
theorem vr_col {m : mz_M} {A B : Nat} (hA : A < 6) (hB : B < 6) {a b : Int32} (ea : a = nI A) (eb : b = nI B) : mz_Me 3 mz_r186 [.ref 65, .int a, .int b] m (some (.int (m 66 ((70 + (6 * B)) + A)))) m := by
  subst ea
  subst eb
  refine ⟨?_, rfl⟩
  refine mz_go 9 (c' := (13, [some (.ref 65), some (.int (nI A)), some (.int (nI B))], [.int ((70 + (6 * (nI B))) + (nI A)), .ref 66], m)) rfl ?_
  refine mz_arr (c' := (14, [some (.ref 65), some (.int (nI A)), some (.int (nI B))], [.int (m 66 (((70 + (6 * (nI B))) + (nI A)).toNatClampNeg))], m)) rfl (show mz_in ((70 + (6 * (nI B))) + (nI A)) 650 = true from sm_inN (sm_addN (sm_addN rfl (sm_mulN rfl rfl)) rfl) (show ((70 + (6 * B)) + A) < 650 by omega) (by decide)) ?_
  rw [show ((70 + (6 * (nI B))) + (nI A) : Int32).toNatClampNeg = ((70 + (6 * B)) + A) from sm_clN (sm_addN (sm_addN rfl (sm_mulN rfl rfl)) rfl) (show ((70 + (6 * B)) + A) < 2 ^ 31 by omega)]
  exact mz_ret rfl
set_option maxHeartbeats 4000000 in
set_option maxRecDepth 100000 in
theorem vc_aroi {m : mz_M} {WW HH : Nat} (hWW : WW ≤ 6) (hHH : HH ≤ 6) (h202 : m 20 2 = nI WW) (h203 : m 20 3 = nI HH) {i j d : Int32} (hBi : sm_B 1000 i) (hBj : sm_B 1000 j) (hBd : sm_B 1000 d) (c : Int32) (x6 : Int32) {po : Int32 → Prop} {AA : Int32} (HX : ∀ (x7 : Int32) (x5 : Int32) (hv : x5 = AA), ∃ v, mz_Ex 14 mz_k10 (62, [some (.ref 20), some (.int i), some (.int j), some (.int d), some (.int c), some (.int x5), some (.int x6), some (.int x7)], [], m) (some (.int v), m) ∧ po v) : ∀ fu : Nat, ∀ x7 : Int32, (i + d).toInt - x7.toInt < (fu : Int) → ∀ (x5 : Int32), (hv : vq_fold (fun a s => s + vq_is (m 21) WW HH a x6 c) (fun a => i + d < a) fu x7 x5 = AA) → ∃ v, mz_Ex 14 mz_k10 (21, [some (.ref 20), some (.int i), some (.int j), some (.int d), some (.int c), some (.int x5), some (.int x6), some (.int x7)], [], m) (some (.int v), m) ∧ po v := by
  intro fu
  induction fu with
  | zero =>
    intro x7 hms x5 hv
    have hmz : (i + d) < x7 := sm_mz1 hms
    obtain ⟨vr, hr, hpo⟩ := HX x7 x5 ((vq_fold_out (g := (fun a s => s + vq_is (m 21) WW HH a x6 c)) (o := (fun a => i + d < a)) hmz).symm.trans hv)
    refine ⟨vr, ?_, hpo⟩
    refine mz_go 5 (c' := (if (i + d) < x7 then 62 else 29, [some (.ref 20), some (.int i), some (.int j), some (.int d), some (.int c), some (.int x5), some (.int x6), some (.int x7)], [], m)) rfl ?_
    refine mz_ifT hmz ?_
    exact hr
  | succ fu ih =>
    intro x7 hms x5 hv
    by_cases q1 : (i + d) < x7
    · obtain ⟨vr, hr, hpo⟩ := HX x7 x5 ((vq_fold_out (g := (fun a s => s + vq_is (m 21) WW HH a x6 c)) (o := (fun a => i + d < a)) q1).symm.trans hv)
      refine ⟨vr, ?_, hpo⟩
      refine mz_go 5 (c' := (if (i + d) < x7 then 62 else 29, [some (.ref 20), some (.int i), some (.int j), some (.int d), some (.int c), some (.int x5), some (.int x6), some (.int x7)], [], m)) rfl ?_
      refine mz_ifT q1 ?_
      exact hr
    · by_cases q2 : x7 < 0
      · obtain ⟨vr, hr, hpo⟩ := ih (x7 + 1) (sm_me1 (sm_hA hBi hBd) q1 hms) x5 ((vq_fold_in (g := (fun a s => s + vq_is (m 21) WW HH a x6 c)) (o := (fun a => i + d < a)) q1 (vq_s1 q2)).symm.trans hv)
        refine ⟨vr, ?_, hpo⟩
        refine mz_go 5 (c' := (if (i + d) < x7 then 62 else 29, [some (.ref 20), some (.int i), some (.int j), some (.int d), some (.int c), some (.int x5), some (.int x6), some (.int x7)], [], m)) rfl ?_
        refine mz_ifF q1 ?_
        refine mz_go 3 (c' := (34, [some (.ref 20), some (.int i), some (.int j), some (.int d), some (.int c), some (.int x5), some (.int x6), some (.int x7)], [.int x6, .int x7, .ref 20], m)) rfl ?_
        refine mz_do (R := mz_r4) (as := [.ref 20, .int x7, .int x6]) (rest := []) (r1 := some (.int 0)) (m1 := m) rfl ⟨?_, rfl⟩ ?_
        · refine mz_go 2 (c' := (if x7 < 0 then 40 else 4, [some (.ref 20), some (.int x7), some (.int x6)], [], m)) rfl ?_
          refine mz_ifT q2 ?_
          refine mz_go 1 (c' := (41, [some (.ref 20), some (.int x7), some (.int x6)], [.int 0], m)) rfl ?_
          exact mz_ret rfl
        refine mz_go 3 (c' := (21, [some (.ref 20), some (.int i), some (.int j), some (.int d), some (.int c), some (.int x5), some (.int x6), some (.int (x7 + 1))], [], m)) rfl ?_
        exact hr
      · obtain ⟨jx7, hjx7, rfl⟩ := nI_of q2
        by_cases q3 : WW ≤ jx7
        · obtain ⟨vr, hr, hpo⟩ := ih ((nI jx7) + 1) (sm_me1 (sm_hA hBi hBd) q1 hms) x5 ((vq_fold_in (g := (fun a s => s + vq_is (m 21) WW HH a x6 c)) (o := (fun a => i + d < a)) q1 (vq_s2 hjx7 (by omega))).symm.trans hv)
          refine ⟨vr, ?_, hpo⟩
          refine mz_go 5 (c' := (if (i + d) < (nI jx7) then 62 else 29, [some (.ref 20), some (.int i), some (.int j), some (.int d), some (.int c), some (.int x5), some (.int x6), some (.int (nI jx7))], [], m)) rfl ?_
          refine mz_ifF q1 ?_
          refine mz_go 3 (c' := (34, [some (.ref 20), some (.int i), some (.int j), some (.int d), some (.int c), some (.int x5), some (.int x6), some (.int (nI jx7))], [.int x6, .int (nI jx7), .ref 20], m)) rfl ?_
          refine mz_do (R := mz_r4) (as := [.ref 20, .int (nI jx7), .int x6]) (rest := []) (r1 := some (.int 0)) (m1 := m) rfl ⟨?_, rfl⟩ ?_
          · refine mz_go 2 (c' := (if (nI jx7) < 0 then 40 else 4, [some (.ref 20), some (.int (nI jx7)), some (.int x6)], [], m)) rfl ?_
            refine mz_ifF q2 ?_
            refine mz_go 3 (c' := (9, [some (.ref 20), some (.int (nI jx7)), some (.int x6)], [.int (m 20 2), .int (nI jx7)], m)) rfl ?_
            rw [h202]
            refine mz_go 1 (c' := (if (nI WW) ≤ (nI jx7) then 40 else 12, [some (.ref 20), some (.int (nI jx7)), some (.int x6)], [], m)) rfl ?_
            refine mz_ifT (show ((nI WW) ≤ (nI jx7)) from (sm_leN rfl rfl (show WW ≤ jx7 by omega) (show jx7 < 2 ^ 31 by omega))) ?_
            refine mz_go 1 (c' := (41, [some (.ref 20), some (.int (nI jx7)), some (.int x6)], [.int 0], m)) rfl ?_
            exact mz_ret rfl
          refine mz_go 3 (c' := (21, [some (.ref 20), some (.int i), some (.int j), some (.int d), some (.int c), some (.int x5), some (.int x6), some (.int ((nI jx7) + 1))], [], m)) rfl ?_
          exact hr
        · by_cases q4 : x6 < 0
          · obtain ⟨vr, hr, hpo⟩ := ih ((nI jx7) + 1) (sm_me1 (sm_hA hBi hBd) q1 hms) x5 ((vq_fold_in (g := (fun a s => s + vq_is (m 21) WW HH a x6 c)) (o := (fun a => i + d < a)) q1 (vq_s3 q4)).symm.trans hv)
            refine ⟨vr, ?_, hpo⟩
            refine mz_go 5 (c' := (if (i + d) < (nI jx7) then 62 else 29, [some (.ref 20), some (.int i), some (.int j), some (.int d), some (.int c), some (.int x5), some (.int x6), some (.int (nI jx7))], [], m)) rfl ?_
            refine mz_ifF q1 ?_
            refine mz_go 3 (c' := (34, [some (.ref 20), some (.int i), some (.int j), some (.int d), some (.int c), some (.int x5), some (.int x6), some (.int (nI jx7))], [.int x6, .int (nI jx7), .ref 20], m)) rfl ?_
            refine mz_do (R := mz_r4) (as := [.ref 20, .int (nI jx7), .int x6]) (rest := []) (r1 := some (.int 0)) (m1 := m) rfl ⟨?_, rfl⟩ ?_
            · refine mz_go 2 (c' := (if (nI jx7) < 0 then 40 else 4, [some (.ref 20), some (.int (nI jx7)), some (.int x6)], [], m)) rfl ?_
              refine mz_ifF q2 ?_
              refine mz_go 3 (c' := (9, [some (.ref 20), some (.int (nI jx7)), some (.int x6)], [.int (m 20 2), .int (nI jx7)], m)) rfl ?_
              rw [h202]
              refine mz_go 1 (c' := (if (nI WW) ≤ (nI jx7) then 40 else 12, [some (.ref 20), some (.int (nI jx7)), some (.int x6)], [], m)) rfl ?_
              refine mz_ifF (show ¬ ((nI WW) ≤ (nI jx7)) from (sm_nleN rfl rfl (show jx7 < WW by omega) (show WW < 2 ^ 31 by omega))) ?_
              refine mz_go 3 (c' := (if 6 ≤ (nI jx7) then 40 else 18, [some (.ref 20), some (.int (nI jx7)), some (.int x6)], [], m)) rfl ?_
              refine mz_ifF (show ¬ (6 ≤ (nI jx7)) from (sm_nleN rfl rfl (show jx7 < 6 by omega) (show 6 < 2 ^ 31 by omega))) ?_
              refine mz_go 2 (c' := (if x6 < 0 then 40 else 22, [some (.ref 20), some (.int (nI jx7)), some (.int x6)], [], m)) rfl ?_
              refine mz_ifT q4 ?_
              refine mz_go 1 (c' := (41, [some (.ref 20), some (.int (nI jx7)), some (.int x6)], [.int 0], m)) rfl ?_
              exact mz_ret rfl
            refine mz_go 3 (c' := (21, [some (.ref 20), some (.int i), some (.int j), some (.int d), some (.int c), some (.int x5), some (.int x6), some (.int ((nI jx7) + 1))], [], m)) rfl ?_
            exact hr
          · obtain ⟨jx6, hjx6, rfl⟩ := nI_of q4
            by_cases q5 : HH ≤ jx6
            · obtain ⟨vr, hr, hpo⟩ := ih ((nI jx7) + 1) (sm_me1 (sm_hA hBi hBd) q1 hms) x5 ((vq_fold_in (g := (fun a s => s + vq_is (m 21) WW HH a (nI jx6) c)) (o := (fun a => i + d < a)) q1 (vq_s4 hjx6 (by omega))).symm.trans hv)
              refine ⟨vr, ?_, hpo⟩
              refine mz_go 5 (c' := (if (i + d) < (nI jx7) then 62 else 29, [some (.ref 20), some (.int i), some (.int j), some (.int d), some (.int c), some (.int x5), some (.int (nI jx6)), some (.int (nI jx7))], [], m)) rfl ?_
              refine mz_ifF q1 ?_
              refine mz_go 3 (c' := (34, [some (.ref 20), some (.int i), some (.int j), some (.int d), some (.int c), some (.int x5), some (.int (nI jx6)), some (.int (nI jx7))], [.int (nI jx6), .int (nI jx7), .ref 20], m)) rfl ?_
              refine mz_do (R := mz_r4) (as := [.ref 20, .int (nI jx7), .int (nI jx6)]) (rest := []) (r1 := some (.int 0)) (m1 := m) rfl ⟨?_, rfl⟩ ?_
              · refine mz_go 2 (c' := (if (nI jx7) < 0 then 40 else 4, [some (.ref 20), some (.int (nI jx7)), some (.int (nI jx6))], [], m)) rfl ?_
                refine mz_ifF q2 ?_
                refine mz_go 3 (c' := (9, [some (.ref 20), some (.int (nI jx7)), some (.int (nI jx6))], [.int (m 20 2), .int (nI jx7)], m)) rfl ?_
                rw [h202]
                refine mz_go 1 (c' := (if (nI WW) ≤ (nI jx7) then 40 else 12, [some (.ref 20), some (.int (nI jx7)), some (.int (nI jx6))], [], m)) rfl ?_
                refine mz_ifF (show ¬ ((nI WW) ≤ (nI jx7)) from (sm_nleN rfl rfl (show jx7 < WW by omega) (show WW < 2 ^ 31 by omega))) ?_
                refine mz_go 3 (c' := (if 6 ≤ (nI jx7) then 40 else 18, [some (.ref 20), some (.int (nI jx7)), some (.int (nI jx6))], [], m)) rfl ?_
                refine mz_ifF (show ¬ (6 ≤ (nI jx7)) from (sm_nleN rfl rfl (show jx7 < 6 by omega) (show 6 < 2 ^ 31 by omega))) ?_
                refine mz_go 2 (c' := (if (nI jx6) < 0 then 40 else 22, [some (.ref 20), some (.int (nI jx7)), some (.int (nI jx6))], [], m)) rfl ?_
                refine mz_ifF q4 ?_
                refine mz_go 3 (c' := (27, [some (.ref 20), some (.int (nI jx7)), some (.int (nI jx6))], [.int (m 20 3), .int (nI jx6)], m)) rfl ?_
                rw [h203]
                refine mz_go 1 (c' := (if (nI HH) ≤ (nI jx6) then 40 else 30, [some (.ref 20), some (.int (nI jx7)), some (.int (nI jx6))], [], m)) rfl ?_
                refine mz_ifT (show ((nI HH) ≤ (nI jx6)) from (sm_leN rfl rfl (show HH ≤ jx6 by omega) (show jx6 < 2 ^ 31 by omega))) ?_
                refine mz_go 1 (c' := (41, [some (.ref 20), some (.int (nI jx7)), some (.int (nI jx6))], [.int 0], m)) rfl ?_
                exact mz_ret rfl
              refine mz_go 3 (c' := (21, [some (.ref 20), some (.int i), some (.int j), some (.int d), some (.int c), some (.int x5), some (.int (nI jx6)), some (.int ((nI jx7) + 1))], [], m)) rfl ?_
              exact hr
            · by_cases q6 : (m 21 ((jx6 * 6) + jx7)) = c
              · obtain ⟨vr, hr, hpo⟩ := ih ((nI jx7) + 1) (sm_me1 (sm_hA hBi hBd) q1 hms) (x5 + 1) ((vq_fold_in (g := (fun a s => s + vq_is (m 21) WW HH a (nI jx6) c)) (o := (fun a => i + d < a)) q1 (vq_s5 (f := (m 21)) (by omega) (by omega) hWW hHH q6)).symm.trans hv)
                refine ⟨vr, ?_, hpo⟩
                refine mz_go 5 (c' := (if (i + d) < (nI jx7) then 62 else 29, [some (.ref 20), some (.int i), some (.int j), some (.int d), some (.int c), some (.int x5), some (.int (nI jx6)), some (.int (nI jx7))], [], m)) rfl ?_
                refine mz_ifF q1 ?_
                refine mz_go 3 (c' := (34, [some (.ref 20), some (.int i), some (.int j), some (.int d), some (.int c), some (.int x5), some (.int (nI jx6)), some (.int (nI jx7))], [.int (nI jx6), .int (nI jx7), .ref 20], m)) rfl ?_
                refine mz_do (R := mz_r4) (as := [.ref 20, .int (nI jx7), .int (nI jx6)]) (rest := []) (r1 := some (.int 1)) (m1 := m) rfl ⟨?_, rfl⟩ ?_
                · refine mz_go 2 (c' := (if (nI jx7) < 0 then 40 else 4, [some (.ref 20), some (.int (nI jx7)), some (.int (nI jx6))], [], m)) rfl ?_
                  refine mz_ifF q2 ?_
                  refine mz_go 3 (c' := (9, [some (.ref 20), some (.int (nI jx7)), some (.int (nI jx6))], [.int (m 20 2), .int (nI jx7)], m)) rfl ?_
                  rw [h202]
                  refine mz_go 1 (c' := (if (nI WW) ≤ (nI jx7) then 40 else 12, [some (.ref 20), some (.int (nI jx7)), some (.int (nI jx6))], [], m)) rfl ?_
                  refine mz_ifF (show ¬ ((nI WW) ≤ (nI jx7)) from (sm_nleN rfl rfl (show jx7 < WW by omega) (show WW < 2 ^ 31 by omega))) ?_
                  refine mz_go 3 (c' := (if 6 ≤ (nI jx7) then 40 else 18, [some (.ref 20), some (.int (nI jx7)), some (.int (nI jx6))], [], m)) rfl ?_
                  refine mz_ifF (show ¬ (6 ≤ (nI jx7)) from (sm_nleN rfl rfl (show jx7 < 6 by omega) (show 6 < 2 ^ 31 by omega))) ?_
                  refine mz_go 2 (c' := (if (nI jx6) < 0 then 40 else 22, [some (.ref 20), some (.int (nI jx7)), some (.int (nI jx6))], [], m)) rfl ?_
                  refine mz_ifF q4 ?_
                  refine mz_go 3 (c' := (27, [some (.ref 20), some (.int (nI jx7)), some (.int (nI jx6))], [.int (m 20 3), .int (nI jx6)], m)) rfl ?_
                  rw [h203]
                  refine mz_go 1 (c' := (if (nI HH) ≤ (nI jx6) then 40 else 30, [some (.ref 20), some (.int (nI jx7)), some (.int (nI jx6))], [], m)) rfl ?_
                  refine mz_ifF (show ¬ ((nI HH) ≤ (nI jx6)) from (sm_nleN rfl rfl (show jx6 < HH by omega) (show HH < 2 ^ 31 by omega))) ?_
                  refine mz_go 3 (c' := (if 6 ≤ (nI jx6) then 40 else 36, [some (.ref 20), some (.int (nI jx7)), some (.int (nI jx6))], [], m)) rfl ?_
                  refine mz_ifF (show ¬ (6 ≤ (nI jx6)) from (sm_nleN rfl rfl (show jx6 < 6 by omega) (show 6 < 2 ^ 31 by omega))) ?_
                  refine mz_go 2 (c' := (41, [some (.ref 20), some (.int (nI jx7)), some (.int (nI jx6))], [.int 1], m)) rfl ?_
                  exact mz_ret rfl
                refine mz_go 4 (c' := (45, [some (.ref 20), some (.int i), some (.int j), some (.int d), some (.int c), some (.int x5), some (.int (nI jx6)), some (.int (nI jx7))], [.int (nI jx6), .int (nI jx7), .ref 20], m)) rfl ?_
                refine mz_do (R := mz_r7) (as := [.ref 20, .int (nI jx7), .int (nI jx6)]) (rest := []) (r1 := some (.int (m 21 ((jx6 * 6) + jx7)))) (m1 := m) rfl ⟨?_, rfl⟩ ?_
                · refine mz_go 3 (c' := (3, [some (.ref 20), some (.int (nI jx7)), some (.int (nI jx6))], [.int (nI jx6), .int (nI jx7), .ref 20], m)) rfl ?_
                  refine mz_do (R := mz_r4) (as := [.ref 20, .int (nI jx7), .int (nI jx6)]) (rest := []) (r1 := some (.int 1)) (m1 := m) rfl ⟨?_, rfl⟩ ?_
                  · refine mz_go 2 (c' := (if (nI jx7) < 0 then 40 else 4, [some (.ref 20), some (.int (nI jx7)), some (.int (nI jx6))], [], m)) rfl ?_
                    refine mz_ifF q2 ?_
                    refine mz_go 3 (c' := (9, [some (.ref 20), some (.int (nI jx7)), some (.int (nI jx6))], [.int (m 20 2), .int (nI jx7)], m)) rfl ?_
                    rw [h202]
                    refine mz_go 1 (c' := (if (nI WW) ≤ (nI jx7) then 40 else 12, [some (.ref 20), some (.int (nI jx7)), some (.int (nI jx6))], [], m)) rfl ?_
                    refine mz_ifF (show ¬ ((nI WW) ≤ (nI jx7)) from (sm_nleN rfl rfl (show jx7 < WW by omega) (show WW < 2 ^ 31 by omega))) ?_
                    refine mz_go 3 (c' := (if 6 ≤ (nI jx7) then 40 else 18, [some (.ref 20), some (.int (nI jx7)), some (.int (nI jx6))], [], m)) rfl ?_
                    refine mz_ifF (show ¬ (6 ≤ (nI jx7)) from (sm_nleN rfl rfl (show jx7 < 6 by omega) (show 6 < 2 ^ 31 by omega))) ?_
                    refine mz_go 2 (c' := (if (nI jx6) < 0 then 40 else 22, [some (.ref 20), some (.int (nI jx7)), some (.int (nI jx6))], [], m)) rfl ?_
                    refine mz_ifF q4 ?_
                    refine mz_go 3 (c' := (27, [some (.ref 20), some (.int (nI jx7)), some (.int (nI jx6))], [.int (m 20 3), .int (nI jx6)], m)) rfl ?_
                    rw [h203]
                    refine mz_go 1 (c' := (if (nI HH) ≤ (nI jx6) then 40 else 30, [some (.ref 20), some (.int (nI jx7)), some (.int (nI jx6))], [], m)) rfl ?_
                    refine mz_ifF (show ¬ ((nI HH) ≤ (nI jx6)) from (sm_nleN rfl rfl (show jx6 < HH by omega) (show HH < 2 ^ 31 by omega))) ?_
                    refine mz_go 3 (c' := (if 6 ≤ (nI jx6) then 40 else 36, [some (.ref 20), some (.int (nI jx7)), some (.int (nI jx6))], [], m)) rfl ?_
                    refine mz_ifF (show ¬ (6 ≤ (nI jx6)) from (sm_nleN rfl rfl (show jx6 < 6 by omega) (show 6 < 2 ^ 31 by omega))) ?_
                    refine mz_go 2 (c' := (41, [some (.ref 20), some (.int (nI jx7)), some (.int (nI jx6))], [.int 1], m)) rfl ?_
                    exact mz_ret rfl
                  refine mz_go 8 (c' := (19, [some (.ref 20), some (.int (nI jx7)), some (.int (nI jx6))], [.int (((nI jx6) * 6) + (nI jx7)), .ref 21], m)) rfl ?_
                  refine mz_arr (c' := (20, [some (.ref 20), some (.int (nI jx7)), some (.int (nI jx6))], [.int (m 21 ((((nI jx6) * 6) + (nI jx7)).toNatClampNeg))], m)) rfl (show mz_in (((nI jx6) * 6) + (nI jx7)) 36 = true from sm_inN (sm_addN (sm_mulN rfl rfl) rfl) (show ((jx6 * 6) + jx7) < 36 by omega) (by decide)) ?_
                  rw [show (((nI jx6) * 6) + (nI jx7) : Int32).toNatClampNeg = ((jx6 * 6) + jx7) from sm_clN (sm_addN (sm_mulN rfl rfl) rfl) (show ((jx6 * 6) + jx7) < 2 ^ 31 by omega)]
                  refine mz_go 1 (c' := (25, [some (.ref 20), some (.int (nI jx7)), some (.int (nI jx6))], [.int (m 21 ((jx6 * 6) + jx7))], m)) rfl ?_
                  exact mz_ret rfl
                refine mz_go 2 (c' := (if (m 21 ((jx6 * 6) + jx7)) = c then 53 else 56, [some (.ref 20), some (.int i), some (.int j), some (.int d), some (.int c), some (.int x5), some (.int (nI jx6)), some (.int (nI jx7))], [], m)) rfl ?_
                refine mz_ifT q6 ?_
                refine mz_go 3 (c' := (21, [some (.ref 20), some (.int i), some (.int j), some (.int d), some (.int c), some (.int (x5 + 1)), some (.int (nI jx6)), some (.int ((nI jx7) + 1))], [], m)) rfl ?_
                exact hr
              · obtain ⟨vr, hr, hpo⟩ := ih ((nI jx7) + 1) (sm_me1 (sm_hA hBi hBd) q1 hms) x5 ((vq_fold_in (g := (fun a s => s + vq_is (m 21) WW HH a (nI jx6) c)) (o := (fun a => i + d < a)) q1 (vq_s6 (f := (m 21)) (by omega) (by omega) hWW hHH q6)).symm.trans hv)
                refine ⟨vr, ?_, hpo⟩
                refine mz_go 5 (c' := (if (i + d) < (nI jx7) then 62 else 29, [some (.ref 20), some (.int i), some (.int j), some (.int d), some (.int c), some (.int x5), some (.int (nI jx6)), some (.int (nI jx7))], [], m)) rfl ?_
                refine mz_ifF q1 ?_
                refine mz_go 3 (c' := (34, [some (.ref 20), some (.int i), some (.int j), some (.int d), some (.int c), some (.int x5), some (.int (nI jx6)), some (.int (nI jx7))], [.int (nI jx6), .int (nI jx7), .ref 20], m)) rfl ?_
                refine mz_do (R := mz_r4) (as := [.ref 20, .int (nI jx7), .int (nI jx6)]) (rest := []) (r1 := some (.int 1)) (m1 := m) rfl ⟨?_, rfl⟩ ?_
                · refine mz_go 2 (c' := (if (nI jx7) < 0 then 40 else 4, [some (.ref 20), some (.int (nI jx7)), some (.int (nI jx6))], [], m)) rfl ?_
                  refine mz_ifF q2 ?_
                  refine mz_go 3 (c' := (9, [some (.ref 20), some (.int (nI jx7)), some (.int (nI jx6))], [.int (m 20 2), .int (nI jx7)], m)) rfl ?_
                  rw [h202]
                  refine mz_go 1 (c' := (if (nI WW) ≤ (nI jx7) then 40 else 12, [some (.ref 20), some (.int (nI jx7)), some (.int (nI jx6))], [], m)) rfl ?_
                  refine mz_ifF (show ¬ ((nI WW) ≤ (nI jx7)) from (sm_nleN rfl rfl (show jx7 < WW by omega) (show WW < 2 ^ 31 by omega))) ?_
                  refine mz_go 3 (c' := (if 6 ≤ (nI jx7) then 40 else 18, [some (.ref 20), some (.int (nI jx7)), some (.int (nI jx6))], [], m)) rfl ?_
                  refine mz_ifF (show ¬ (6 ≤ (nI jx7)) from (sm_nleN rfl rfl (show jx7 < 6 by omega) (show 6 < 2 ^ 31 by omega))) ?_
                  refine mz_go 2 (c' := (if (nI jx6) < 0 then 40 else 22, [some (.ref 20), some (.int (nI jx7)), some (.int (nI jx6))], [], m)) rfl ?_
                  refine mz_ifF q4 ?_
                  refine mz_go 3 (c' := (27, [some (.ref 20), some (.int (nI jx7)), some (.int (nI jx6))], [.int (m 20 3), .int (nI jx6)], m)) rfl ?_
                  rw [h203]
                  refine mz_go 1 (c' := (if (nI HH) ≤ (nI jx6) then 40 else 30, [some (.ref 20), some (.int (nI jx7)), some (.int (nI jx6))], [], m)) rfl ?_
                  refine mz_ifF (show ¬ ((nI HH) ≤ (nI jx6)) from (sm_nleN rfl rfl (show jx6 < HH by omega) (show HH < 2 ^ 31 by omega))) ?_
                  refine mz_go 3 (c' := (if 6 ≤ (nI jx6) then 40 else 36, [some (.ref 20), some (.int (nI jx7)), some (.int (nI jx6))], [], m)) rfl ?_
                  refine mz_ifF (show ¬ (6 ≤ (nI jx6)) from (sm_nleN rfl rfl (show jx6 < 6 by omega) (show 6 < 2 ^ 31 by omega))) ?_
                  refine mz_go 2 (c' := (41, [some (.ref 20), some (.int (nI jx7)), some (.int (nI jx6))], [.int 1], m)) rfl ?_
                  exact mz_ret rfl
                refine mz_go 4 (c' := (45, [some (.ref 20), some (.int i), some (.int j), some (.int d), some (.int c), some (.int x5), some (.int (nI jx6)), some (.int (nI jx7))], [.int (nI jx6), .int (nI jx7), .ref 20], m)) rfl ?_
                refine mz_do (R := mz_r7) (as := [.ref 20, .int (nI jx7), .int (nI jx6)]) (rest := []) (r1 := some (.int (m 21 ((jx6 * 6) + jx7)))) (m1 := m) rfl ⟨?_, rfl⟩ ?_
                · refine mz_go 3 (c' := (3, [some (.ref 20), some (.int (nI jx7)), some (.int (nI jx6))], [.int (nI jx6), .int (nI jx7), .ref 20], m)) rfl ?_
                  refine mz_do (R := mz_r4) (as := [.ref 20, .int (nI jx7), .int (nI jx6)]) (rest := []) (r1 := some (.int 1)) (m1 := m) rfl ⟨?_, rfl⟩ ?_
                  · refine mz_go 2 (c' := (if (nI jx7) < 0 then 40 else 4, [some (.ref 20), some (.int (nI jx7)), some (.int (nI jx6))], [], m)) rfl ?_
                    refine mz_ifF q2 ?_
                    refine mz_go 3 (c' := (9, [some (.ref 20), some (.int (nI jx7)), some (.int (nI jx6))], [.int (m 20 2), .int (nI jx7)], m)) rfl ?_
                    rw [h202]
                    refine mz_go 1 (c' := (if (nI WW) ≤ (nI jx7) then 40 else 12, [some (.ref 20), some (.int (nI jx7)), some (.int (nI jx6))], [], m)) rfl ?_
                    refine mz_ifF (show ¬ ((nI WW) ≤ (nI jx7)) from (sm_nleN rfl rfl (show jx7 < WW by omega) (show WW < 2 ^ 31 by omega))) ?_
                    refine mz_go 3 (c' := (if 6 ≤ (nI jx7) then 40 else 18, [some (.ref 20), some (.int (nI jx7)), some (.int (nI jx6))], [], m)) rfl ?_
                    refine mz_ifF (show ¬ (6 ≤ (nI jx7)) from (sm_nleN rfl rfl (show jx7 < 6 by omega) (show 6 < 2 ^ 31 by omega))) ?_
                    refine mz_go 2 (c' := (if (nI jx6) < 0 then 40 else 22, [some (.ref 20), some (.int (nI jx7)), some (.int (nI jx6))], [], m)) rfl ?_
                    refine mz_ifF q4 ?_
                    refine mz_go 3 (c' := (27, [some (.ref 20), some (.int (nI jx7)), some (.int (nI jx6))], [.int (m 20 3), .int (nI jx6)], m)) rfl ?_
                    rw [h203]
                    refine mz_go 1 (c' := (if (nI HH) ≤ (nI jx6) then 40 else 30, [some (.ref 20), some (.int (nI jx7)), some (.int (nI jx6))], [], m)) rfl ?_
                    refine mz_ifF (show ¬ ((nI HH) ≤ (nI jx6)) from (sm_nleN rfl rfl (show jx6 < HH by omega) (show HH < 2 ^ 31 by omega))) ?_
                    refine mz_go 3 (c' := (if 6 ≤ (nI jx6) then 40 else 36, [some (.ref 20), some (.int (nI jx7)), some (.int (nI jx6))], [], m)) rfl ?_
                    refine mz_ifF (show ¬ (6 ≤ (nI jx6)) from (sm_nleN rfl rfl (show jx6 < 6 by omega) (show 6 < 2 ^ 31 by omega))) ?_
                    refine mz_go 2 (c' := (41, [some (.ref 20), some (.int (nI jx7)), some (.int (nI jx6))], [.int 1], m)) rfl ?_
                    exact mz_ret rfl
                  refine mz_go 8 (c' := (19, [some (.ref 20), some (.int (nI jx7)), some (.int (nI jx6))], [.int (((nI jx6) * 6) + (nI jx7)), .ref 21], m)) rfl ?_
                  refine mz_arr (c' := (20, [some (.ref 20), some (.int (nI jx7)), some (.int (nI jx6))], [.int (m 21 ((((nI jx6) * 6) + (nI jx7)).toNatClampNeg))], m)) rfl (show mz_in (((nI jx6) * 6) + (nI jx7)) 36 = true from sm_inN (sm_addN (sm_mulN rfl rfl) rfl) (show ((jx6 * 6) + jx7) < 36 by omega) (by decide)) ?_
                  rw [show (((nI jx6) * 6) + (nI jx7) : Int32).toNatClampNeg = ((jx6 * 6) + jx7) from sm_clN (sm_addN (sm_mulN rfl rfl) rfl) (show ((jx6 * 6) + jx7) < 2 ^ 31 by omega)]
                  refine mz_go 1 (c' := (25, [some (.ref 20), some (.int (nI jx7)), some (.int (nI jx6))], [.int (m 21 ((jx6 * 6) + jx7))], m)) rfl ?_
                  exact mz_ret rfl
                refine mz_go 2 (c' := (if (m 21 ((jx6 * 6) + jx7)) = c then 53 else 56, [some (.ref 20), some (.int i), some (.int j), some (.int d), some (.int c), some (.int x5), some (.int (nI jx6)), some (.int (nI jx7))], [], m)) rfl ?_
                refine mz_ifF q6 ?_
                refine mz_go 2 (c' := (21, [some (.ref 20), some (.int i), some (.int j), some (.int d), some (.int c), some (.int x5), some (.int (nI jx6)), some (.int ((nI jx7) + 1))], [], m)) rfl ?_
                exact hr
set_option maxHeartbeats 4000000 in
set_option maxRecDepth 100000 in
theorem vc_aroj {m : mz_M} {WW HH : Nat} (hWW : WW ≤ 6) (hHH : HH ≤ 6) (h202 : m 20 2 = nI WW) (h203 : m 20 3 = nI HH) {i j d : Int32} (hBi : sm_B 1000 i) (hBj : sm_B 1000 j) (hBd : sm_B 1000 d) (c : Int32)  {po : Int32 → Prop} {AA : Int32} (HX : ∀ (x6 : Int32) (x5 : Int32) (x7 : Option Value) (hv : x5 = AA), ∃ v, mz_Ex 14 mz_k10 (68, [some (.ref 20), some (.int i), some (.int j), some (.int d), some (.int c), some (.int x5), some (.int x6), x7], [], m) (some (.int v), m) ∧ po v) : ∀ fu : Nat, ∀ x6 : Int32, (j + d).toInt - x6.toInt < (fu : Int) → ∀ (x5 : Int32) (x7 : Option Value), (hv : vq_fold (fun b s => vq_fold (fun a s => s + vq_is (m 21) WW HH a b c) (fun a => i + d < a) (vq_fu i d) (i - d) s) (fun b => j + d < b) fu x6 x5 = AA) → ∃ v, mz_Ex 14 mz_k10 (8, [some (.ref 20), some (.int i), some (.int j), some (.int d), some (.int c), some (.int x5), some (.int x6), x7], [], m) (some (.int v), m) ∧ po v := by
  intro fu
  induction fu with
  | zero =>
    intro x6 hms x5 x7 hv
    have hmz : (j + d) < x6 := sm_mz1 hms
    obtain ⟨vr, hr, hpo⟩ := HX x6 x5 x7 ((vq_fold_out (g := (fun b s => vq_fold (fun a s => s + vq_is (m 21) WW HH a b c) (fun a => i + d < a) (vq_fu i d) (i - d) s)) (o := (fun b => j + d < b)) hmz).symm.trans hv)
    refine ⟨vr, ?_, hpo⟩
    refine mz_go 5 (c' := (if (j + d) < x6 then 68 else 16, [some (.ref 20), some (.int i), some (.int j), some (.int d), some (.int c), some (.int x5), some (.int x6), x7], [], m)) rfl ?_
    refine mz_ifT hmz ?_
    exact hr
  | succ fu ih =>
    intro x6 hms x5 x7 hv
    by_cases q1 : (j + d) < x6
    · obtain ⟨vr, hr, hpo⟩ := HX x6 x5 x7 ((vq_fold_out (g := (fun b s => vq_fold (fun a s => s + vq_is (m 21) WW HH a b c) (fun a => i + d < a) (vq_fu i d) (i - d) s)) (o := (fun b => j + d < b)) q1).symm.trans hv)
      refine ⟨vr, ?_, hpo⟩
      refine mz_go 5 (c' := (if (j + d) < x6 then 68 else 16, [some (.ref 20), some (.int i), some (.int j), some (.int d), some (.int c), some (.int x5), some (.int x6), x7], [], m)) rfl ?_
      refine mz_ifT q1 ?_
      exact hr
    · have HX1 : ∀ (x7_1 : Int32) (x5_1 : Int32) (hv_1 : x5_1 = vq_fold (fun a s => s + vq_is (m 21) WW HH a x6 c) (fun a => i + d < a) (((i + d : Int32).toInt - (i - d : Int32).toInt + 1).toNat) (i - d) x5), ∃ v, mz_Ex 14 mz_k10 (62, [some (.ref 20), some (.int i), some (.int j), some (.int d), some (.int c), some (.int x5_1), some (.int x6), some (.int x7_1)], [], m) (some (.int v), m) ∧ po v := by
        intro x7_1 x5_1 hv_1
        obtain ⟨vr, hr, hpo⟩ := ih (x6 + 1) (sm_me1 (sm_hA hBj hBd) q1 hms) x5_1 (some (.int x7_1)) ((vq_fold_in (g := (fun b s => vq_fold (fun a s => s + vq_is (m 21) WW HH a b c) (fun a => i + d < a) (vq_fu i d) (i - d) s)) (o := (fun b => j + d < b)) q1 hv_1.symm).symm.trans hv)
        refine ⟨vr, ?_, hpo⟩
        refine mz_go 2 (c' := (8, [some (.ref 20), some (.int i), some (.int j), some (.int d), some (.int c), some (.int x5_1), some (.int (x6 + 1)), some (.int x7_1)], [], m)) rfl ?_
        exact hr
      obtain ⟨vr, hr, hpo⟩ := vc_aroi hWW hHH h202 h203 hBi hBj hBd c x6 HX1 ((i + d : Int32).toInt - (i - d : Int32).toInt + 1).toNat (i - d) (by omega) x5 rfl
      refine ⟨vr, ?_, hpo⟩
      refine mz_go 5 (c' := (if (j + d) < x6 then 68 else 16, [some (.ref 20), some (.int i), some (.int j), some (.int d), some (.int c), some (.int x5), some (.int x6), x7], [], m)) rfl ?_
      refine mz_ifF q1 ?_
      refine mz_go 4 (c' := (21, [some (.ref 20), some (.int i), some (.int j), some (.int d), some (.int c), some (.int x5), some (.int x6), some (.int (i - d))], [], m)) rfl ?_
      exact hr
set_option maxHeartbeats 4000000 in
set_option maxRecDepth 100000 in
theorem vc_aro {m : mz_M} {WW HH : Nat} (hWW : WW ≤ 6) (hHH : HH ≤ 6) (h202 : m 20 2 = nI WW) (h203 : m 20 3 = nI HH) {i j d : Int32} (hBi : sm_B 1000 i) (hBj : sm_B 1000 j) (hBd : sm_B 1000 d) (c : Int32) : ∃ v, mz_Me 14 mz_r10 [.ref 20, .int i, .int j, .int d, .int c] m (some (.int v)) m ∧ (v = vq_ac (m 21) WW HH i j d c) := by
  have HX2 : ∀ (x6_2 : Int32) (x5_2 : Int32) (x7_2 : Option Value) (hv_2 : x5_2 = vq_fold (fun b s => vq_fold (fun a s => s + vq_is (m 21) WW HH a b c) (fun a => i + d < a) (vq_fu i d) (i - d) s) (fun b => j + d < b) (((j + d : Int32).toInt - (j - d : Int32).toInt + 1).toNat) (j - d) 0), ∃ v, mz_Ex 14 mz_k10 (68, [some (.ref 20), some (.int i), some (.int j), some (.int d), some (.int c), some (.int x5_2), some (.int x6_2), x7_2], [], m) (some (.int v), m) ∧ (v = vq_ac (m 21) WW HH i j d c) := by
    intro x6_2 x5_2 x7_2 hv_2
    refine ⟨x5_2, ?_, hv_2⟩
    refine mz_go 1 (c' := (70, [some (.ref 20), some (.int i), some (.int j), some (.int d), some (.int c), some (.int x5_2), some (.int x6_2), x7_2], [.int x5_2], m)) rfl ?_
    exact mz_ret rfl
  obtain ⟨vr, hr, hpo⟩ := vc_aroj hWW hHH h202 h203 hBi hBj hBd c  HX2 ((j + d : Int32).toInt - (j - d : Int32).toInt + 1).toNat (j - d) (by omega) 0 none rfl
  refine ⟨vr, ⟨?_, rfl⟩, hpo⟩
  refine mz_go 6 (c' := (8, [some (.ref 20), some (.int i), some (.int j), some (.int d), some (.int c), some (.int 0), some (.int (j - d)), none], [], m)) rfl ?_
  exact hr
set_option maxHeartbeats 4000000 in
set_option maxRecDepth 100000 in
theorem vr_aroi {m : mz_M} {WW HH : Nat} (hWW : WW ≤ 6) (hHH : HH ≤ 6) (hWH : WW = 0 ↔ HH = 0) (h6660 : m 66 60 = nI WW) (h6661 : m 66 61 = nI HH) (c : Int32) {i j d : Int32} (hBi : sm_B 1000 i) (hBj : sm_B 1000 j) (hBd : sm_B 1000 d) (x6 : Int32) {po : Int32 → Prop} {AA : Int32} (HX : ∀ (x7 : Int32) (x5 : Int32) (hv : x5 = AA), ∃ v, mz_Ex 14 mz_k192 (72, [some (.ref 65), some (.int c), some (.int i), some (.int j), some (.int d), some (.int x5), some (.int x6), some (.int x7)], [], m) (some (.int v), m) ∧ po v) : ∀ fu : Nat, ∀ x7 : Int32, (j + d).toInt - x7.toInt < (fu : Int) → ∀ (x5 : Int32), (hv : vq_fold (fun b s => s + vq_is (fun i => m 66 (70 + i)) WW HH x6 b c) (fun b => j + d < b) fu x7 x5 = AA) → ∃ v, mz_Ex 14 mz_k192 (24, [some (.ref 65), some (.int c), some (.int i), some (.int j), some (.int d), some (.int x5), some (.int x6), some (.int x7)], [], m) (some (.int v), m) ∧ po v := by
  intro fu
  induction fu with
  | zero =>
    intro x7 hms x5 hv
    have hmz : (j + d) < x7 := sm_mz1 hms
    obtain ⟨vr, hr, hpo⟩ := HX x7 x5 ((vq_fold_out (g := (fun b s => s + vq_is (fun i => m 66 (70 + i)) WW HH x6 b c)) (o := (fun b => j + d < b)) hmz).symm.trans hv)
    refine ⟨vr, ?_, hpo⟩
    refine mz_go 5 (c' := (if (j + d) < x7 then 72 else 33, [some (.ref 65), some (.int c), some (.int i), some (.int j), some (.int d), some (.int x5), some (.int x6), some (.int x7)], [], m)) rfl ?_
    refine mz_ifT hmz ?_
    exact hr
  | succ fu ih =>
    intro x7 hms x5 hv
    by_cases q1 : (j + d) < x7
    · obtain ⟨vr, hr, hpo⟩ := HX x7 x5 ((vq_fold_out (g := (fun b s => s + vq_is (fun i => m 66 (70 + i)) WW HH x6 b c)) (o := (fun b => j + d < b)) q1).symm.trans hv)
      refine ⟨vr, ?_, hpo⟩
      refine mz_go 5 (c' := (if (j + d) < x7 then 72 else 33, [some (.ref 65), some (.int c), some (.int i), some (.int j), some (.int d), some (.int x5), some (.int x6), some (.int x7)], [], m)) rfl ?_
      refine mz_ifT q1 ?_
      exact hr
    · by_cases q2 : WW = 0
      · by_cases q3 : x6 < 0
        · obtain ⟨vr, hr, hpo⟩ := ih (x7 + 1) (sm_me1 (sm_hA hBj hBd) q1 hms) (x5 + 0) ((vq_fold_in (g := (fun b s => s + vq_is (fun i => m 66 (70 + i)) WW HH x6 b c)) (o := (fun b => j + d < b)) q1 ((vq_s0 q2).trans (Int32.add_zero _).symm)).symm.trans hv)
          refine ⟨vr, ?_, hpo⟩
          refine mz_go 5 (c' := (if (j + d) < x7 then 72 else 33, [some (.ref 65), some (.int c), some (.int i), some (.int j), some (.int d), some (.int x5), some (.int x6), some (.int x7)], [], m)) rfl ?_
          refine mz_ifF q1 ?_
          refine mz_go 4 (c' := (40, [some (.ref 65), some (.int c), some (.int i), some (.int j), some (.int d), some (.int x5), some (.int x6), some (.int x7)], [.int x7, .int x6, .ref 65, .int x5], m)) rfl ?_
          refine mz_do (R := mz_r187) (as := [.ref 65, .int x6, .int x7]) (rest := [.int x5]) (r1 := some (.int 0)) (m1 := m) rfl ⟨?_, rfl⟩ ?_
          · refine mz_go 3 (c' := (3, [some (.ref 65), some (.int x6), some (.int x7)], [.ref 65, .int 0, .int x6], m)) rfl ?_
            refine mz_do (R := mz_r183) (as := [.ref 65]) (rest := [.int 0, .int x6]) (r1 := some (.int (nI WW))) (m1 := m) rfl ⟨?_, rfl⟩ ?_
            · refine mz_go 4 (c' := (7, [some (.ref 65)], [.int (m 66 60)], m)) rfl ?_
              rw [h6660]
              exact mz_ret rfl
            refine mz_go 2 (c' := (8, [some (.ref 65), some (.int x6), some (.int x7)], [.int ((nI WW) - 1), .int 0, .int x6], m)) rfl ?_
            rw [show nI WW - 1 = -1 from by rw [show WW = 0 by omega]; decide]
            refine mz_do (R := mz_r128) (as := [.int x6, .int 0, .int (-1)]) (rest := []) (r1 := some (.int 0)) (m1 := m) rfl ((ct_inL (m := m) (v := x6) (a := 0) (b := (-1)) q3).deep (by decide)) ?_
            refine mz_go 2 (c' := (33, [some (.ref 65), some (.int x6), some (.int x7)], [.int 0], m)) rfl ?_
            exact mz_ret rfl
          refine mz_go 6 (c' := (24, [some (.ref 65), some (.int c), some (.int i), some (.int j), some (.int d), some (.int (x5 + 0)), some (.int x6), some (.int (x7 + 1))], [], m)) rfl ?_
          exact hr
        · obtain ⟨vr, hr, hpo⟩ := ih (x7 + 1) (sm_me1 (sm_hA hBj hBd) q1 hms) (x5 + 0) ((vq_fold_in (g := (fun b s => s + vq_is (fun i => m 66 (70 + i)) WW HH x6 b c)) (o := (fun b => j + d < b)) q1 ((vq_s0 q2).trans (Int32.add_zero _).symm)).symm.trans hv)
          refine ⟨vr, ?_, hpo⟩
          refine mz_go 5 (c' := (if (j + d) < x7 then 72 else 33, [some (.ref 65), some (.int c), some (.int i), some (.int j), some (.int d), some (.int x5), some (.int x6), some (.int x7)], [], m)) rfl ?_
          refine mz_ifF q1 ?_
          refine mz_go 4 (c' := (40, [some (.ref 65), some (.int c), some (.int i), some (.int j), some (.int d), some (.int x5), some (.int x6), some (.int x7)], [.int x7, .int x6, .ref 65, .int x5], m)) rfl ?_
          refine mz_do (R := mz_r187) (as := [.ref 65, .int x6, .int x7]) (rest := [.int x5]) (r1 := some (.int 0)) (m1 := m) rfl ⟨?_, rfl⟩ ?_
          · refine mz_go 3 (c' := (3, [some (.ref 65), some (.int x6), some (.int x7)], [.ref 65, .int 0, .int x6], m)) rfl ?_
            refine mz_do (R := mz_r183) (as := [.ref 65]) (rest := [.int 0, .int x6]) (r1 := some (.int (nI WW))) (m1 := m) rfl ⟨?_, rfl⟩ ?_
            · refine mz_go 4 (c' := (7, [some (.ref 65)], [.int (m 66 60)], m)) rfl ?_
              rw [h6660]
              exact mz_ret rfl
            refine mz_go 2 (c' := (8, [some (.ref 65), some (.int x6), some (.int x7)], [.int ((nI WW) - 1), .int 0, .int x6], m)) rfl ?_
            rw [show nI WW - 1 = -1 from by rw [show WW = 0 by omega]; decide]
            refine mz_do (R := mz_r128) (as := [.int x6, .int 0, .int (-1)]) (rest := []) (r1 := some (.int 0)) (m1 := m) rfl ((ct_inG (m := m) (v := x6) (a := 0) (b := (-1)) q3 (by have hl : (0 : Int) ≤ (x6).toInt := Int32.le_iff_toInt_le.mp (Int32.not_lt.mp q3); exact Int32.lt_iff_toInt_lt.mpr (show (-1 : Int) < (x6).toInt by omega))).deep (by decide)) ?_
            refine mz_go 2 (c' := (33, [some (.ref 65), some (.int x6), some (.int x7)], [.int 0], m)) rfl ?_
            exact mz_ret rfl
          refine mz_go 6 (c' := (24, [some (.ref 65), some (.int c), some (.int i), some (.int j), some (.int d), some (.int (x5 + 0)), some (.int x6), some (.int (x7 + 1))], [], m)) rfl ?_
          exact hr
      · by_cases q4 : x6 < 0
        · obtain ⟨vr, hr, hpo⟩ := ih (x7 + 1) (sm_me1 (sm_hA hBj hBd) q1 hms) (x5 + 0) ((vq_fold_in (g := (fun b s => s + vq_is (fun i => m 66 (70 + i)) WW HH x6 b c)) (o := (fun b => j + d < b)) q1 ((vq_s1 q4).trans (Int32.add_zero _).symm)).symm.trans hv)
          refine ⟨vr, ?_, hpo⟩
          refine mz_go 5 (c' := (if (j + d) < x7 then 72 else 33, [some (.ref 65), some (.int c), some (.int i), some (.int j), some (.int d), some (.int x5), some (.int x6), some (.int x7)], [], m)) rfl ?_
          refine mz_ifF q1 ?_
          refine mz_go 4 (c' := (40, [some (.ref 65), some (.int c), some (.int i), some (.int j), some (.int d), some (.int x5), some (.int x6), some (.int x7)], [.int x7, .int x6, .ref 65, .int x5], m)) rfl ?_
          refine mz_do (R := mz_r187) (as := [.ref 65, .int x6, .int x7]) (rest := [.int x5]) (r1 := some (.int 0)) (m1 := m) rfl ⟨?_, rfl⟩ ?_
          · refine mz_go 3 (c' := (3, [some (.ref 65), some (.int x6), some (.int x7)], [.ref 65, .int 0, .int x6], m)) rfl ?_
            refine mz_do (R := mz_r183) (as := [.ref 65]) (rest := [.int 0, .int x6]) (r1 := some (.int (nI WW))) (m1 := m) rfl ⟨?_, rfl⟩ ?_
            · refine mz_go 4 (c' := (7, [some (.ref 65)], [.int (m 66 60)], m)) rfl ?_
              rw [h6660]
              exact mz_ret rfl
            refine mz_go 2 (c' := (8, [some (.ref 65), some (.int x6), some (.int x7)], [.int ((nI WW) - 1), .int 0, .int x6], m)) rfl ?_
            refine mz_do (R := mz_r128) (as := [.int x6, .int 0, .int ((nI WW) - 1)]) (rest := []) (r1 := some (.int 0)) (m1 := m) rfl ((ct_inL (m := m) (v := x6) (a := 0) (b := (nI WW) - 1) q4).deep (by decide)) ?_
            refine mz_go 2 (c' := (33, [some (.ref 65), some (.int x6), some (.int x7)], [.int 0], m)) rfl ?_
            exact mz_ret rfl
          refine mz_go 6 (c' := (24, [some (.ref 65), some (.int c), some (.int i), some (.int j), some (.int d), some (.int (x5 + 0)), some (.int x6), some (.int (x7 + 1))], [], m)) rfl ?_
          exact hr
        · obtain ⟨jx6, hjx6, rfl⟩ := nI_of q4
          by_cases q5 : (WW - 1) < jx6
          · obtain ⟨vr, hr, hpo⟩ := ih (x7 + 1) (sm_me1 (sm_hA hBj hBd) q1 hms) (x5 + 0) ((vq_fold_in (g := (fun b s => s + vq_is (fun i => m 66 (70 + i)) WW HH (nI jx6) b c)) (o := (fun b => j + d < b)) q1 ((vq_s2 hjx6 (by omega)).trans (Int32.add_zero _).symm)).symm.trans hv)
            refine ⟨vr, ?_, hpo⟩
            refine mz_go 5 (c' := (if (j + d) < x7 then 72 else 33, [some (.ref 65), some (.int c), some (.int i), some (.int j), some (.int d), some (.int x5), some (.int (nI jx6)), some (.int x7)], [], m)) rfl ?_
            refine mz_ifF q1 ?_
            refine mz_go 4 (c' := (40, [some (.ref 65), some (.int c), some (.int i), some (.int j), some (.int d), some (.int x5), some (.int (nI jx6)), some (.int x7)], [.int x7, .int (nI jx6), .ref 65, .int x5], m)) rfl ?_
            refine mz_do (R := mz_r187) (as := [.ref 65, .int (nI jx6), .int x7]) (rest := [.int x5]) (r1 := some (.int 0)) (m1 := m) rfl ⟨?_, rfl⟩ ?_
            · refine mz_go 3 (c' := (3, [some (.ref 65), some (.int (nI jx6)), some (.int x7)], [.ref 65, .int 0, .int (nI jx6)], m)) rfl ?_
              refine mz_do (R := mz_r183) (as := [.ref 65]) (rest := [.int 0, .int (nI jx6)]) (r1 := some (.int (nI WW))) (m1 := m) rfl ⟨?_, rfl⟩ ?_
              · refine mz_go 4 (c' := (7, [some (.ref 65)], [.int (m 66 60)], m)) rfl ?_
                rw [h6660]
                exact mz_ret rfl
              refine mz_go 2 (c' := (8, [some (.ref 65), some (.int (nI jx6)), some (.int x7)], [.int ((nI WW) - 1), .int 0, .int (nI jx6)], m)) rfl ?_
              refine mz_do (R := mz_r128) (as := [.int (nI jx6), .int 0, .int ((nI WW) - 1)]) (rest := []) (r1 := some (.int 0)) (m1 := m) rfl ((ct_inG (m := m) (v := nI jx6) (a := 0) (b := (nI WW) - 1) q4 (show (((nI WW) - 1) < (nI jx6)) from (sm_ltN (sm_subN (a := WW) (b := 1) rfl rfl (by omega)) rfl (show (WW - 1) < jx6 by omega) (show jx6 < 2 ^ 31 by omega)))).deep (by decide)) ?_
              refine mz_go 2 (c' := (33, [some (.ref 65), some (.int (nI jx6)), some (.int x7)], [.int 0], m)) rfl ?_
              exact mz_ret rfl
            refine mz_go 6 (c' := (24, [some (.ref 65), some (.int c), some (.int i), some (.int j), some (.int d), some (.int (x5 + 0)), some (.int (nI jx6)), some (.int (x7 + 1))], [], m)) rfl ?_
            exact hr
          · by_cases q6 : x7 < 0
            · obtain ⟨vr, hr, hpo⟩ := ih (x7 + 1) (sm_me1 (sm_hA hBj hBd) q1 hms) (x5 + 0) ((vq_fold_in (g := (fun b s => s + vq_is (fun i => m 66 (70 + i)) WW HH (nI jx6) b c)) (o := (fun b => j + d < b)) q1 ((vq_s3 q6).trans (Int32.add_zero _).symm)).symm.trans hv)
              refine ⟨vr, ?_, hpo⟩
              refine mz_go 5 (c' := (if (j + d) < x7 then 72 else 33, [some (.ref 65), some (.int c), some (.int i), some (.int j), some (.int d), some (.int x5), some (.int (nI jx6)), some (.int x7)], [], m)) rfl ?_
              refine mz_ifF q1 ?_
              refine mz_go 4 (c' := (40, [some (.ref 65), some (.int c), some (.int i), some (.int j), some (.int d), some (.int x5), some (.int (nI jx6)), some (.int x7)], [.int x7, .int (nI jx6), .ref 65, .int x5], m)) rfl ?_
              refine mz_do (R := mz_r187) (as := [.ref 65, .int (nI jx6), .int x7]) (rest := [.int x5]) (r1 := some (.int 0)) (m1 := m) rfl ⟨?_, rfl⟩ ?_
              · refine mz_go 3 (c' := (3, [some (.ref 65), some (.int (nI jx6)), some (.int x7)], [.ref 65, .int 0, .int (nI jx6)], m)) rfl ?_
                refine mz_do (R := mz_r183) (as := [.ref 65]) (rest := [.int 0, .int (nI jx6)]) (r1 := some (.int (nI WW))) (m1 := m) rfl ⟨?_, rfl⟩ ?_
                · refine mz_go 4 (c' := (7, [some (.ref 65)], [.int (m 66 60)], m)) rfl ?_
                  rw [h6660]
                  exact mz_ret rfl
                refine mz_go 2 (c' := (8, [some (.ref 65), some (.int (nI jx6)), some (.int x7)], [.int ((nI WW) - 1), .int 0, .int (nI jx6)], m)) rfl ?_
                refine mz_do (R := mz_r128) (as := [.int (nI jx6), .int 0, .int ((nI WW) - 1)]) (rest := []) (r1 := some (.int 1)) (m1 := m) rfl ((ct_in1 (m := m) (v := nI jx6) (a := 0) (b := (nI WW) - 1) q4 (show ¬ (((nI WW) - 1) < (nI jx6)) from (sm_nltN (sm_subN (a := WW) (b := 1) rfl rfl (by omega)) rfl (show jx6 ≤ (WW - 1) by omega) (show (WW - 1) < 2 ^ 31 by omega)))).deep (by decide)) ?_
                refine mz_go 4 (c' := (17, [some (.ref 65), some (.int (nI jx6)), some (.int x7)], [.ref 65, .int 0, .int x7], m)) rfl ?_
                refine mz_do (R := mz_r184) (as := [.ref 65]) (rest := [.int 0, .int x7]) (r1 := some (.int (nI HH))) (m1 := m) rfl ⟨?_, rfl⟩ ?_
                · refine mz_go 4 (c' := (7, [some (.ref 65)], [.int (m 66 61)], m)) rfl ?_
                  rw [h6661]
                  exact mz_ret rfl
                refine mz_go 2 (c' := (22, [some (.ref 65), some (.int (nI jx6)), some (.int x7)], [.int ((nI HH) - 1), .int 0, .int x7], m)) rfl ?_
                refine mz_do (R := mz_r128) (as := [.int x7, .int 0, .int ((nI HH) - 1)]) (rest := []) (r1 := some (.int 0)) (m1 := m) rfl ((ct_inL (m := m) (v := x7) (a := 0) (b := (nI HH) - 1) q6).deep (by decide)) ?_
                refine mz_go 2 (c' := (33, [some (.ref 65), some (.int (nI jx6)), some (.int x7)], [.int 0], m)) rfl ?_
                exact mz_ret rfl
              refine mz_go 6 (c' := (24, [some (.ref 65), some (.int c), some (.int i), some (.int j), some (.int d), some (.int (x5 + 0)), some (.int (nI jx6)), some (.int (x7 + 1))], [], m)) rfl ?_
              exact hr
            · obtain ⟨jx7, hjx7, rfl⟩ := nI_of q6
              by_cases q7 : (HH - 1) < jx7
              · obtain ⟨vr, hr, hpo⟩ := ih ((nI jx7) + 1) (sm_me1 (sm_hA hBj hBd) q1 hms) (x5 + 0) ((vq_fold_in (g := (fun b s => s + vq_is (fun i => m 66 (70 + i)) WW HH (nI jx6) b c)) (o := (fun b => j + d < b)) q1 ((vq_s4 hjx7 (by omega)).trans (Int32.add_zero _).symm)).symm.trans hv)
                refine ⟨vr, ?_, hpo⟩
                refine mz_go 5 (c' := (if (j + d) < (nI jx7) then 72 else 33, [some (.ref 65), some (.int c), some (.int i), some (.int j), some (.int d), some (.int x5), some (.int (nI jx6)), some (.int (nI jx7))], [], m)) rfl ?_
                refine mz_ifF q1 ?_
                refine mz_go 4 (c' := (40, [some (.ref 65), some (.int c), some (.int i), some (.int j), some (.int d), some (.int x5), some (.int (nI jx6)), some (.int (nI jx7))], [.int (nI jx7), .int (nI jx6), .ref 65, .int x5], m)) rfl ?_
                refine mz_do (R := mz_r187) (as := [.ref 65, .int (nI jx6), .int (nI jx7)]) (rest := [.int x5]) (r1 := some (.int 0)) (m1 := m) rfl ⟨?_, rfl⟩ ?_
                · refine mz_go 3 (c' := (3, [some (.ref 65), some (.int (nI jx6)), some (.int (nI jx7))], [.ref 65, .int 0, .int (nI jx6)], m)) rfl ?_
                  refine mz_do (R := mz_r183) (as := [.ref 65]) (rest := [.int 0, .int (nI jx6)]) (r1 := some (.int (nI WW))) (m1 := m) rfl ⟨?_, rfl⟩ ?_
                  · refine mz_go 4 (c' := (7, [some (.ref 65)], [.int (m 66 60)], m)) rfl ?_
                    rw [h6660]
                    exact mz_ret rfl
                  refine mz_go 2 (c' := (8, [some (.ref 65), some (.int (nI jx6)), some (.int (nI jx7))], [.int ((nI WW) - 1), .int 0, .int (nI jx6)], m)) rfl ?_
                  refine mz_do (R := mz_r128) (as := [.int (nI jx6), .int 0, .int ((nI WW) - 1)]) (rest := []) (r1 := some (.int 1)) (m1 := m) rfl ((ct_in1 (m := m) (v := nI jx6) (a := 0) (b := (nI WW) - 1) q4 (show ¬ (((nI WW) - 1) < (nI jx6)) from (sm_nltN (sm_subN (a := WW) (b := 1) rfl rfl (by omega)) rfl (show jx6 ≤ (WW - 1) by omega) (show (WW - 1) < 2 ^ 31 by omega)))).deep (by decide)) ?_
                  refine mz_go 4 (c' := (17, [some (.ref 65), some (.int (nI jx6)), some (.int (nI jx7))], [.ref 65, .int 0, .int (nI jx7)], m)) rfl ?_
                  refine mz_do (R := mz_r184) (as := [.ref 65]) (rest := [.int 0, .int (nI jx7)]) (r1 := some (.int (nI HH))) (m1 := m) rfl ⟨?_, rfl⟩ ?_
                  · refine mz_go 4 (c' := (7, [some (.ref 65)], [.int (m 66 61)], m)) rfl ?_
                    rw [h6661]
                    exact mz_ret rfl
                  refine mz_go 2 (c' := (22, [some (.ref 65), some (.int (nI jx6)), some (.int (nI jx7))], [.int ((nI HH) - 1), .int 0, .int (nI jx7)], m)) rfl ?_
                  refine mz_do (R := mz_r128) (as := [.int (nI jx7), .int 0, .int ((nI HH) - 1)]) (rest := []) (r1 := some (.int 0)) (m1 := m) rfl ((ct_inG (m := m) (v := nI jx7) (a := 0) (b := (nI HH) - 1) q6 (show (((nI HH) - 1) < (nI jx7)) from (sm_ltN (sm_subN (a := HH) (b := 1) rfl rfl (by omega)) rfl (show (HH - 1) < jx7 by omega) (show jx7 < 2 ^ 31 by omega)))).deep (by decide)) ?_
                  refine mz_go 2 (c' := (33, [some (.ref 65), some (.int (nI jx6)), some (.int (nI jx7))], [.int 0], m)) rfl ?_
                  exact mz_ret rfl
                refine mz_go 6 (c' := (24, [some (.ref 65), some (.int c), some (.int i), some (.int j), some (.int d), some (.int (x5 + 0)), some (.int (nI jx6)), some (.int ((nI jx7) + 1))], [], m)) rfl ?_
                exact hr
              · by_cases q8 : (m 66 ((70 + (6 * jx7)) + jx6)) = c
                · obtain ⟨vr, hr, hpo⟩ := ih ((nI jx7) + 1) (sm_me1 (sm_hA hBj hBd) q1 hms) (x5 + 1) ((vq_fold_in (g := (fun b s => s + vq_is (fun i => m 66 (70 + i)) WW HH (nI jx6) b c)) (o := (fun b => j + d < b)) q1 (vq_s5 (f := (fun i => m 66 (70 + i))) (by omega) (by omega) hWW hHH (show (fun i => m 66 (70 + i)) (jx7 * 6 + jx6) = c from (congrArg (m 66) (show 70 + (jx7 * 6 + jx6) = (70 + (6 * jx7)) + jx6 by omega)).trans q8))).symm.trans hv)
                  refine ⟨vr, ?_, hpo⟩
                  refine mz_go 5 (c' := (if (j + d) < (nI jx7) then 72 else 33, [some (.ref 65), some (.int c), some (.int i), some (.int j), some (.int d), some (.int x5), some (.int (nI jx6)), some (.int (nI jx7))], [], m)) rfl ?_
                  refine mz_ifF q1 ?_
                  refine mz_go 4 (c' := (40, [some (.ref 65), some (.int c), some (.int i), some (.int j), some (.int d), some (.int x5), some (.int (nI jx6)), some (.int (nI jx7))], [.int (nI jx7), .int (nI jx6), .ref 65, .int x5], m)) rfl ?_
                  refine mz_do (R := mz_r187) (as := [.ref 65, .int (nI jx6), .int (nI jx7)]) (rest := [.int x5]) (r1 := some (.int 1)) (m1 := m) rfl ⟨?_, rfl⟩ ?_
                  · refine mz_go 3 (c' := (3, [some (.ref 65), some (.int (nI jx6)), some (.int (nI jx7))], [.ref 65, .int 0, .int (nI jx6)], m)) rfl ?_
                    refine mz_do (R := mz_r183) (as := [.ref 65]) (rest := [.int 0, .int (nI jx6)]) (r1 := some (.int (nI WW))) (m1 := m) rfl ⟨?_, rfl⟩ ?_
                    · refine mz_go 4 (c' := (7, [some (.ref 65)], [.int (m 66 60)], m)) rfl ?_
                      rw [h6660]
                      exact mz_ret rfl
                    refine mz_go 2 (c' := (8, [some (.ref 65), some (.int (nI jx6)), some (.int (nI jx7))], [.int ((nI WW) - 1), .int 0, .int (nI jx6)], m)) rfl ?_
                    refine mz_do (R := mz_r128) (as := [.int (nI jx6), .int 0, .int ((nI WW) - 1)]) (rest := []) (r1 := some (.int 1)) (m1 := m) rfl ((ct_in1 (m := m) (v := nI jx6) (a := 0) (b := (nI WW) - 1) q4 (show ¬ (((nI WW) - 1) < (nI jx6)) from (sm_nltN (sm_subN (a := WW) (b := 1) rfl rfl (by omega)) rfl (show jx6 ≤ (WW - 1) by omega) (show (WW - 1) < 2 ^ 31 by omega)))).deep (by decide)) ?_
                    refine mz_go 4 (c' := (17, [some (.ref 65), some (.int (nI jx6)), some (.int (nI jx7))], [.ref 65, .int 0, .int (nI jx7)], m)) rfl ?_
                    refine mz_do (R := mz_r184) (as := [.ref 65]) (rest := [.int 0, .int (nI jx7)]) (r1 := some (.int (nI HH))) (m1 := m) rfl ⟨?_, rfl⟩ ?_
                    · refine mz_go 4 (c' := (7, [some (.ref 65)], [.int (m 66 61)], m)) rfl ?_
                      rw [h6661]
                      exact mz_ret rfl
                    refine mz_go 2 (c' := (22, [some (.ref 65), some (.int (nI jx6)), some (.int (nI jx7))], [.int ((nI HH) - 1), .int 0, .int (nI jx7)], m)) rfl ?_
                    refine mz_do (R := mz_r128) (as := [.int (nI jx7), .int 0, .int ((nI HH) - 1)]) (rest := []) (r1 := some (.int 1)) (m1 := m) rfl ((ct_in1 (m := m) (v := nI jx7) (a := 0) (b := (nI HH) - 1) q6 (show ¬ (((nI HH) - 1) < (nI jx7)) from (sm_nltN (sm_subN (a := HH) (b := 1) rfl rfl (by omega)) rfl (show jx7 ≤ (HH - 1) by omega) (show (HH - 1) < 2 ^ 31 by omega)))).deep (by decide)) ?_
                    refine mz_go 3 (c' := (33, [some (.ref 65), some (.int (nI jx6)), some (.int (nI jx7))], [.int 1], m)) rfl ?_
                    exact mz_ret rfl
                  refine mz_go 4 (c' := (51, [some (.ref 65), some (.int c), some (.int i), some (.int j), some (.int d), some (.int x5), some (.int (nI jx6)), some (.int (nI jx7))], [.int (nI jx7), .int (nI jx6), .ref 65, .int x5], m)) rfl ?_
                  refine mz_do (R := mz_r186) (as := [.ref 65, .int (nI jx6), .int (nI jx7)]) (rest := [.int x5]) (r1 := some (.int (m 66 ((70 + (6 * jx7)) + jx6)))) (m1 := m) rfl ((vr_col (m := m) (A := jx6) (B := jx7) (by omega) (by omega) (a := nI jx6) (b := nI jx7) rfl rfl).deep (by decide)) ?_
                  refine mz_go 2 (c' := (if (m 66 ((70 + (6 * jx7)) + jx6)) = c then 58 else 62, [some (.ref 65), some (.int c), some (.int i), some (.int j), some (.int d), some (.int x5), some (.int (nI jx6)), some (.int (nI jx7))], [.int x5], m)) rfl ?_
                  refine mz_ifT q8 ?_
                  refine mz_go 6 (c' := (24, [some (.ref 65), some (.int c), some (.int i), some (.int j), some (.int d), some (.int (x5 + 1)), some (.int (nI jx6)), some (.int ((nI jx7) + 1))], [], m)) rfl ?_
                  exact hr
                · obtain ⟨vr, hr, hpo⟩ := ih ((nI jx7) + 1) (sm_me1 (sm_hA hBj hBd) q1 hms) (x5 + 0) ((vq_fold_in (g := (fun b s => s + vq_is (fun i => m 66 (70 + i)) WW HH (nI jx6) b c)) (o := (fun b => j + d < b)) q1 ((vq_s6 (f := (fun i => m 66 (70 + i))) (by omega) (by omega) hWW hHH (fun z => q8 ((congrArg (m 66) (show 70 + (jx7 * 6 + jx6) = (70 + (6 * jx7)) + jx6 by omega)).symm.trans z))).trans (Int32.add_zero _).symm)).symm.trans hv)
                  refine ⟨vr, ?_, hpo⟩
                  refine mz_go 5 (c' := (if (j + d) < (nI jx7) then 72 else 33, [some (.ref 65), some (.int c), some (.int i), some (.int j), some (.int d), some (.int x5), some (.int (nI jx6)), some (.int (nI jx7))], [], m)) rfl ?_
                  refine mz_ifF q1 ?_
                  refine mz_go 4 (c' := (40, [some (.ref 65), some (.int c), some (.int i), some (.int j), some (.int d), some (.int x5), some (.int (nI jx6)), some (.int (nI jx7))], [.int (nI jx7), .int (nI jx6), .ref 65, .int x5], m)) rfl ?_
                  refine mz_do (R := mz_r187) (as := [.ref 65, .int (nI jx6), .int (nI jx7)]) (rest := [.int x5]) (r1 := some (.int 1)) (m1 := m) rfl ⟨?_, rfl⟩ ?_
                  · refine mz_go 3 (c' := (3, [some (.ref 65), some (.int (nI jx6)), some (.int (nI jx7))], [.ref 65, .int 0, .int (nI jx6)], m)) rfl ?_
                    refine mz_do (R := mz_r183) (as := [.ref 65]) (rest := [.int 0, .int (nI jx6)]) (r1 := some (.int (nI WW))) (m1 := m) rfl ⟨?_, rfl⟩ ?_
                    · refine mz_go 4 (c' := (7, [some (.ref 65)], [.int (m 66 60)], m)) rfl ?_
                      rw [h6660]
                      exact mz_ret rfl
                    refine mz_go 2 (c' := (8, [some (.ref 65), some (.int (nI jx6)), some (.int (nI jx7))], [.int ((nI WW) - 1), .int 0, .int (nI jx6)], m)) rfl ?_
                    refine mz_do (R := mz_r128) (as := [.int (nI jx6), .int 0, .int ((nI WW) - 1)]) (rest := []) (r1 := some (.int 1)) (m1 := m) rfl ((ct_in1 (m := m) (v := nI jx6) (a := 0) (b := (nI WW) - 1) q4 (show ¬ (((nI WW) - 1) < (nI jx6)) from (sm_nltN (sm_subN (a := WW) (b := 1) rfl rfl (by omega)) rfl (show jx6 ≤ (WW - 1) by omega) (show (WW - 1) < 2 ^ 31 by omega)))).deep (by decide)) ?_
                    refine mz_go 4 (c' := (17, [some (.ref 65), some (.int (nI jx6)), some (.int (nI jx7))], [.ref 65, .int 0, .int (nI jx7)], m)) rfl ?_
                    refine mz_do (R := mz_r184) (as := [.ref 65]) (rest := [.int 0, .int (nI jx7)]) (r1 := some (.int (nI HH))) (m1 := m) rfl ⟨?_, rfl⟩ ?_
                    · refine mz_go 4 (c' := (7, [some (.ref 65)], [.int (m 66 61)], m)) rfl ?_
                      rw [h6661]
                      exact mz_ret rfl
                    refine mz_go 2 (c' := (22, [some (.ref 65), some (.int (nI jx6)), some (.int (nI jx7))], [.int ((nI HH) - 1), .int 0, .int (nI jx7)], m)) rfl ?_
                    refine mz_do (R := mz_r128) (as := [.int (nI jx7), .int 0, .int ((nI HH) - 1)]) (rest := []) (r1 := some (.int 1)) (m1 := m) rfl ((ct_in1 (m := m) (v := nI jx7) (a := 0) (b := (nI HH) - 1) q6 (show ¬ (((nI HH) - 1) < (nI jx7)) from (sm_nltN (sm_subN (a := HH) (b := 1) rfl rfl (by omega)) rfl (show jx7 ≤ (HH - 1) by omega) (show (HH - 1) < 2 ^ 31 by omega)))).deep (by decide)) ?_
                    refine mz_go 3 (c' := (33, [some (.ref 65), some (.int (nI jx6)), some (.int (nI jx7))], [.int 1], m)) rfl ?_
                    exact mz_ret rfl
                  refine mz_go 4 (c' := (51, [some (.ref 65), some (.int c), some (.int i), some (.int j), some (.int d), some (.int x5), some (.int (nI jx6)), some (.int (nI jx7))], [.int (nI jx7), .int (nI jx6), .ref 65, .int x5], m)) rfl ?_
                  refine mz_do (R := mz_r186) (as := [.ref 65, .int (nI jx6), .int (nI jx7)]) (rest := [.int x5]) (r1 := some (.int (m 66 ((70 + (6 * jx7)) + jx6)))) (m1 := m) rfl ((vr_col (m := m) (A := jx6) (B := jx7) (by omega) (by omega) (a := nI jx6) (b := nI jx7) rfl rfl).deep (by decide)) ?_
                  refine mz_go 2 (c' := (if (m 66 ((70 + (6 * jx7)) + jx6)) = c then 58 else 62, [some (.ref 65), some (.int c), some (.int i), some (.int j), some (.int d), some (.int x5), some (.int (nI jx6)), some (.int (nI jx7))], [.int x5], m)) rfl ?_
                  refine mz_ifF q8 ?_
                  refine mz_go 5 (c' := (24, [some (.ref 65), some (.int c), some (.int i), some (.int j), some (.int d), some (.int (x5 + 0)), some (.int (nI jx6)), some (.int ((nI jx7) + 1))], [], m)) rfl ?_
                  exact hr
set_option maxHeartbeats 4000000 in
set_option maxRecDepth 100000 in
theorem vr_aroj {m : mz_M} {WW HH : Nat} (hWW : WW ≤ 6) (hHH : HH ≤ 6) (hWH : WW = 0 ↔ HH = 0) (h6660 : m 66 60 = nI WW) (h6661 : m 66 61 = nI HH) (c : Int32) {i j d : Int32} (hBi : sm_B 1000 i) (hBj : sm_B 1000 j) (hBd : sm_B 1000 d)  {po : Int32 → Prop} {AA : Int32} (HX : ∀ (x6 : Int32) (x5 : Int32) (x7 : Option Value) (hv : x5 = AA), ∃ v, mz_Ex 14 mz_k192 (78, [some (.ref 65), some (.int c), some (.int i), some (.int j), some (.int d), some (.int x5), some (.int x6), x7], [], m) (some (.int v), m) ∧ po v) : ∀ fu : Nat, ∀ x6 : Int32, (i + d).toInt - x6.toInt < (fu : Int) → ∀ (x5 : Int32) (x7 : Option Value), (hv : vq_fold (fun a s => vq_fold (fun b s => s + vq_is (fun i => m 66 (70 + i)) WW HH a b c) (fun b => j + d < b) (vq_fu j d) (j - d) s) (fun a => i + d < a) fu x6 x5 = AA) → ∃ v, mz_Ex 14 mz_k192 (9, [some (.ref 65), some (.int c), some (.int i), some (.int j), some (.int d), some (.int x5), some (.int x6), x7], [], m) (some (.int v), m) ∧ po v := by
  intro fu
  induction fu with
  | zero =>
    intro x6 hms x5 x7 hv
    have hmz : (i + d) < x6 := sm_mz1 hms
    obtain ⟨vr, hr, hpo⟩ := HX x6 x5 x7 ((vq_fold_out (g := (fun a s => vq_fold (fun b s => s + vq_is (fun i => m 66 (70 + i)) WW HH a b c) (fun b => j + d < b) (vq_fu j d) (j - d) s)) (o := (fun a => i + d < a)) hmz).symm.trans hv)
    refine ⟨vr, ?_, hpo⟩
    refine mz_go 5 (c' := (if (i + d) < x6 then 78 else 18, [some (.ref 65), some (.int c), some (.int i), some (.int j), some (.int d), some (.int x5), some (.int x6), x7], [], m)) rfl ?_
    refine mz_ifT hmz ?_
    exact hr
  | succ fu ih =>
    intro x6 hms x5 x7 hv
    by_cases q1 : (i + d) < x6
    · obtain ⟨vr, hr, hpo⟩ := HX x6 x5 x7 ((vq_fold_out (g := (fun a s => vq_fold (fun b s => s + vq_is (fun i => m 66 (70 + i)) WW HH a b c) (fun b => j + d < b) (vq_fu j d) (j - d) s)) (o := (fun a => i + d < a)) q1).symm.trans hv)
      refine ⟨vr, ?_, hpo⟩
      refine mz_go 5 (c' := (if (i + d) < x6 then 78 else 18, [some (.ref 65), some (.int c), some (.int i), some (.int j), some (.int d), some (.int x5), some (.int x6), x7], [], m)) rfl ?_
      refine mz_ifT q1 ?_
      exact hr
    · have HX1 : ∀ (x7_1 : Int32) (x5_1 : Int32) (hv_1 : x5_1 = vq_fold (fun b s => s + vq_is (fun i => m 66 (70 + i)) WW HH x6 b c) (fun b => j + d < b) (((j + d : Int32).toInt - (j - d : Int32).toInt + 1).toNat) (j - d) x5), ∃ v, mz_Ex 14 mz_k192 (72, [some (.ref 65), some (.int c), some (.int i), some (.int j), some (.int d), some (.int x5_1), some (.int x6), some (.int x7_1)], [], m) (some (.int v), m) ∧ po v := by
        intro x7_1 x5_1 hv_1
        obtain ⟨vr, hr, hpo⟩ := ih (x6 + 1) (sm_me1 (sm_hA hBi hBd) q1 hms) x5_1 (some (.int x7_1)) ((vq_fold_in (g := (fun a s => vq_fold (fun b s => s + vq_is (fun i => m 66 (70 + i)) WW HH a b c) (fun b => j + d < b) (vq_fu j d) (j - d) s)) (o := (fun a => i + d < a)) q1 hv_1.symm).symm.trans hv)
        refine ⟨vr, ?_, hpo⟩
        refine mz_go 2 (c' := (9, [some (.ref 65), some (.int c), some (.int i), some (.int j), some (.int d), some (.int x5_1), some (.int (x6 + 1)), some (.int x7_1)], [], m)) rfl ?_
        exact hr
      obtain ⟨vr, hr, hpo⟩ := vr_aroi hWW hHH hWH h6660 h6661 c hBi hBj hBd x6 HX1 ((j + d : Int32).toInt - (j - d : Int32).toInt + 1).toNat (j - d) (by omega) x5 rfl
      refine ⟨vr, ?_, hpo⟩
      refine mz_go 5 (c' := (if (i + d) < x6 then 78 else 18, [some (.ref 65), some (.int c), some (.int i), some (.int j), some (.int d), some (.int x5), some (.int x6), x7], [], m)) rfl ?_
      refine mz_ifF q1 ?_
      refine mz_go 4 (c' := (24, [some (.ref 65), some (.int c), some (.int i), some (.int j), some (.int d), some (.int x5), some (.int x6), some (.int (j - d))], [], m)) rfl ?_
      exact hr
set_option maxHeartbeats 4000000 in
set_option maxRecDepth 100000 in
theorem vr_aro {m : mz_M} {WW HH : Nat} (hWW : WW ≤ 6) (hHH : HH ≤ 6) (hWH : WW = 0 ↔ HH = 0) (h6660 : m 66 60 = nI WW) (h6661 : m 66 61 = nI HH) (c : Int32) {i j d : Int32} (hBi : sm_B 1000 i) (hBj : sm_B 1000 j) (hBd : sm_B 1000 d) : ∃ v, mz_Me 14 mz_r192 [.ref 65, .int c, .int i, .int j, .int d] m (some (.int v)) m ∧ (v = vq_ar (fun i => m 66 (70 + i)) WW HH i j d c) := by
  have HX2 : ∀ (x6_2 : Int32) (x5_2 : Int32) (x7_2 : Option Value) (hv_2 : x5_2 = vq_fold (fun a s => vq_fold (fun b s => s + vq_is (fun i => m 66 (70 + i)) WW HH a b c) (fun b => j + d < b) (vq_fu j d) (j - d) s) (fun a => i + d < a) (((i + d : Int32).toInt - (i - d : Int32).toInt + 1).toNat) (i - d) 0), ∃ v, mz_Ex 14 mz_k192 (78, [some (.ref 65), some (.int c), some (.int i), some (.int j), some (.int d), some (.int x5_2), some (.int x6_2), x7_2], [], m) (some (.int v), m) ∧ (v = vq_ar (fun i => m 66 (70 + i)) WW HH i j d c) := by
    intro x6_2 x5_2 x7_2 hv_2
    refine ⟨x5_2, ?_, hv_2⟩
    refine mz_go 1 (c' := (80, [some (.ref 65), some (.int c), some (.int i), some (.int j), some (.int d), some (.int x5_2), some (.int x6_2), x7_2], [.int x5_2], m)) rfl ?_
    exact mz_ret rfl
  obtain ⟨vr, hr, hpo⟩ := vr_aroj hWW hHH hWH h6660 h6661 c hBi hBj hBd  HX2 ((i + d : Int32).toInt - (i - d : Int32).toInt + 1).toNat (i - d) (by omega) 0 none rfl
  refine ⟨vr, ⟨?_, rfl⟩, hpo⟩
  refine mz_go 6 (c' := (9, [some (.ref 65), some (.int c), some (.int i), some (.int j), some (.int d), some (.int 0), some (.int (i - d)), none], [], m)) rfl ?_
  exact hr
set_option maxHeartbeats 4000000 in
set_option maxRecDepth 100000 in
theorem ve_caro {m : mz_M} {WW HH : Nat} (hWW : WW ≤ 6) (hHH : HH ≤ 6) (h202 : m 20 2 = nI WW) (h203 : m 20 3 = nI HH) {i j d : Int32} (hBi : sm_B 1000 i) (hBj : sm_B 1000 j) (hBd : sm_B 1000 d) (h0 : 0 ≤ d.toInt) (c : Int32) : mz_Me 14 mz_r10 [.ref 20, .int i, .int j, .int d, .int c] m (some (.int (vq_ar (m 21) WW HH i j d c))) m := by
  obtain ⟨v, E, e⟩ := vc_aro hWW hHH h202 h203 hBi hBj hBd c
  rw [e, vq_ac_ar hBi hBj hBd h0] at E
  exact E
set_option maxHeartbeats 4000000 in
set_option maxRecDepth 100000 in
theorem ve_raro {w : mz_M} {m : mz_M} {WW HH : Nat} (hWW : WW ≤ 6) (hHH : HH ≤ 6) (hWH : WW = 0 ↔ HH = 0) (h6660 : m 66 60 = nI WW) (h6661 : m 66 61 = nI HH) (c : Int32) {i j d : Int32} (hBi : sm_B 1000 i) (hBj : sm_B 1000 j) (hBd : sm_B 1000 d) (h : ∀ i, i < 36 → m 66 (70 + i) = w 21 i) : mz_Me 14 mz_r192 [.ref 65, .int c, .int i, .int j, .int d] m (some (.int (vq_ar (w 21) WW HH i j d c))) m := by
  obtain ⟨v, E, e⟩ := vr_aro hWW hHH hWH h6660 h6661 c hBi hBj hBd
  rw [e, vq_ar_eq (f := (fun i => m 66 (70 + i))) (g := w 21) hWW hHH h] at E
  exact E
set_option maxHeartbeats 4000000 in
set_option maxRecDepth 100000 in
theorem vc_gcl {m : mz_M} (a b : Int32) : ∀ j k : Nat, k + j = 100 → ∀ (x y : Int32) (o5 : Option Value), mz_Ex 5 mz_k124 (7, [some (.int a), some (.int b), some (.int x), some (.int y), some (.int (nI k)), o5], [], m) (some (.int (vq_gl j x y)), m) := by
  intro j
  induction j with
  | zero =>
    intro k hk x y o5
    rw [show k = 100 by omega]
    show mz_Ex 5 mz_k124 (7, [some (.int a), some (.int b), some (.int x), some (.int y), some (.int (nI 100)), o5], [], m) (some (.int x), m)
    refine mz_go 3 (c' := (if 100 ≤ (nI 100) then 34 else 14, [some (.int a), some (.int b), some (.int x), some (.int y), some (.int (nI 100)), o5], [], m)) rfl ?_
    refine mz_ifT (show (100 ≤ (nI 100)) from (sm_leN rfl rfl (show 100 ≤ 100 by omega) (show 100 < 2 ^ 31 by omega))) ?_
    refine mz_go 1 (c' := (35, [some (.int a), some (.int b), some (.int x), some (.int y), some (.int (nI 100)), o5], [.int x], m)) rfl ?_
    exact mz_ret rfl
  | succ j ih =>
    intro k hk x y o5
    by_cases q : y = 0
    · rw [vq_gl0 q]
      refine mz_go 3 (c' := (if 100 ≤ (nI k) then 34 else 14, [some (.int a), some (.int b), some (.int x), some (.int y), some (.int (nI k)), o5], [], m)) rfl ?_
      refine mz_ifF (show ¬ (100 ≤ (nI k)) from (sm_nleN rfl rfl (show k < 100 by omega) (show 100 < 2 ^ 31 by omega))) ?_
      refine mz_go 2 (c' := (if y = 0 then 34 else 18, [some (.int a), some (.int b), some (.int x), some (.int y), some (.int (nI k)), o5], [], m)) rfl ?_
      refine mz_ifT q ?_
      refine mz_go 1 (c' := (35, [some (.int a), some (.int b), some (.int x), some (.int y), some (.int (nI k)), o5], [.int x], m)) rfl ?_
      exact mz_ret rfl
    · rw [vq_gl1 q]
      have hr := ih (k + 1) (by omega) y (x - x / y * y) (some (.int (x - x / y * y)))
      rw [nI_succ k] at hr
      refine mz_go 3 (c' := (if 100 ≤ (nI k) then 34 else 14, [some (.int a), some (.int b), some (.int x), some (.int y), some (.int (nI k)), o5], [], m)) rfl ?_
      refine mz_ifF (show ¬ (100 ≤ (nI k)) from (sm_nleN rfl rfl (show k < 100 by omega) (show 100 < 2 ^ 31 by omega))) ?_
      refine mz_go 2 (c' := (if y = 0 then 34 else 18, [some (.int a), some (.int b), some (.int x), some (.int y), some (.int (nI k)), o5], [], m)) rfl ?_
      refine mz_ifF q ?_
      refine mz_go 2 (c' := (20, [some (.int a), some (.int b), some (.int x), some (.int y), some (.int (nI k)), o5], [.int y, .int x], m)) rfl ?_
      refine mz_div (c' := (21, [some (.int a), some (.int b), some (.int x), some (.int y), some (.int (nI k)), o5], [.int (x - x / y * y)], m)) rfl q ?_
      refine mz_go 7 (c' := (7, [some (.int a), some (.int b), some (.int y), some (.int (x - x / y * y)), some (.int ((nI k) + 1)), some (.int (x - x / y * y))], [], m)) rfl ?_
      exact hr
set_option maxHeartbeats 4000000 in
set_option maxRecDepth 100000 in
theorem vc_gcd {m : mz_M} (a b : Int32) : mz_Me 5 mz_r124 [.int a, .int b] m (some (.int (vq_gl 100 a b))) m := by
  refine ⟨?_, rfl⟩
  have hr := vc_gcl (m := m) a b 100 0 rfl a b none
  refine mz_go 6 (c' := (7, [some (.int a), some (.int b), some (.int a), some (.int b), some (.int 0), none], [], m)) rfl ?_
  exact hr
set_option maxHeartbeats 4000000 in
set_option maxRecDepth 100000 in
theorem vc_fai {w : mz_M} {WW HH : Nat} (hWW : WW ≤ 6) (hHH : HH ≤ 6) (h202 : w 20 2 = nI WW) (h203 : w 20 3 = nI HH) (hWH : WW = 0 ↔ HH = 0) (h6660 : w 66 60 = nI WW) (h6661 : w 66 61 = nI HH) {N : Nat} (hN : N ≤ 6) (h4 : w 2 4 = nI N) (h660 : w 66 0 = nI N) (hpq : ∀ i, i < 36 → w 66 (70 + i) = w 21 i) {xa : Int32} : ∀ j k : Nat, k + j = N → ∀ (a0 a1 : Int32) (o0 : Option Value), ∃ (p0 : Option Value), ∀ r, mz_Ex 100 mz_k92 (104, [some (.ref 0), some (.int xa), some (.int ((vq_fn (fun ii s => vq_mm (vq_ar (w 21) WW HH 0 0 6 (nI ii)) s) j k (a0, a1)).1)), some (.int ((vq_fn (fun ii s => vq_mm (vq_ar (w 21) WW HH 0 0 6 (nI ii)) s) j k (a0, a1)).2)), some (.int (nI N)), p0, none], [], w) r → mz_Ex 100 mz_k92 (55, [some (.ref 0), some (.int xa), some (.int a0), some (.int a1), some (.int (nI k)), o0, none], [], w) r := by
  intro j
  induction j with
  | zero =>
    intro k hk a0 a1 o0
    rw [show k = N by omega]
    exact ⟨o0, fun r hr => by
      refine mz_go 5 (c' := (67, [some (.ref 0), some (.int xa), some (.int a0), some (.int a1), some (.int (nI N)), o0, none], [.int (w 2 4), .int (nI N)], w)) rfl ?_
      rw [h4]
      refine mz_go 1 (c' := (if (nI N) ≤ (nI N) then 104 else 70, [some (.ref 0), some (.int xa), some (.int a0), some (.int a1), some (.int (nI N)), o0, none], [], w)) rfl ?_
      refine mz_ifT (show ((nI N) ≤ (nI N)) from (sm_leN rfl rfl (show N ≤ N by omega) (show N < 2 ^ 31 by omega))) ?_
      exact hr⟩
  | succ j ih =>
    intro k hk a0 a1 o0
    obtain ⟨p0, Er⟩ := ih (k + 1) (by omega) (sm_max a0 (vq_ar (w 21) WW HH 0 0 6 (nI k))) (sm_min a1 (vq_ar (w 21) WW HH 0 0 6 (nI k))) (some (.int (vq_ar (w 21) WW HH 0 0 6 (nI k))))
    refine ⟨p0, fun r hr0 => ?_⟩
    have hst : vq_fn (fun ii s => vq_mm (vq_ar (w 21) WW HH 0 0 6 (nI ii)) s) (j + 1) k (a0, a1) = vq_fn (fun ii s => vq_mm (vq_ar (w 21) WW HH 0 0 6 (nI ii)) s) j (k + 1) ((sm_max a0 (vq_ar (w 21) WW HH 0 0 6 (nI k))), (sm_min a1 (vq_ar (w 21) WW HH 0 0 6 (nI k)))) := vq_fn_in (vq_mm1 rfl rfl)
    rw [hst] at hr0
    have hr := Er r hr0
    rw [nI_succ k] at hr
    refine mz_go 5 (c' := (67, [some (.ref 0), some (.int xa), some (.int a0), some (.int a1), some (.int (nI k)), o0, none], [.int (w 2 4), .int (nI k)], w)) rfl ?_
    rw [h4]
    refine mz_go 1 (c' := (if (nI N) ≤ (nI k) then 104 else 70, [some (.ref 0), some (.int xa), some (.int a0), some (.int a1), some (.int (nI k)), o0, none], [], w)) rfl ?_
    refine mz_ifF (show ¬ ((nI N) ≤ (nI k)) from (sm_nleN rfl rfl (show k < N by omega) (show N < 2 ^ 31 by omega))) ?_
    refine mz_go 4 (c' := (79, [some (.ref 0), some (.int xa), some (.int a0), some (.int a1), some (.int (nI k)), o0, none], [.int (nI k), .ref 20], w)) rfl ?_
    refine mz_do (R := mz_r9) (as := [.ref 20, .int (nI k)]) (rest := []) (r1 := some (.int (vq_ar (w 21) WW HH 0 0 6 (nI k)))) (m1 := w) rfl ⟨?_, rfl⟩ ?_
    · refine mz_go 5 (c' := (6, [some (.ref 20), some (.int (nI k))], [.int (nI k), .int 6, .int 0, .int 0, .ref 20], w)) rfl ?_
      refine mz_do (R := mz_r10) (as := [.ref 20, .int 0, .int 0, .int 6, .int (nI k)]) (rest := []) (r1 := some (.int (vq_ar (w 21) WW HH 0 0 6 (nI k)))) (m1 := w) rfl ((ve_caro (m := w) hWW hHH h202 h203 (show sm_B 1000 0 by unfold sm_B; decide) (show sm_B 1000 0 by unfold sm_B; decide) (show sm_B 1000 6 by unfold sm_B; decide) (show (0 : Int) ≤ (6 : Int32).toInt by decide) (nI k)).deep (by decide)) ?_
      exact mz_ret rfl
    refine mz_go 11 (c' := (55, [some (.ref 0), some (.int xa), some (.int (sm_max a0 (vq_ar (w 21) WW HH 0 0 6 (nI k)))), some (.int (sm_min a1 (vq_ar (w 21) WW HH 0 0 6 (nI k)))), some (.int ((nI k) + 1)), some (.int (vq_ar (w 21) WW HH 0 0 6 (nI k))), none], [], w)) rfl ?_
    exact hr
set_option maxHeartbeats 4000000 in
set_option maxRecDepth 100000 in
theorem vr_fai {w : mz_M} {WW HH : Nat} (hWW : WW ≤ 6) (hHH : HH ≤ 6) (h202 : w 20 2 = nI WW) (h203 : w 20 3 = nI HH) (hWH : WW = 0 ↔ HH = 0) (h6660 : w 66 60 = nI WW) (h6661 : w 66 61 = nI HH) {N : Nat} (hN : N ≤ 6) (h4 : w 2 4 = nI N) (h660 : w 66 0 = nI N) (hpq : ∀ i, i < 36 → w 66 (70 + i) = w 21 i) {xa : Int32} : ∀ j k : Nat, k + j = N → ∀ (a0 a1 : Int32) (o0 : Option Value), ∃ (p0 : Option Value), ∀ r, mz_Ex 100 mz_k202 (96, [some (.ref 65), some (.int xa), some (.int ((vq_fn (fun ii s => vq_mm (vq_ar (w 21) WW HH 0 0 6 (nI ii)) s) j k (a0, a1)).1)), some (.int ((vq_fn (fun ii s => vq_mm (vq_ar (w 21) WW HH 0 0 6 (nI ii)) s) j k (a0, a1)).2)), some (.int (nI N)), p0, none], [], w) r → mz_Ex 100 mz_k202 (45, [some (.ref 65), some (.int xa), some (.int a0), some (.int a1), some (.int (nI k)), o0, none], [], w) r := by
  intro j
  induction j with
  | zero =>
    intro k hk a0 a1 o0
    rw [show k = N by omega]
    exact ⟨o0, fun r hr => by
      refine mz_go 5 (c' := (53, [some (.ref 65), some (.int xa), some (.int a0), some (.int a1), some (.int (nI N)), o0, none], [.int (w 66 0), .int (nI N)], w)) rfl ?_
      rw [h660]
      refine mz_go 1 (c' := (if (nI N) ≤ (nI N) then 96 else 56, [some (.ref 65), some (.int xa), some (.int a0), some (.int a1), some (.int (nI N)), o0, none], [], w)) rfl ?_
      refine mz_ifT (show ((nI N) ≤ (nI N)) from (sm_leN rfl rfl (show N ≤ N by omega) (show N < 2 ^ 31 by omega))) ?_
      exact hr⟩
  | succ j ih =>
    intro k hk a0 a1 o0
    by_cases q1 : (vq_ar (w 21) WW HH 0 0 6 (nI k)) ≤ a0
    · by_cases q2 : a1 ≤ (vq_ar (w 21) WW HH 0 0 6 (nI k))
      · obtain ⟨p0, Er⟩ := ih (k + 1) (by omega) a0 a1 (some (.int (vq_ar (w 21) WW HH 0 0 6 (nI k))))
        refine ⟨p0, fun r hr0 => ?_⟩
        have hst : vq_fn (fun ii s => vq_mm (vq_ar (w 21) WW HH 0 0 6 (nI ii)) s) (j + 1) k (a0, a1) = vq_fn (fun ii s => vq_mm (vq_ar (w 21) WW HH 0 0 6 (nI ii)) s) j (k + 1) (a0, a1) := vq_fn_in (vq_mm1 (vq_max0 (Int32.not_lt.mpr q1)) (vq_min0 (Int32.not_lt.mpr q2)))
        rw [hst] at hr0
        have hr := Er r hr0
        rw [nI_succ k] at hr
        refine mz_go 5 (c' := (53, [some (.ref 65), some (.int xa), some (.int a0), some (.int a1), some (.int (nI k)), o0, none], [.int (w 66 0), .int (nI k)], w)) rfl ?_
        rw [h660]
        refine mz_go 1 (c' := (if (nI N) ≤ (nI k) then 96 else 56, [some (.ref 65), some (.int xa), some (.int a0), some (.int a1), some (.int (nI k)), o0, none], [], w)) rfl ?_
        refine mz_ifF (show ¬ ((nI N) ≤ (nI k)) from (sm_nleN rfl rfl (show k < N by omega) (show N < 2 ^ 31 by omega))) ?_
        refine mz_go 2 (c' := (59, [some (.ref 65), some (.int xa), some (.int a0), some (.int a1), some (.int (nI k)), o0, none], [.int (nI k), .ref 65], w)) rfl ?_
        refine mz_do (R := mz_r193) (as := [.ref 65, .int (nI k)]) (rest := []) (r1 := some (.int (vq_ar (w 21) WW HH 0 0 6 (nI k)))) (m1 := w) rfl ⟨?_, rfl⟩ ?_
        · refine mz_go 5 (c' := (6, [some (.ref 65), some (.int (nI k))], [.int 6, .int 0, .int 0, .int (nI k), .ref 65], w)) rfl ?_
          refine mz_do (R := mz_r192) (as := [.ref 65, .int (nI k), .int 0, .int 0, .int 6]) (rest := []) (r1 := some (.int (vq_ar (w 21) WW HH 0 0 6 (nI k)))) (m1 := w) rfl ((ve_raro (w := w) (m := w) hWW hHH hWH h6660 h6661 (nI k) (show sm_B 1000 0 by unfold sm_B; decide) (show sm_B 1000 0 by unfold sm_B; decide) (show sm_B 1000 6 by unfold sm_B; decide) hpq).deep (by decide)) ?_
          exact mz_ret rfl
        refine mz_go 4 (c' := (if (vq_ar (w 21) WW HH 0 0 6 (nI k)) ≤ a0 then 75 else 70, [some (.ref 65), some (.int xa), some (.int a0), some (.int a1), some (.int (nI k)), some (.int (vq_ar (w 21) WW HH 0 0 6 (nI k))), none], [], w)) rfl ?_
        refine mz_ifT q1 ?_
        refine mz_go 5 (c' := (if a1 ≤ (vq_ar (w 21) WW HH 0 0 6 (nI k)) then 88 else 83, [some (.ref 65), some (.int xa), some (.int a0), some (.int a1), some (.int (nI k)), some (.int (vq_ar (w 21) WW HH 0 0 6 (nI k))), none], [], w)) rfl ?_
        refine mz_ifT q2 ?_
        refine mz_go 4 (c' := (45, [some (.ref 65), some (.int xa), some (.int a0), some (.int a1), some (.int ((nI k) + 1)), some (.int (vq_ar (w 21) WW HH 0 0 6 (nI k))), none], [], w)) rfl ?_
        exact hr
      · obtain ⟨p0, Er⟩ := ih (k + 1) (by omega) a0 (vq_ar (w 21) WW HH 0 0 6 (nI k)) (some (.int (vq_ar (w 21) WW HH 0 0 6 (nI k))))
        refine ⟨p0, fun r hr0 => ?_⟩
        have hst : vq_fn (fun ii s => vq_mm (vq_ar (w 21) WW HH 0 0 6 (nI ii)) s) (j + 1) k (a0, a1) = vq_fn (fun ii s => vq_mm (vq_ar (w 21) WW HH 0 0 6 (nI ii)) s) j (k + 1) (a0, (vq_ar (w 21) WW HH 0 0 6 (nI k))) := vq_fn_in (vq_mm1 (vq_max0 (Int32.not_lt.mpr q1)) (vq_min1 (Int32.not_le.mp q2)))
        rw [hst] at hr0
        have hr := Er r hr0
        rw [nI_succ k] at hr
        refine mz_go 5 (c' := (53, [some (.ref 65), some (.int xa), some (.int a0), some (.int a1), some (.int (nI k)), o0, none], [.int (w 66 0), .int (nI k)], w)) rfl ?_
        rw [h660]
        refine mz_go 1 (c' := (if (nI N) ≤ (nI k) then 96 else 56, [some (.ref 65), some (.int xa), some (.int a0), some (.int a1), some (.int (nI k)), o0, none], [], w)) rfl ?_
        refine mz_ifF (show ¬ ((nI N) ≤ (nI k)) from (sm_nleN rfl rfl (show k < N by omega) (show N < 2 ^ 31 by omega))) ?_
        refine mz_go 2 (c' := (59, [some (.ref 65), some (.int xa), some (.int a0), some (.int a1), some (.int (nI k)), o0, none], [.int (nI k), .ref 65], w)) rfl ?_
        refine mz_do (R := mz_r193) (as := [.ref 65, .int (nI k)]) (rest := []) (r1 := some (.int (vq_ar (w 21) WW HH 0 0 6 (nI k)))) (m1 := w) rfl ⟨?_, rfl⟩ ?_
        · refine mz_go 5 (c' := (6, [some (.ref 65), some (.int (nI k))], [.int 6, .int 0, .int 0, .int (nI k), .ref 65], w)) rfl ?_
          refine mz_do (R := mz_r192) (as := [.ref 65, .int (nI k), .int 0, .int 0, .int 6]) (rest := []) (r1 := some (.int (vq_ar (w 21) WW HH 0 0 6 (nI k)))) (m1 := w) rfl ((ve_raro (w := w) (m := w) hWW hHH hWH h6660 h6661 (nI k) (show sm_B 1000 0 by unfold sm_B; decide) (show sm_B 1000 0 by unfold sm_B; decide) (show sm_B 1000 6 by unfold sm_B; decide) hpq).deep (by decide)) ?_
          exact mz_ret rfl
        refine mz_go 4 (c' := (if (vq_ar (w 21) WW HH 0 0 6 (nI k)) ≤ a0 then 75 else 70, [some (.ref 65), some (.int xa), some (.int a0), some (.int a1), some (.int (nI k)), some (.int (vq_ar (w 21) WW HH 0 0 6 (nI k))), none], [], w)) rfl ?_
        refine mz_ifT q1 ?_
        refine mz_go 5 (c' := (if a1 ≤ (vq_ar (w 21) WW HH 0 0 6 (nI k)) then 88 else 83, [some (.ref 65), some (.int xa), some (.int a0), some (.int a1), some (.int (nI k)), some (.int (vq_ar (w 21) WW HH 0 0 6 (nI k))), none], [], w)) rfl ?_
        refine mz_ifF q2 ?_
        refine mz_go 5 (c' := (45, [some (.ref 65), some (.int xa), some (.int a0), some (.int (vq_ar (w 21) WW HH 0 0 6 (nI k))), some (.int ((nI k) + 1)), some (.int (vq_ar (w 21) WW HH 0 0 6 (nI k))), none], [], w)) rfl ?_
        exact hr
    · by_cases q3 : a1 ≤ (vq_ar (w 21) WW HH 0 0 6 (nI k))
      · obtain ⟨p0, Er⟩ := ih (k + 1) (by omega) (vq_ar (w 21) WW HH 0 0 6 (nI k)) a1 (some (.int (vq_ar (w 21) WW HH 0 0 6 (nI k))))
        refine ⟨p0, fun r hr0 => ?_⟩
        have hst : vq_fn (fun ii s => vq_mm (vq_ar (w 21) WW HH 0 0 6 (nI ii)) s) (j + 1) k (a0, a1) = vq_fn (fun ii s => vq_mm (vq_ar (w 21) WW HH 0 0 6 (nI ii)) s) j (k + 1) ((vq_ar (w 21) WW HH 0 0 6 (nI k)), a1) := vq_fn_in (vq_mm1 (vq_max1 (Int32.not_le.mp q1)) (vq_min0 (Int32.not_lt.mpr q3)))
        rw [hst] at hr0
        have hr := Er r hr0
        rw [nI_succ k] at hr
        refine mz_go 5 (c' := (53, [some (.ref 65), some (.int xa), some (.int a0), some (.int a1), some (.int (nI k)), o0, none], [.int (w 66 0), .int (nI k)], w)) rfl ?_
        rw [h660]
        refine mz_go 1 (c' := (if (nI N) ≤ (nI k) then 96 else 56, [some (.ref 65), some (.int xa), some (.int a0), some (.int a1), some (.int (nI k)), o0, none], [], w)) rfl ?_
        refine mz_ifF (show ¬ ((nI N) ≤ (nI k)) from (sm_nleN rfl rfl (show k < N by omega) (show N < 2 ^ 31 by omega))) ?_
        refine mz_go 2 (c' := (59, [some (.ref 65), some (.int xa), some (.int a0), some (.int a1), some (.int (nI k)), o0, none], [.int (nI k), .ref 65], w)) rfl ?_
        refine mz_do (R := mz_r193) (as := [.ref 65, .int (nI k)]) (rest := []) (r1 := some (.int (vq_ar (w 21) WW HH 0 0 6 (nI k)))) (m1 := w) rfl ⟨?_, rfl⟩ ?_
        · refine mz_go 5 (c' := (6, [some (.ref 65), some (.int (nI k))], [.int 6, .int 0, .int 0, .int (nI k), .ref 65], w)) rfl ?_
          refine mz_do (R := mz_r192) (as := [.ref 65, .int (nI k), .int 0, .int 0, .int 6]) (rest := []) (r1 := some (.int (vq_ar (w 21) WW HH 0 0 6 (nI k)))) (m1 := w) rfl ((ve_raro (w := w) (m := w) hWW hHH hWH h6660 h6661 (nI k) (show sm_B 1000 0 by unfold sm_B; decide) (show sm_B 1000 0 by unfold sm_B; decide) (show sm_B 1000 6 by unfold sm_B; decide) hpq).deep (by decide)) ?_
          exact mz_ret rfl
        refine mz_go 4 (c' := (if (vq_ar (w 21) WW HH 0 0 6 (nI k)) ≤ a0 then 75 else 70, [some (.ref 65), some (.int xa), some (.int a0), some (.int a1), some (.int (nI k)), some (.int (vq_ar (w 21) WW HH 0 0 6 (nI k))), none], [], w)) rfl ?_
        refine mz_ifF q1 ?_
        refine mz_go 6 (c' := (if a1 ≤ (vq_ar (w 21) WW HH 0 0 6 (nI k)) then 88 else 83, [some (.ref 65), some (.int xa), some (.int (vq_ar (w 21) WW HH 0 0 6 (nI k))), some (.int a1), some (.int (nI k)), some (.int (vq_ar (w 21) WW HH 0 0 6 (nI k))), none], [], w)) rfl ?_
        refine mz_ifT q3 ?_
        refine mz_go 4 (c' := (45, [some (.ref 65), some (.int xa), some (.int (vq_ar (w 21) WW HH 0 0 6 (nI k))), some (.int a1), some (.int ((nI k) + 1)), some (.int (vq_ar (w 21) WW HH 0 0 6 (nI k))), none], [], w)) rfl ?_
        exact hr
      · obtain ⟨p0, Er⟩ := ih (k + 1) (by omega) (vq_ar (w 21) WW HH 0 0 6 (nI k)) (vq_ar (w 21) WW HH 0 0 6 (nI k)) (some (.int (vq_ar (w 21) WW HH 0 0 6 (nI k))))
        refine ⟨p0, fun r hr0 => ?_⟩
        have hst : vq_fn (fun ii s => vq_mm (vq_ar (w 21) WW HH 0 0 6 (nI ii)) s) (j + 1) k (a0, a1) = vq_fn (fun ii s => vq_mm (vq_ar (w 21) WW HH 0 0 6 (nI ii)) s) j (k + 1) ((vq_ar (w 21) WW HH 0 0 6 (nI k)), (vq_ar (w 21) WW HH 0 0 6 (nI k))) := vq_fn_in (vq_mm1 (vq_max1 (Int32.not_le.mp q1)) (vq_min1 (Int32.not_le.mp q3)))
        rw [hst] at hr0
        have hr := Er r hr0
        rw [nI_succ k] at hr
        refine mz_go 5 (c' := (53, [some (.ref 65), some (.int xa), some (.int a0), some (.int a1), some (.int (nI k)), o0, none], [.int (w 66 0), .int (nI k)], w)) rfl ?_
        rw [h660]
        refine mz_go 1 (c' := (if (nI N) ≤ (nI k) then 96 else 56, [some (.ref 65), some (.int xa), some (.int a0), some (.int a1), some (.int (nI k)), o0, none], [], w)) rfl ?_
        refine mz_ifF (show ¬ ((nI N) ≤ (nI k)) from (sm_nleN rfl rfl (show k < N by omega) (show N < 2 ^ 31 by omega))) ?_
        refine mz_go 2 (c' := (59, [some (.ref 65), some (.int xa), some (.int a0), some (.int a1), some (.int (nI k)), o0, none], [.int (nI k), .ref 65], w)) rfl ?_
        refine mz_do (R := mz_r193) (as := [.ref 65, .int (nI k)]) (rest := []) (r1 := some (.int (vq_ar (w 21) WW HH 0 0 6 (nI k)))) (m1 := w) rfl ⟨?_, rfl⟩ ?_
        · refine mz_go 5 (c' := (6, [some (.ref 65), some (.int (nI k))], [.int 6, .int 0, .int 0, .int (nI k), .ref 65], w)) rfl ?_
          refine mz_do (R := mz_r192) (as := [.ref 65, .int (nI k), .int 0, .int 0, .int 6]) (rest := []) (r1 := some (.int (vq_ar (w 21) WW HH 0 0 6 (nI k)))) (m1 := w) rfl ((ve_raro (w := w) (m := w) hWW hHH hWH h6660 h6661 (nI k) (show sm_B 1000 0 by unfold sm_B; decide) (show sm_B 1000 0 by unfold sm_B; decide) (show sm_B 1000 6 by unfold sm_B; decide) hpq).deep (by decide)) ?_
          exact mz_ret rfl
        refine mz_go 4 (c' := (if (vq_ar (w 21) WW HH 0 0 6 (nI k)) ≤ a0 then 75 else 70, [some (.ref 65), some (.int xa), some (.int a0), some (.int a1), some (.int (nI k)), some (.int (vq_ar (w 21) WW HH 0 0 6 (nI k))), none], [], w)) rfl ?_
        refine mz_ifF q1 ?_
        refine mz_go 6 (c' := (if a1 ≤ (vq_ar (w 21) WW HH 0 0 6 (nI k)) then 88 else 83, [some (.ref 65), some (.int xa), some (.int (vq_ar (w 21) WW HH 0 0 6 (nI k))), some (.int a1), some (.int (nI k)), some (.int (vq_ar (w 21) WW HH 0 0 6 (nI k))), none], [], w)) rfl ?_
        refine mz_ifF q3 ?_
        refine mz_go 5 (c' := (45, [some (.ref 65), some (.int xa), some (.int (vq_ar (w 21) WW HH 0 0 6 (nI k))), some (.int (vq_ar (w 21) WW HH 0 0 6 (nI k))), some (.int ((nI k) + 1)), some (.int (vq_ar (w 21) WW HH 0 0 6 (nI k))), none], [], w)) rfl ?_
        exact hr
set_option maxHeartbeats 4000000 in
set_option maxRecDepth 100000 in
theorem vr_gl {w : mz_M} (xa x2 x3 : Int32) : ∀ (fu : Nat) (a b : Int32) (o6 : Option Value), b.toInt.natAbs < fu → ∃ (y5 : Int32) (p6 : Option Value), ∀ r, mz_Ex 100 mz_k202 (135, [some (.ref 65), some (.int xa), some (.int x2), some (.int x3), some (.int (vq_gl fu a b)), some (.int y5), p6], [], w) r → mz_Ex 100 mz_k202 (112, [some (.ref 65), some (.int xa), some (.int x2), some (.int x3), some (.int a), some (.int b), o6], [], w) r := by
  intro fu
  induction fu with
  | zero =>
    intro a b o6 hms
    exact absurd hms (Nat.not_lt_zero _)
  | succ fu ih =>
    intro a b o6 hms
    by_cases q : b = 0
    · refine ⟨b, o6, fun r hr => ?_⟩
      rw [vq_gl0 q] at hr
      refine mz_go 2 (c' := (if b = 0 then 135 else 117, [some (.ref 65), some (.int xa), some (.int x2), some (.int x3), some (.int a), some (.int b), o6], [], w)) rfl ?_
      refine mz_ifT q ?_
      exact hr
    · obtain ⟨y5, p6, Er⟩ := ih b (a - a / b * b) (some (.int (a - a / b * b))) (Nat.lt_of_lt_of_le (sm_remlt q) (Nat.le_of_lt_succ hms))
      refine ⟨y5, p6, fun r hr0 => ?_⟩
      rw [vq_gl1 q] at hr0
      have hr := Er r hr0
      refine mz_go 2 (c' := (if b = 0 then 135 else 117, [some (.ref 65), some (.int xa), some (.int x2), some (.int x3), some (.int a), some (.int b), o6], [], w)) rfl ?_
      refine mz_ifF q ?_
      refine mz_go 2 (c' := (121, [some (.ref 65), some (.int xa), some (.int x2), some (.int x3), some (.int a), some (.int b), o6], [.int b, .int a], w)) rfl ?_
      refine mz_div (c' := (122, [some (.ref 65), some (.int xa), some (.int x2), some (.int x3), some (.int a), some (.int b), o6], [.int (a - a / b * b)], w)) rfl q ?_
      refine mz_go 6 (c' := (112, [some (.ref 65), some (.int xa), some (.int x2), some (.int x3), some (.int b), some (.int (a - a / b * b)), some (.int (a - a / b * b))], [], w)) rfl ?_
      exact hr
set_option maxHeartbeats 4000000 in
set_option maxRecDepth 100000 in
theorem sc_fair {n : Nat} (hn : n < 64) {w : mz_M} (hI : sm_I n w) (xa : Int32) : ∃ v1 v2 m1 m2, mz_Me 100 mz_r92 [.ref 0, .int xa] w (some (.int v1)) m1 ∧ mz_Me 100 mz_r202 [.ref 65, .int xa] m1 (some (.int v2)) m2 ∧ sm_I (n + 1) m2 ∧ v1 = v2 := by
  have hI2 := hI
  obtain ⟨hn0, ⟨-, ⟨hr80, hr5, hrr⟩, ⟨⟨TT, hTT, h81, h661⟩, htp⟩, ⟨⟨T0, hT0, hU0, hV0, -⟩, ⟨T1, hT1, hU1, hV1, -⟩, ⟨T2, hT2, hU2, hV2, -⟩⟩, ⟨hbx, hby, hbl⟩, ⟨⟨WW, HH, hWW, hHH, hWH, h202, h203, h6660, h6661⟩, h6662, h6663, h6664, hpc⟩, ⟨hth, h66160, hthr⟩, ⟨⟨AA, hAA, h111, h662⟩, h663, hwt⟩⟩, ⟨hsh, hsn⟩, ⟨hcb1, hcb2⟩, ⟨JJ, hJJ, h07, h652, hkept⟩⟩ := hI
  obtain ⟨N, hw, hr2, h660, -, -, h6615⟩ := sm_world hI2
  have hw2 := hw
  obtain ⟨hN, h4, hpb, -, -⟩ := hw2
  have hT60a := sm_T60 hV0
  have hT60b := sm_T60 hV1
  have hT60c := sm_T60 hV2
  obtain ⟨B1, hB1, e571⟩ := sm_Nof (by decide) hcb1
  obtain ⟨B2, hB2, e6519⟩ := sm_Nof (by decide) hcb2
  refine mz_two (fun _ => rfl) (fun _ => rfl) ?_
  by_cases q1 : (sm_bI (sm_in xa 0 1)) = 0
  · refine mz_goP 3 (c' := (3, [some (.ref 0), some (.int xa), none, none, none, none, none], [.int 1, .int 0, .int xa], w)) rfl ?_
    refine mz_doP (R := mz_r121) (as := [.int xa, .int 0, .int 1]) (rest := []) (r1 := some (.int (sm_bI (sm_in xa 0 1)))) (m1 := w) rfl ((cs_in (m := w) xa 0 1).deep (by decide)) ?_
    refine mz_goP 1 (c' := (if (sm_bI (sm_in xa 0 1)) = 0 then 9 else 15, [some (.ref 0), some (.int xa), none, none, none, none, none], [], w)) rfl ?_
    refine mz_ifTP q1 ?_
    refine mz_goP 2 (c' := (11, [some (.ref 0), some (.int xa), none, none, none, none, none], [.int 1, .ref 0], w)) rfl ?_
    refine mz_doP (R := mz_r109) (as := [.ref 0, .int 1]) (rest := []) (r1 := some (.int (-1000001))) (m1 := mz_up w 64 1 ((w 64 1) + 1)) rfl ((cs_err1 (m := w)).deep (by decide)) ?_
    refine mz_retP (r := (some (.int ((-1000001))), mz_up w 64 1 ((w 64 1) + 1))) rfl ⟨(-1000001), rfl, ?_⟩
    refine mz_goP 3 (c' := (3, [some (.ref 65), some (.int xa), none, none, none, none, none], [.int 1, .int 0, .int xa], mz_up w 64 1 ((w 64 1) + 1))) rfl ?_
    refine mz_doP (R := mz_r128) (as := [.int xa, .int 0, .int 1]) (rest := []) (r1 := some (.int (sm_bI (sm_in xa 0 1)))) (m1 := mz_up w 64 1 ((w 64 1) + 1)) rfl ((ct_in (m := mz_up w 64 1 ((w 64 1) + 1)) xa 0 1).deep (by decide)) ?_
    refine mz_goP 1 (c' := (if (sm_bI (sm_in xa 0 1)) = 0 then 9 else 15, [some (.ref 65), some (.int xa), none, none, none, none, none], [], mz_up w 64 1 ((w 64 1) + 1))) rfl ?_
    refine mz_ifTP q1 ?_
    refine mz_goP 2 (c' := (11, [some (.ref 65), some (.int xa), none, none, none, none, none], [.int 1, .ref 65], mz_up w 64 1 ((w 64 1) + 1))) rfl ?_
    refine mz_doP (R := mz_r127) (as := [.ref 65, .int 1]) (rest := []) (r1 := some (.int (-1000001))) (m1 := mz_up (mz_up w 64 1 ((w 64 1) + 1)) 68 1 ((w 68 1) + 1)) rfl ((ct_err1 (m := mz_up w 64 1 ((w 64 1) + 1))).deep (by decide)) ?_
    refine mz_retP (r := (some (.int ((-1000001))), mz_up (mz_up w 64 1 ((w 64 1) + 1)) 68 1 ((w 68 1) + 1))) rfl ⟨(-1000001), rfl, ?_, rfl⟩
    show sm_I (n + 1) (mz_up (mz_up w 64 1 ((w 64 1) + 1)) 68 1 ((w 68 1) + 1))
    exact sm_I_scr hn hI2 (fun i hi => by
      have hne : ∀ r, sm_scr r = true → i ≠ r := fun r hr e => by
        rw [e, hr] at hi
        cases hi
      simp only [mz_up_ne (hne 64 rfl), mz_up_ne (hne 68 rfl)]) rfl rfl
  · by_cases q2 : WW ≤ 0
    · refine mz_goP 3 (c' := (3, [some (.ref 0), some (.int xa), none, none, none, none, none], [.int 1, .int 0, .int xa], w)) rfl ?_
      refine mz_doP (R := mz_r121) (as := [.int xa, .int 0, .int 1]) (rest := []) (r1 := some (.int 1)) (m1 := w) rfl ((cs_in1 (m := w) (v := xa) (a := 0) (b := 1) (show ¬ (xa < 0) from (sm_in_lo q1)) (show ¬ (1 < xa) from (sm_in_hi q1))).deep (by decide)) ?_
      refine mz_goP 4 (c' := (22, [some (.ref 0), some (.int xa), none, none, none, none, none], [.ref 20], w)) rfl ?_
      refine mz_doP (R := mz_r2) (as := [.ref 20]) (rest := []) (r1 := some (.int 0)) (m1 := w) rfl ⟨?_, rfl⟩ ?_
      · refine mz_go 2 (c' := (4, [some (.ref 20)], [.int (w 20 2)], w)) rfl ?_
        rw [h202]
        refine mz_go 1 (c' := (if (nI WW) ≤ 0 then 18 else 7, [some (.ref 20)], [], w)) rfl ?_
        refine mz_ifT (show ((nI WW) ≤ 0) from (sm_leN rfl rfl (show WW ≤ 0 by omega) (show 0 < 2 ^ 31 by omega))) ?_
        refine mz_go 1 (c' := (19, [some (.ref 20)], [.int 0], w)) rfl ?_
        exact mz_ret rfl
      refine mz_goP 3 (c' := (43, [some (.ref 0), some (.int xa), none, none, none, none, none], [.int 2, .ref 0], w)) rfl ?_
      refine mz_doP (R := mz_r109) (as := [.ref 0, .int 2]) (rest := []) (r1 := some (.int (-1000002))) (m1 := mz_up w 64 2 ((w 64 2) + 1)) rfl ((cs_err2 (m := w)).deep (by decide)) ?_
      refine mz_retP (r := (some (.int ((-1000002))), mz_up w 64 2 ((w 64 2) + 1))) rfl ⟨(-1000002), rfl, ?_⟩
      refine mz_goP 3 (c' := (3, [some (.ref 65), some (.int xa), none, none, none, none, none], [.int 1, .int 0, .int xa], mz_up w 64 2 ((w 64 2) + 1))) rfl ?_
      refine mz_doP (R := mz_r128) (as := [.int xa, .int 0, .int 1]) (rest := []) (r1 := some (.int 1)) (m1 := mz_up w 64 2 ((w 64 2) + 1)) rfl ((ct_in1 (m := mz_up w 64 2 ((w 64 2) + 1)) (v := xa) (a := 0) (b := 1) (show ¬ (xa < 0) from (sm_in_lo q1)) (show ¬ (1 < xa) from (sm_in_hi q1))).deep (by decide)) ?_
      refine mz_goP 2 (c' := (16, [some (.ref 65), some (.int xa), none, none, none, none, none], [.ref 65], mz_up w 64 2 ((w 64 2) + 1))) rfl ?_
      refine mz_doP (R := mz_r185) (as := [.ref 65]) (rest := []) (r1 := some (.int 0)) (m1 := mz_up w 64 2 ((w 64 2) + 1)) rfl ⟨?_, rfl⟩ ?_
      · refine mz_go 1 (c' := (1, [some (.ref 65)], [.ref 65], mz_up w 64 2 ((w 64 2) + 1))) rfl ?_
        refine mz_do (R := mz_r183) (as := [.ref 65]) (rest := []) (r1 := some (.int (nI WW))) (m1 := mz_up w 64 2 ((w 64 2) + 1)) rfl ⟨?_, rfl⟩ ?_
        · refine mz_go 4 (c' := (7, [some (.ref 65)], [.int (w 66 60)], mz_up w 64 2 ((w 64 2) + 1))) rfl ?_
          rw [h6660]
          exact mz_ret rfl
        refine mz_go 1 (c' := (if (nI WW) ≤ 0 then 11 else 7, [some (.ref 65)], [], mz_up w 64 2 ((w 64 2) + 1))) rfl ?_
        refine mz_ifT (show ((nI WW) ≤ 0) from (sm_leN rfl rfl (show WW ≤ 0 by omega) (show 0 < 2 ^ 31 by omega))) ?_
        refine mz_go 1 (c' := (12, [some (.ref 65)], [.int 0], mz_up w 64 2 ((w 64 2) + 1))) rfl ?_
        exact mz_ret rfl
      refine mz_goP 3 (c' := (33, [some (.ref 65), some (.int xa), none, none, none, none, none], [.int 2, .ref 65], mz_up w 64 2 ((w 64 2) + 1))) rfl ?_
      refine mz_doP (R := mz_r127) (as := [.ref 65, .int 2]) (rest := []) (r1 := some (.int (-1000002))) (m1 := mz_up (mz_up w 64 2 ((w 64 2) + 1)) 68 2 ((w 68 2) + 1)) rfl ((ct_err2 (m := mz_up w 64 2 ((w 64 2) + 1))).deep (by decide)) ?_
      refine mz_retP (r := (some (.int ((-1000002))), mz_up (mz_up w 64 2 ((w 64 2) + 1)) 68 2 ((w 68 2) + 1))) rfl ⟨(-1000002), rfl, ?_, rfl⟩
      show sm_I (n + 1) (mz_up (mz_up w 64 2 ((w 64 2) + 1)) 68 2 ((w 68 2) + 1))
      exact sm_I_scr hn hI2 (fun i hi => by
        have hne : ∀ r, sm_scr r = true → i ≠ r := fun r hr e => by
          rw [e, hr] at hi
          cases hi
        simp only [mz_up_ne (hne 64 rfl), mz_up_ne (hne 68 rfl)]) rfl rfl
    · by_cases q3 : 0 < N
      · by_cases q4 : xa = 0
        · subst q4
          refine mz_goP 3 (c' := (3, [some (.ref 0), some (.int 0), none, none, none, none, none], [.int 1, .int 0, .int 0], w)) rfl ?_
          refine mz_doP (R := mz_r121) (as := [.int 0, .int 0, .int 1]) (rest := []) (r1 := some (.int 1)) (m1 := w) rfl ((cs_in1 (m := w) (v := 0) (a := 0) (b := 1) (by decide) (by decide)).deep (by decide)) ?_
          refine mz_goP 4 (c' := (22, [some (.ref 0), some (.int 0), none, none, none, none, none], [.ref 20], w)) rfl ?_
          refine mz_doP (R := mz_r2) (as := [.ref 20]) (rest := []) (r1 := some (.int 1)) (m1 := w) rfl ⟨?_, rfl⟩ ?_
          · refine mz_go 2 (c' := (4, [some (.ref 20)], [.int (w 20 2)], w)) rfl ?_
            rw [h202]
            refine mz_go 1 (c' := (if (nI WW) ≤ 0 then 18 else 7, [some (.ref 20)], [], w)) rfl ?_
            refine mz_ifF (show ¬ ((nI WW) ≤ 0) from (sm_nleN rfl rfl (show 0 < WW by omega) (show WW < 2 ^ 31 by omega))) ?_
            refine mz_go 2 (c' := (11, [some (.ref 20)], [.int (w 20 3)], w)) rfl ?_
            rw [h203]
            refine mz_go 1 (c' := (if (nI HH) ≤ 0 then 18 else 14, [some (.ref 20)], [], w)) rfl ?_
            refine mz_ifF (show ¬ ((nI HH) ≤ 0) from (sm_nleN rfl rfl (show 0 < HH by omega) (show HH < 2 ^ 31 by omega))) ?_
            refine mz_go 2 (c' := (19, [some (.ref 20)], [.int 1], w)) rfl ?_
            exact mz_ret rfl
          refine mz_goP 5 (c' := (38, [some (.ref 0), some (.int 0), none, none, none, none, none], [.int (w 2 4)], w)) rfl ?_
          rw [h4]
          refine mz_goP 1 (c' := (if 0 < (nI N) then 47 else 41, [some (.ref 0), some (.int 0), none, none, none, none, none], [], w)) rfl ?_
          refine mz_ifTP (show (0 < (nI N)) from (sm_ltN rfl rfl (show 0 < N by omega) (show N < 2 ^ 31 by omega))) ?_
          refine mz_goP 6 (c' := (55, [some (.ref 0), some (.int 0), some (.int 0), some (.int 36), some (.int 0), none, none], [], w)) rfl ?_
          obtain ⟨py1, Ey1⟩ := vc_fai (xa := 0) hWW hHH h202 h203 hWH h6660 h6661 hN h4 h660 (fun i hi => (hpc i hi).2.1) N 0 (by omega) 0 36 none
          refine mz_hkP Ey1 ?_
          refine mz_goP 7 (c' := (116, [some (.ref 0), some (.int 0), some (.int ((vq_fn (fun ii s => vq_mm (vq_ar (w 21) WW HH 0 0 6 (nI ii)) s) N 0 (0, 36)).1)), some (.int ((vq_fn (fun ii s => vq_mm (vq_ar (w 21) WW HH 0 0 6 (nI ii)) s) N 0 (0, 36)).2)), some (.int (((vq_fn (fun ii s => vq_mm (vq_ar (w 21) WW HH 0 0 6 (nI ii)) s) N 0 (0, 36)).1) - ((vq_fn (fun ii s => vq_mm (vq_ar (w 21) WW HH 0 0 6 (nI ii)) s) N 0 (0, 36)).2))), py1, none], [.ref 20], w)) rfl ?_
          refine mz_doP (R := mz_r3) (as := [.ref 20]) (rest := []) (r1 := some (.int ((nI WW) * (nI HH)))) (m1 := w) rfl ⟨?_, rfl⟩ ?_
          · refine mz_go 2 (c' := (4, [some (.ref 20)], [.int (w 20 2)], w)) rfl ?_
            rw [h202]
            refine mz_go 2 (c' := (8, [some (.ref 20)], [.int (w 20 3), .int (nI WW)], w)) rfl ?_
            rw [h203]
            refine mz_go 1 (c' := (9, [some (.ref 20)], [.int ((nI WW) * (nI HH))], w)) rfl ?_
            exact mz_ret rfl
          refine mz_goP 3 (c' := (125, [some (.ref 0), some (.int 0), some (.int ((vq_fn (fun ii s => vq_mm (vq_ar (w 21) WW HH 0 0 6 (nI ii)) s) N 0 (0, 36)).1)), some (.int ((vq_fn (fun ii s => vq_mm (vq_ar (w 21) WW HH 0 0 6 (nI ii)) s) N 0 (0, 36)).2)), some (.int (((vq_fn (fun ii s => vq_mm (vq_ar (w 21) WW HH 0 0 6 (nI ii)) s) N 0 (0, 36)).1) - ((vq_fn (fun ii s => vq_mm (vq_ar (w 21) WW HH 0 0 6 (nI ii)) s) N 0 (0, 36)).2))), some (.int ((nI WW) * (nI HH))), none], [.int ((nI WW) * (nI HH)), .int (((vq_fn (fun ii s => vq_mm (vq_ar (w 21) WW HH 0 0 6 (nI ii)) s) N 0 (0, 36)).1) - ((vq_fn (fun ii s => vq_mm (vq_ar (w 21) WW HH 0 0 6 (nI ii)) s) N 0 (0, 36)).2))], w)) rfl ?_
          obtain ⟨zg2, ezg2⟩ : ∃ zq, zq = vq_gl 100 (((vq_fn (fun ii s => vq_mm (vq_ar (w 21) WW HH 0 0 6 (nI ii)) s) N 0 (0, 36)).1) - ((vq_fn (fun ii s => vq_mm (vq_ar (w 21) WW HH 0 0 6 (nI ii)) s) N 0 (0, 36)).2)) ((nI WW) * (nI HH)) := ⟨_, rfl⟩
          have hzg2 : ¬ zg2 = 0 := by rw [ezg2]; exact vq_gl_nz2 (n := 99) (show ¬ (nI WW) * (nI HH) = 0 from (sm_neN (a := WW * HH) (b := 0) (sm_mulN rfl rfl) rfl (by have := Nat.mul_pos (show 0 < WW by omega) (show 0 < HH by omega); omega) (by have := Nat.mul_le_mul hWW hHH; omega) (by decide)))
          have gE3 := vc_gcd (m := w) (((vq_fn (fun ii s => vq_mm (vq_ar (w 21) WW HH 0 0 6 (nI ii)) s) N 0 (0, 36)).1) - ((vq_fn (fun ii s => vq_mm (vq_ar (w 21) WW HH 0 0 6 (nI ii)) s) N 0 (0, 36)).2)) ((nI WW) * (nI HH))
          rw [← ezg2] at gE3
          refine mz_doP (R := mz_r124) (as := [.int (((vq_fn (fun ii s => vq_mm (vq_ar (w 21) WW HH 0 0 6 (nI ii)) s) N 0 (0, 36)).1) - ((vq_fn (fun ii s => vq_mm (vq_ar (w 21) WW HH 0 0 6 (nI ii)) s) N 0 (0, 36)).2)), .int ((nI WW) * (nI HH))]) (rest := []) (r1 := some (.int zg2)) (m1 := w) rfl (gE3.deep (by decide)) ?_
          refine mz_goP 6 (c' := (143, [some (.ref 0), some (.int 0), some (.int ((vq_fn (fun ii s => vq_mm (vq_ar (w 21) WW HH 0 0 6 (nI ii)) s) N 0 (0, 36)).1)), some (.int ((vq_fn (fun ii s => vq_mm (vq_ar (w 21) WW HH 0 0 6 (nI ii)) s) N 0 (0, 36)).2)), some (.int (((vq_fn (fun ii s => vq_mm (vq_ar (w 21) WW HH 0 0 6 (nI ii)) s) N 0 (0, 36)).1) - ((vq_fn (fun ii s => vq_mm (vq_ar (w 21) WW HH 0 0 6 (nI ii)) s) N 0 (0, 36)).2))), some (.int ((nI WW) * (nI HH))), some (.int zg2)], [.int zg2, .int (((vq_fn (fun ii s => vq_mm (vq_ar (w 21) WW HH 0 0 6 (nI ii)) s) N 0 (0, 36)).1) - ((vq_fn (fun ii s => vq_mm (vq_ar (w 21) WW HH 0 0 6 (nI ii)) s) N 0 (0, 36)).2))], w)) rfl ?_
          refine mz_doP (R := mz_r123) (as := [.int (((vq_fn (fun ii s => vq_mm (vq_ar (w 21) WW HH 0 0 6 (nI ii)) s) N 0 (0, 36)).1) - ((vq_fn (fun ii s => vq_mm (vq_ar (w 21) WW HH 0 0 6 (nI ii)) s) N 0 (0, 36)).2)), .int zg2]) (rest := []) (r1 := some (.int ((((vq_fn (fun ii s => vq_mm (vq_ar (w 21) WW HH 0 0 6 (nI ii)) s) N 0 (0, 36)).1) - ((vq_fn (fun ii s => vq_mm (vq_ar (w 21) WW HH 0 0 6 (nI ii)) s) N 0 (0, 36)).2)) / zg2))) (m1 := w) rfl ⟨?_, rfl⟩ ?_
          · refine mz_go 2 (c' := (if zg2 = 0 then 4 else 8, [some (.int (((vq_fn (fun ii s => vq_mm (vq_ar (w 21) WW HH 0 0 6 (nI ii)) s) N 0 (0, 36)).1) - ((vq_fn (fun ii s => vq_mm (vq_ar (w 21) WW HH 0 0 6 (nI ii)) s) N 0 (0, 36)).2))), some (.int zg2)], [], w)) rfl ?_
            refine mz_ifF hzg2 ?_
            refine mz_go 2 (c' := (10, [some (.int (((vq_fn (fun ii s => vq_mm (vq_ar (w 21) WW HH 0 0 6 (nI ii)) s) N 0 (0, 36)).1) - ((vq_fn (fun ii s => vq_mm (vq_ar (w 21) WW HH 0 0 6 (nI ii)) s) N 0 (0, 36)).2))), some (.int zg2)], [.int zg2, .int (((vq_fn (fun ii s => vq_mm (vq_ar (w 21) WW HH 0 0 6 (nI ii)) s) N 0 (0, 36)).1) - ((vq_fn (fun ii s => vq_mm (vq_ar (w 21) WW HH 0 0 6 (nI ii)) s) N 0 (0, 36)).2))], w)) rfl ?_
            refine mz_div (c' := (11, [some (.int (((vq_fn (fun ii s => vq_mm (vq_ar (w 21) WW HH 0 0 6 (nI ii)) s) N 0 (0, 36)).1) - ((vq_fn (fun ii s => vq_mm (vq_ar (w 21) WW HH 0 0 6 (nI ii)) s) N 0 (0, 36)).2))), some (.int zg2)], [.int ((((vq_fn (fun ii s => vq_mm (vq_ar (w 21) WW HH 0 0 6 (nI ii)) s) N 0 (0, 36)).1) - ((vq_fn (fun ii s => vq_mm (vq_ar (w 21) WW HH 0 0 6 (nI ii)) s) N 0 (0, 36)).2)) / zg2)], w)) rfl hzg2 ?_
            exact mz_ret rfl
          refine mz_retP (r := (some (.int ((((vq_fn (fun ii s => vq_mm (vq_ar (w 21) WW HH 0 0 6 (nI ii)) s) N 0 (0, 36)).1) - ((vq_fn (fun ii s => vq_mm (vq_ar (w 21) WW HH 0 0 6 (nI ii)) s) N 0 (0, 36)).2)) / zg2)), w)) rfl ⟨(((vq_fn (fun ii s => vq_mm (vq_ar (w 21) WW HH 0 0 6 (nI ii)) s) N 0 (0, 36)).1) - ((vq_fn (fun ii s => vq_mm (vq_ar (w 21) WW HH 0 0 6 (nI ii)) s) N 0 (0, 36)).2)) / zg2, rfl, ?_⟩
          refine mz_goP 3 (c' := (3, [some (.ref 65), some (.int 0), none, none, none, none, none], [.int 1, .int 0, .int 0], w)) rfl ?_
          refine mz_doP (R := mz_r128) (as := [.int 0, .int 0, .int 1]) (rest := []) (r1 := some (.int 1)) (m1 := w) rfl ((ct_in1 (m := w) (v := 0) (a := 0) (b := 1) (by decide) (by decide)).deep (by decide)) ?_
          refine mz_goP 2 (c' := (16, [some (.ref 65), some (.int 0), none, none, none, none, none], [.ref 65], w)) rfl ?_
          refine mz_doP (R := mz_r185) (as := [.ref 65]) (rest := []) (r1 := some (.int 1)) (m1 := w) rfl ⟨?_, rfl⟩ ?_
          · refine mz_go 1 (c' := (1, [some (.ref 65)], [.ref 65], w)) rfl ?_
            refine mz_do (R := mz_r183) (as := [.ref 65]) (rest := []) (r1 := some (.int (nI WW))) (m1 := w) rfl ⟨?_, rfl⟩ ?_
            · refine mz_go 4 (c' := (7, [some (.ref 65)], [.int (w 66 60)], w)) rfl ?_
              rw [h6660]
              exact mz_ret rfl
            refine mz_go 1 (c' := (if (nI WW) ≤ 0 then 11 else 7, [some (.ref 65)], [], w)) rfl ?_
            refine mz_ifF (show ¬ ((nI WW) ≤ 0) from (sm_nleN rfl rfl (show 0 < WW by omega) (show WW < 2 ^ 31 by omega))) ?_
            refine mz_go 2 (c' := (12, [some (.ref 65)], [.int 1], w)) rfl ?_
            exact mz_ret rfl
          refine mz_goP 5 (c' := (28, [some (.ref 65), some (.int 0), none, none, none, none, none], [.int (w 66 0)], w)) rfl ?_
          rw [h660]
          refine mz_goP 1 (c' := (if (nI N) = 0 then 31 else 37, [some (.ref 65), some (.int 0), none, none, none, none, none], [], w)) rfl ?_
          refine mz_ifFP (show ¬ ((nI N) = 0) from (sm_neN rfl rfl (show N ≠ 0 by omega) (show N < 2 ^ 31 by omega) (show 0 < 2 ^ 31 by omega))) ?_
          refine mz_goP 6 (c' := (45, [some (.ref 65), some (.int 0), some (.int 0), some (.int 99), some (.int 0), none, none], [], w)) rfl ?_
          obtain ⟨py4, Ey4⟩ := vr_fai (xa := 0) hWW hHH h202 h203 hWH h6660 h6661 hN h4 h660 (fun i hi => (hpc i hi).2.1) N 0 (by omega) 0 99 none
          rw [vq_fair0 hWW hHH (by omega)] at Ey4
          refine mz_hkP Ey4 ?_
          refine mz_goP 5 (c' := (102, [some (.ref 65), some (.int 0), some (.int ((vq_fn (fun ii s => vq_mm (vq_ar (w 21) WW HH 0 0 6 (nI ii)) s) N 0 (0, 36)).1)), some (.int ((vq_fn (fun ii s => vq_mm (vq_ar (w 21) WW HH 0 0 6 (nI ii)) s) N 0 (0, 36)).2)), some (.int (((vq_fn (fun ii s => vq_mm (vq_ar (w 21) WW HH 0 0 6 (nI ii)) s) N 0 (0, 36)).1) - ((vq_fn (fun ii s => vq_mm (vq_ar (w 21) WW HH 0 0 6 (nI ii)) s) N 0 (0, 36)).2))), py4, none], [.ref 65], w)) rfl ?_
          refine mz_doP (R := mz_r183) (as := [.ref 65]) (rest := []) (r1 := some (.int (nI WW))) (m1 := w) rfl ⟨?_, rfl⟩ ?_
          · refine mz_go 4 (c' := (7, [some (.ref 65)], [.int (w 66 60)], w)) rfl ?_
            rw [h6660]
            exact mz_ret rfl
          refine mz_goP 1 (c' := (106, [some (.ref 65), some (.int 0), some (.int ((vq_fn (fun ii s => vq_mm (vq_ar (w 21) WW HH 0 0 6 (nI ii)) s) N 0 (0, 36)).1)), some (.int ((vq_fn (fun ii s => vq_mm (vq_ar (w 21) WW HH 0 0 6 (nI ii)) s) N 0 (0, 36)).2)), some (.int (((vq_fn (fun ii s => vq_mm (vq_ar (w 21) WW HH 0 0 6 (nI ii)) s) N 0 (0, 36)).1) - ((vq_fn (fun ii s => vq_mm (vq_ar (w 21) WW HH 0 0 6 (nI ii)) s) N 0 (0, 36)).2))), py4, none], [.ref 65, .int (nI WW)], w)) rfl ?_
          refine mz_doP (R := mz_r184) (as := [.ref 65]) (rest := [.int (nI WW)]) (r1 := some (.int (nI HH))) (m1 := w) rfl ⟨?_, rfl⟩ ?_
          · refine mz_go 4 (c' := (7, [some (.ref 65)], [.int (w 66 61)], w)) rfl ?_
            rw [h6661]
            exact mz_ret rfl
          refine mz_goP 2 (c' := (112, [some (.ref 65), some (.int 0), some (.int ((vq_fn (fun ii s => vq_mm (vq_ar (w 21) WW HH 0 0 6 (nI ii)) s) N 0 (0, 36)).1)), some (.int ((vq_fn (fun ii s => vq_mm (vq_ar (w 21) WW HH 0 0 6 (nI ii)) s) N 0 (0, 36)).2)), some (.int (((vq_fn (fun ii s => vq_mm (vq_ar (w 21) WW HH 0 0 6 (nI ii)) s) N 0 (0, 36)).1) - ((vq_fn (fun ii s => vq_mm (vq_ar (w 21) WW HH 0 0 6 (nI ii)) s) N 0 (0, 36)).2))), some (.int ((nI WW) * (nI HH))), none], [], w)) rfl ?_
          obtain ⟨yy5, py5, Ey5⟩ := vr_gl (w := w) 0 ((vq_fn (fun ii s => vq_mm (vq_ar (w 21) WW HH 0 0 6 (nI ii)) s) N 0 (0, 36)).1) ((vq_fn (fun ii s => vq_mm (vq_ar (w 21) WW HH 0 0 6 (nI ii)) s) N 0 (0, 36)).2) 100 (((vq_fn (fun ii s => vq_mm (vq_ar (w 21) WW HH 0 0 6 (nI ii)) s) N 0 (0, 36)).1) - ((vq_fn (fun ii s => vq_mm (vq_ar (w 21) WW HH 0 0 6 (nI ii)) s) N 0 (0, 36)).2)) ((nI WW) * (nI HH)) none (by rw [show (nI WW) * (nI HH) = nI (WW * HH) from sm_mulN rfl rfl, nI_toInt (by have := Nat.mul_le_mul hWW hHH; omega)]; have := Nat.mul_le_mul hWW hHH; omega)
          rw [← ezg2] at Ey5
          refine mz_hkP Ey5 ?_
          refine mz_goP 7 (c' := (156, [some (.ref 65), some (.int 0), some (.int ((vq_fn (fun ii s => vq_mm (vq_ar (w 21) WW HH 0 0 6 (nI ii)) s) N 0 (0, 36)).1)), some (.int ((vq_fn (fun ii s => vq_mm (vq_ar (w 21) WW HH 0 0 6 (nI ii)) s) N 0 (0, 36)).2)), some (.int zg2), some (.int yy5), py5], [.int zg2, .int (((vq_fn (fun ii s => vq_mm (vq_ar (w 21) WW HH 0 0 6 (nI ii)) s) N 0 (0, 36)).1) - ((vq_fn (fun ii s => vq_mm (vq_ar (w 21) WW HH 0 0 6 (nI ii)) s) N 0 (0, 36)).2))], w)) rfl ?_
          refine mz_divP (c' := (157, [some (.ref 65), some (.int 0), some (.int ((vq_fn (fun ii s => vq_mm (vq_ar (w 21) WW HH 0 0 6 (nI ii)) s) N 0 (0, 36)).1)), some (.int ((vq_fn (fun ii s => vq_mm (vq_ar (w 21) WW HH 0 0 6 (nI ii)) s) N 0 (0, 36)).2)), some (.int zg2), some (.int yy5), py5], [.int ((((vq_fn (fun ii s => vq_mm (vq_ar (w 21) WW HH 0 0 6 (nI ii)) s) N 0 (0, 36)).1) - ((vq_fn (fun ii s => vq_mm (vq_ar (w 21) WW HH 0 0 6 (nI ii)) s) N 0 (0, 36)).2)) / zg2)], w)) rfl hzg2 ?_
          refine mz_retP (r := (some (.int ((((vq_fn (fun ii s => vq_mm (vq_ar (w 21) WW HH 0 0 6 (nI ii)) s) N 0 (0, 36)).1) - ((vq_fn (fun ii s => vq_mm (vq_ar (w 21) WW HH 0 0 6 (nI ii)) s) N 0 (0, 36)).2)) / zg2)), w)) rfl ⟨(((vq_fn (fun ii s => vq_mm (vq_ar (w 21) WW HH 0 0 6 (nI ii)) s) N 0 (0, 36)).1) - ((vq_fn (fun ii s => vq_mm (vq_ar (w 21) WW HH 0 0 6 (nI ii)) s) N 0 (0, 36)).2)) / zg2, rfl, ?_, rfl⟩
          show sm_I (n + 1) (w)
          exact sm_I_scr hn hI2 (fun _ _ => rfl) rfl rfl
        · refine mz_goP 3 (c' := (3, [some (.ref 0), some (.int xa), none, none, none, none, none], [.int 1, .int 0, .int xa], w)) rfl ?_
          refine mz_doP (R := mz_r121) (as := [.int xa, .int 0, .int 1]) (rest := []) (r1 := some (.int 1)) (m1 := w) rfl ((cs_in1 (m := w) (v := xa) (a := 0) (b := 1) (show ¬ (xa < 0) from (sm_in_lo q1)) (show ¬ (1 < xa) from (sm_in_hi q1))).deep (by decide)) ?_
          refine mz_goP 4 (c' := (22, [some (.ref 0), some (.int xa), none, none, none, none, none], [.ref 20], w)) rfl ?_
          refine mz_doP (R := mz_r2) (as := [.ref 20]) (rest := []) (r1 := some (.int 1)) (m1 := w) rfl ⟨?_, rfl⟩ ?_
          · refine mz_go 2 (c' := (4, [some (.ref 20)], [.int (w 20 2)], w)) rfl ?_
            rw [h202]
            refine mz_go 1 (c' := (if (nI WW) ≤ 0 then 18 else 7, [some (.ref 20)], [], w)) rfl ?_
            refine mz_ifF (show ¬ ((nI WW) ≤ 0) from (sm_nleN rfl rfl (show 0 < WW by omega) (show WW < 2 ^ 31 by omega))) ?_
            refine mz_go 2 (c' := (11, [some (.ref 20)], [.int (w 20 3)], w)) rfl ?_
            rw [h203]
            refine mz_go 1 (c' := (if (nI HH) ≤ 0 then 18 else 14, [some (.ref 20)], [], w)) rfl ?_
            refine mz_ifF (show ¬ ((nI HH) ≤ 0) from (sm_nleN rfl rfl (show 0 < HH by omega) (show HH < 2 ^ 31 by omega))) ?_
            refine mz_go 2 (c' := (19, [some (.ref 20)], [.int 1], w)) rfl ?_
            exact mz_ret rfl
          refine mz_goP 5 (c' := (38, [some (.ref 0), some (.int xa), none, none, none, none, none], [.int (w 2 4)], w)) rfl ?_
          rw [h4]
          refine mz_goP 1 (c' := (if 0 < (nI N) then 47 else 41, [some (.ref 0), some (.int xa), none, none, none, none, none], [], w)) rfl ?_
          refine mz_ifTP (show (0 < (nI N)) from (sm_ltN rfl rfl (show 0 < N by omega) (show N < 2 ^ 31 by omega))) ?_
          refine mz_goP 6 (c' := (55, [some (.ref 0), some (.int xa), some (.int 0), some (.int 36), some (.int 0), none, none], [], w)) rfl ?_
          obtain ⟨py1, Ey1⟩ := vc_fai (xa := xa) hWW hHH h202 h203 hWH h6660 h6661 hN h4 h660 (fun i hi => (hpc i hi).2.1) N 0 (by omega) 0 36 none
          refine mz_hkP Ey1 ?_
          refine mz_goP 7 (c' := (116, [some (.ref 0), some (.int xa), some (.int ((vq_fn (fun ii s => vq_mm (vq_ar (w 21) WW HH 0 0 6 (nI ii)) s) N 0 (0, 36)).1)), some (.int ((vq_fn (fun ii s => vq_mm (vq_ar (w 21) WW HH 0 0 6 (nI ii)) s) N 0 (0, 36)).2)), some (.int (((vq_fn (fun ii s => vq_mm (vq_ar (w 21) WW HH 0 0 6 (nI ii)) s) N 0 (0, 36)).1) - ((vq_fn (fun ii s => vq_mm (vq_ar (w 21) WW HH 0 0 6 (nI ii)) s) N 0 (0, 36)).2))), py1, none], [.ref 20], w)) rfl ?_
          refine mz_doP (R := mz_r3) (as := [.ref 20]) (rest := []) (r1 := some (.int ((nI WW) * (nI HH)))) (m1 := w) rfl ⟨?_, rfl⟩ ?_
          · refine mz_go 2 (c' := (4, [some (.ref 20)], [.int (w 20 2)], w)) rfl ?_
            rw [h202]
            refine mz_go 2 (c' := (8, [some (.ref 20)], [.int (w 20 3), .int (nI WW)], w)) rfl ?_
            rw [h203]
            refine mz_go 1 (c' := (9, [some (.ref 20)], [.int ((nI WW) * (nI HH))], w)) rfl ?_
            exact mz_ret rfl
          refine mz_goP 3 (c' := (125, [some (.ref 0), some (.int xa), some (.int ((vq_fn (fun ii s => vq_mm (vq_ar (w 21) WW HH 0 0 6 (nI ii)) s) N 0 (0, 36)).1)), some (.int ((vq_fn (fun ii s => vq_mm (vq_ar (w 21) WW HH 0 0 6 (nI ii)) s) N 0 (0, 36)).2)), some (.int (((vq_fn (fun ii s => vq_mm (vq_ar (w 21) WW HH 0 0 6 (nI ii)) s) N 0 (0, 36)).1) - ((vq_fn (fun ii s => vq_mm (vq_ar (w 21) WW HH 0 0 6 (nI ii)) s) N 0 (0, 36)).2))), some (.int ((nI WW) * (nI HH))), none], [.int ((nI WW) * (nI HH)), .int (((vq_fn (fun ii s => vq_mm (vq_ar (w 21) WW HH 0 0 6 (nI ii)) s) N 0 (0, 36)).1) - ((vq_fn (fun ii s => vq_mm (vq_ar (w 21) WW HH 0 0 6 (nI ii)) s) N 0 (0, 36)).2))], w)) rfl ?_
          obtain ⟨zg2, ezg2⟩ : ∃ zq, zq = vq_gl 100 (((vq_fn (fun ii s => vq_mm (vq_ar (w 21) WW HH 0 0 6 (nI ii)) s) N 0 (0, 36)).1) - ((vq_fn (fun ii s => vq_mm (vq_ar (w 21) WW HH 0 0 6 (nI ii)) s) N 0 (0, 36)).2)) ((nI WW) * (nI HH)) := ⟨_, rfl⟩
          have hzg2 : ¬ zg2 = 0 := by rw [ezg2]; exact vq_gl_nz2 (n := 99) (show ¬ (nI WW) * (nI HH) = 0 from (sm_neN (a := WW * HH) (b := 0) (sm_mulN rfl rfl) rfl (by have := Nat.mul_pos (show 0 < WW by omega) (show 0 < HH by omega); omega) (by have := Nat.mul_le_mul hWW hHH; omega) (by decide)))
          have gE3 := vc_gcd (m := w) (((vq_fn (fun ii s => vq_mm (vq_ar (w 21) WW HH 0 0 6 (nI ii)) s) N 0 (0, 36)).1) - ((vq_fn (fun ii s => vq_mm (vq_ar (w 21) WW HH 0 0 6 (nI ii)) s) N 0 (0, 36)).2)) ((nI WW) * (nI HH))
          rw [← ezg2] at gE3
          refine mz_doP (R := mz_r124) (as := [.int (((vq_fn (fun ii s => vq_mm (vq_ar (w 21) WW HH 0 0 6 (nI ii)) s) N 0 (0, 36)).1) - ((vq_fn (fun ii s => vq_mm (vq_ar (w 21) WW HH 0 0 6 (nI ii)) s) N 0 (0, 36)).2)), .int ((nI WW) * (nI HH))]) (rest := []) (r1 := some (.int zg2)) (m1 := w) rfl (gE3.deep (by decide)) ?_
          refine mz_goP 3 (c' := (if xa = 0 then 134 else 139, [some (.ref 0), some (.int xa), some (.int ((vq_fn (fun ii s => vq_mm (vq_ar (w 21) WW HH 0 0 6 (nI ii)) s) N 0 (0, 36)).1)), some (.int ((vq_fn (fun ii s => vq_mm (vq_ar (w 21) WW HH 0 0 6 (nI ii)) s) N 0 (0, 36)).2)), some (.int (((vq_fn (fun ii s => vq_mm (vq_ar (w 21) WW HH 0 0 6 (nI ii)) s) N 0 (0, 36)).1) - ((vq_fn (fun ii s => vq_mm (vq_ar (w 21) WW HH 0 0 6 (nI ii)) s) N 0 (0, 36)).2))), some (.int ((nI WW) * (nI HH))), some (.int zg2)], [], w)) rfl ?_
          refine mz_ifFP q4 ?_
          refine mz_goP 2 (c' := (143, [some (.ref 0), some (.int xa), some (.int ((vq_fn (fun ii s => vq_mm (vq_ar (w 21) WW HH 0 0 6 (nI ii)) s) N 0 (0, 36)).1)), some (.int ((vq_fn (fun ii s => vq_mm (vq_ar (w 21) WW HH 0 0 6 (nI ii)) s) N 0 (0, 36)).2)), some (.int (((vq_fn (fun ii s => vq_mm (vq_ar (w 21) WW HH 0 0 6 (nI ii)) s) N 0 (0, 36)).1) - ((vq_fn (fun ii s => vq_mm (vq_ar (w 21) WW HH 0 0 6 (nI ii)) s) N 0 (0, 36)).2))), some (.int ((nI WW) * (nI HH))), some (.int zg2)], [.int zg2, .int ((nI WW) * (nI HH))], w)) rfl ?_
          refine mz_doP (R := mz_r123) (as := [.int ((nI WW) * (nI HH)), .int zg2]) (rest := []) (r1 := some (.int (((nI WW) * (nI HH)) / zg2))) (m1 := w) rfl ⟨?_, rfl⟩ ?_
          · refine mz_go 2 (c' := (if zg2 = 0 then 4 else 8, [some (.int ((nI WW) * (nI HH))), some (.int zg2)], [], w)) rfl ?_
            refine mz_ifF hzg2 ?_
            refine mz_go 2 (c' := (10, [some (.int ((nI WW) * (nI HH))), some (.int zg2)], [.int zg2, .int ((nI WW) * (nI HH))], w)) rfl ?_
            refine mz_div (c' := (11, [some (.int ((nI WW) * (nI HH))), some (.int zg2)], [.int (((nI WW) * (nI HH)) / zg2)], w)) rfl hzg2 ?_
            exact mz_ret rfl
          refine mz_retP (r := (some (.int (((nI WW) * (nI HH)) / zg2)), w)) rfl ⟨((nI WW) * (nI HH)) / zg2, rfl, ?_⟩
          refine mz_goP 3 (c' := (3, [some (.ref 65), some (.int xa), none, none, none, none, none], [.int 1, .int 0, .int xa], w)) rfl ?_
          refine mz_doP (R := mz_r128) (as := [.int xa, .int 0, .int 1]) (rest := []) (r1 := some (.int 1)) (m1 := w) rfl ((ct_in1 (m := w) (v := xa) (a := 0) (b := 1) (show ¬ (xa < 0) from (sm_in_lo q1)) (show ¬ (1 < xa) from (sm_in_hi q1))).deep (by decide)) ?_
          refine mz_goP 2 (c' := (16, [some (.ref 65), some (.int xa), none, none, none, none, none], [.ref 65], w)) rfl ?_
          refine mz_doP (R := mz_r185) (as := [.ref 65]) (rest := []) (r1 := some (.int 1)) (m1 := w) rfl ⟨?_, rfl⟩ ?_
          · refine mz_go 1 (c' := (1, [some (.ref 65)], [.ref 65], w)) rfl ?_
            refine mz_do (R := mz_r183) (as := [.ref 65]) (rest := []) (r1 := some (.int (nI WW))) (m1 := w) rfl ⟨?_, rfl⟩ ?_
            · refine mz_go 4 (c' := (7, [some (.ref 65)], [.int (w 66 60)], w)) rfl ?_
              rw [h6660]
              exact mz_ret rfl
            refine mz_go 1 (c' := (if (nI WW) ≤ 0 then 11 else 7, [some (.ref 65)], [], w)) rfl ?_
            refine mz_ifF (show ¬ ((nI WW) ≤ 0) from (sm_nleN rfl rfl (show 0 < WW by omega) (show WW < 2 ^ 31 by omega))) ?_
            refine mz_go 2 (c' := (12, [some (.ref 65)], [.int 1], w)) rfl ?_
            exact mz_ret rfl
          refine mz_goP 5 (c' := (28, [some (.ref 65), some (.int xa), none, none, none, none, none], [.int (w 66 0)], w)) rfl ?_
          rw [h660]
          refine mz_goP 1 (c' := (if (nI N) = 0 then 31 else 37, [some (.ref 65), some (.int xa), none, none, none, none, none], [], w)) rfl ?_
          refine mz_ifFP (show ¬ ((nI N) = 0) from (sm_neN rfl rfl (show N ≠ 0 by omega) (show N < 2 ^ 31 by omega) (show 0 < 2 ^ 31 by omega))) ?_
          refine mz_goP 6 (c' := (45, [some (.ref 65), some (.int xa), some (.int 0), some (.int 99), some (.int 0), none, none], [], w)) rfl ?_
          obtain ⟨py4, Ey4⟩ := vr_fai (xa := xa) hWW hHH h202 h203 hWH h6660 h6661 hN h4 h660 (fun i hi => (hpc i hi).2.1) N 0 (by omega) 0 99 none
          rw [vq_fair0 hWW hHH (by omega)] at Ey4
          refine mz_hkP Ey4 ?_
          refine mz_goP 5 (c' := (102, [some (.ref 65), some (.int xa), some (.int ((vq_fn (fun ii s => vq_mm (vq_ar (w 21) WW HH 0 0 6 (nI ii)) s) N 0 (0, 36)).1)), some (.int ((vq_fn (fun ii s => vq_mm (vq_ar (w 21) WW HH 0 0 6 (nI ii)) s) N 0 (0, 36)).2)), some (.int (((vq_fn (fun ii s => vq_mm (vq_ar (w 21) WW HH 0 0 6 (nI ii)) s) N 0 (0, 36)).1) - ((vq_fn (fun ii s => vq_mm (vq_ar (w 21) WW HH 0 0 6 (nI ii)) s) N 0 (0, 36)).2))), py4, none], [.ref 65], w)) rfl ?_
          refine mz_doP (R := mz_r183) (as := [.ref 65]) (rest := []) (r1 := some (.int (nI WW))) (m1 := w) rfl ⟨?_, rfl⟩ ?_
          · refine mz_go 4 (c' := (7, [some (.ref 65)], [.int (w 66 60)], w)) rfl ?_
            rw [h6660]
            exact mz_ret rfl
          refine mz_goP 1 (c' := (106, [some (.ref 65), some (.int xa), some (.int ((vq_fn (fun ii s => vq_mm (vq_ar (w 21) WW HH 0 0 6 (nI ii)) s) N 0 (0, 36)).1)), some (.int ((vq_fn (fun ii s => vq_mm (vq_ar (w 21) WW HH 0 0 6 (nI ii)) s) N 0 (0, 36)).2)), some (.int (((vq_fn (fun ii s => vq_mm (vq_ar (w 21) WW HH 0 0 6 (nI ii)) s) N 0 (0, 36)).1) - ((vq_fn (fun ii s => vq_mm (vq_ar (w 21) WW HH 0 0 6 (nI ii)) s) N 0 (0, 36)).2))), py4, none], [.ref 65, .int (nI WW)], w)) rfl ?_
          refine mz_doP (R := mz_r184) (as := [.ref 65]) (rest := [.int (nI WW)]) (r1 := some (.int (nI HH))) (m1 := w) rfl ⟨?_, rfl⟩ ?_
          · refine mz_go 4 (c' := (7, [some (.ref 65)], [.int (w 66 61)], w)) rfl ?_
            rw [h6661]
            exact mz_ret rfl
          refine mz_goP 2 (c' := (112, [some (.ref 65), some (.int xa), some (.int ((vq_fn (fun ii s => vq_mm (vq_ar (w 21) WW HH 0 0 6 (nI ii)) s) N 0 (0, 36)).1)), some (.int ((vq_fn (fun ii s => vq_mm (vq_ar (w 21) WW HH 0 0 6 (nI ii)) s) N 0 (0, 36)).2)), some (.int (((vq_fn (fun ii s => vq_mm (vq_ar (w 21) WW HH 0 0 6 (nI ii)) s) N 0 (0, 36)).1) - ((vq_fn (fun ii s => vq_mm (vq_ar (w 21) WW HH 0 0 6 (nI ii)) s) N 0 (0, 36)).2))), some (.int ((nI WW) * (nI HH))), none], [], w)) rfl ?_
          obtain ⟨yy5, py5, Ey5⟩ := vr_gl (w := w) xa ((vq_fn (fun ii s => vq_mm (vq_ar (w 21) WW HH 0 0 6 (nI ii)) s) N 0 (0, 36)).1) ((vq_fn (fun ii s => vq_mm (vq_ar (w 21) WW HH 0 0 6 (nI ii)) s) N 0 (0, 36)).2) 100 (((vq_fn (fun ii s => vq_mm (vq_ar (w 21) WW HH 0 0 6 (nI ii)) s) N 0 (0, 36)).1) - ((vq_fn (fun ii s => vq_mm (vq_ar (w 21) WW HH 0 0 6 (nI ii)) s) N 0 (0, 36)).2)) ((nI WW) * (nI HH)) none (by rw [show (nI WW) * (nI HH) = nI (WW * HH) from sm_mulN rfl rfl, nI_toInt (by have := Nat.mul_le_mul hWW hHH; omega)]; have := Nat.mul_le_mul hWW hHH; omega)
          rw [← ezg2] at Ey5
          refine mz_hkP Ey5 ?_
          refine mz_goP 2 (c' := (if xa = 0 then 139 else 145, [some (.ref 65), some (.int xa), some (.int ((vq_fn (fun ii s => vq_mm (vq_ar (w 21) WW HH 0 0 6 (nI ii)) s) N 0 (0, 36)).1)), some (.int ((vq_fn (fun ii s => vq_mm (vq_ar (w 21) WW HH 0 0 6 (nI ii)) s) N 0 (0, 36)).2)), some (.int zg2), some (.int yy5), py5], [], w)) rfl ?_
          refine mz_ifFP q4 ?_
          refine mz_goP 1 (c' := (146, [some (.ref 65), some (.int xa), some (.int ((vq_fn (fun ii s => vq_mm (vq_ar (w 21) WW HH 0 0 6 (nI ii)) s) N 0 (0, 36)).1)), some (.int ((vq_fn (fun ii s => vq_mm (vq_ar (w 21) WW HH 0 0 6 (nI ii)) s) N 0 (0, 36)).2)), some (.int zg2), some (.int yy5), py5], [.ref 65], w)) rfl ?_
          refine mz_doP (R := mz_r183) (as := [.ref 65]) (rest := []) (r1 := some (.int (nI WW))) (m1 := w) rfl ⟨?_, rfl⟩ ?_
          · refine mz_go 4 (c' := (7, [some (.ref 65)], [.int (w 66 60)], w)) rfl ?_
            rw [h6660]
            exact mz_ret rfl
          refine mz_goP 1 (c' := (150, [some (.ref 65), some (.int xa), some (.int ((vq_fn (fun ii s => vq_mm (vq_ar (w 21) WW HH 0 0 6 (nI ii)) s) N 0 (0, 36)).1)), some (.int ((vq_fn (fun ii s => vq_mm (vq_ar (w 21) WW HH 0 0 6 (nI ii)) s) N 0 (0, 36)).2)), some (.int zg2), some (.int yy5), py5], [.ref 65, .int (nI WW)], w)) rfl ?_
          refine mz_doP (R := mz_r184) (as := [.ref 65]) (rest := [.int (nI WW)]) (r1 := some (.int (nI HH))) (m1 := w) rfl ⟨?_, rfl⟩ ?_
          · refine mz_go 4 (c' := (7, [some (.ref 65)], [.int (w 66 61)], w)) rfl ?_
            rw [h6661]
            exact mz_ret rfl
          refine mz_goP 2 (c' := (156, [some (.ref 65), some (.int xa), some (.int ((vq_fn (fun ii s => vq_mm (vq_ar (w 21) WW HH 0 0 6 (nI ii)) s) N 0 (0, 36)).1)), some (.int ((vq_fn (fun ii s => vq_mm (vq_ar (w 21) WW HH 0 0 6 (nI ii)) s) N 0 (0, 36)).2)), some (.int zg2), some (.int yy5), py5], [.int zg2, .int ((nI WW) * (nI HH))], w)) rfl ?_
          refine mz_divP (c' := (157, [some (.ref 65), some (.int xa), some (.int ((vq_fn (fun ii s => vq_mm (vq_ar (w 21) WW HH 0 0 6 (nI ii)) s) N 0 (0, 36)).1)), some (.int ((vq_fn (fun ii s => vq_mm (vq_ar (w 21) WW HH 0 0 6 (nI ii)) s) N 0 (0, 36)).2)), some (.int zg2), some (.int yy5), py5], [.int (((nI WW) * (nI HH)) / zg2)], w)) rfl hzg2 ?_
          refine mz_retP (r := (some (.int (((nI WW) * (nI HH)) / zg2)), w)) rfl ⟨((nI WW) * (nI HH)) / zg2, rfl, ?_, rfl⟩
          show sm_I (n + 1) (w)
          exact sm_I_scr hn hI2 (fun _ _ => rfl) rfl rfl
      · refine mz_goP 3 (c' := (3, [some (.ref 0), some (.int xa), none, none, none, none, none], [.int 1, .int 0, .int xa], w)) rfl ?_
        refine mz_doP (R := mz_r121) (as := [.int xa, .int 0, .int 1]) (rest := []) (r1 := some (.int 1)) (m1 := w) rfl ((cs_in1 (m := w) (v := xa) (a := 0) (b := 1) (show ¬ (xa < 0) from (sm_in_lo q1)) (show ¬ (1 < xa) from (sm_in_hi q1))).deep (by decide)) ?_
        refine mz_goP 4 (c' := (22, [some (.ref 0), some (.int xa), none, none, none, none, none], [.ref 20], w)) rfl ?_
        refine mz_doP (R := mz_r2) (as := [.ref 20]) (rest := []) (r1 := some (.int 1)) (m1 := w) rfl ⟨?_, rfl⟩ ?_
        · refine mz_go 2 (c' := (4, [some (.ref 20)], [.int (w 20 2)], w)) rfl ?_
          rw [h202]
          refine mz_go 1 (c' := (if (nI WW) ≤ 0 then 18 else 7, [some (.ref 20)], [], w)) rfl ?_
          refine mz_ifF (show ¬ ((nI WW) ≤ 0) from (sm_nleN rfl rfl (show 0 < WW by omega) (show WW < 2 ^ 31 by omega))) ?_
          refine mz_go 2 (c' := (11, [some (.ref 20)], [.int (w 20 3)], w)) rfl ?_
          rw [h203]
          refine mz_go 1 (c' := (if (nI HH) ≤ 0 then 18 else 14, [some (.ref 20)], [], w)) rfl ?_
          refine mz_ifF (show ¬ ((nI HH) ≤ 0) from (sm_nleN rfl rfl (show 0 < HH by omega) (show HH < 2 ^ 31 by omega))) ?_
          refine mz_go 2 (c' := (19, [some (.ref 20)], [.int 1], w)) rfl ?_
          exact mz_ret rfl
        refine mz_goP 5 (c' := (38, [some (.ref 0), some (.int xa), none, none, none, none, none], [.int (w 2 4)], w)) rfl ?_
        rw [h4]
        refine mz_goP 1 (c' := (if 0 < (nI N) then 47 else 41, [some (.ref 0), some (.int xa), none, none, none, none, none], [], w)) rfl ?_
        refine mz_ifFP (show ¬ (0 < (nI N)) from (sm_nltN rfl rfl (show N ≤ 0 by omega) (show 0 < 2 ^ 31 by omega))) ?_
        refine mz_goP 2 (c' := (43, [some (.ref 0), some (.int xa), none, none, none, none, none], [.int 2, .ref 0], w)) rfl ?_
        refine mz_doP (R := mz_r109) (as := [.ref 0, .int 2]) (rest := []) (r1 := some (.int (-1000002))) (m1 := mz_up w 64 2 ((w 64 2) + 1)) rfl ((cs_err2 (m := w)).deep (by decide)) ?_
        refine mz_retP (r := (some (.int ((-1000002))), mz_up w 64 2 ((w 64 2) + 1))) rfl ⟨(-1000002), rfl, ?_⟩
        refine mz_goP 3 (c' := (3, [some (.ref 65), some (.int xa), none, none, none, none, none], [.int 1, .int 0, .int xa], mz_up w 64 2 ((w 64 2) + 1))) rfl ?_
        refine mz_doP (R := mz_r128) (as := [.int xa, .int 0, .int 1]) (rest := []) (r1 := some (.int 1)) (m1 := mz_up w 64 2 ((w 64 2) + 1)) rfl ((ct_in1 (m := mz_up w 64 2 ((w 64 2) + 1)) (v := xa) (a := 0) (b := 1) (show ¬ (xa < 0) from (sm_in_lo q1)) (show ¬ (1 < xa) from (sm_in_hi q1))).deep (by decide)) ?_
        refine mz_goP 2 (c' := (16, [some (.ref 65), some (.int xa), none, none, none, none, none], [.ref 65], mz_up w 64 2 ((w 64 2) + 1))) rfl ?_
        refine mz_doP (R := mz_r185) (as := [.ref 65]) (rest := []) (r1 := some (.int 1)) (m1 := mz_up w 64 2 ((w 64 2) + 1)) rfl ⟨?_, rfl⟩ ?_
        · refine mz_go 1 (c' := (1, [some (.ref 65)], [.ref 65], mz_up w 64 2 ((w 64 2) + 1))) rfl ?_
          refine mz_do (R := mz_r183) (as := [.ref 65]) (rest := []) (r1 := some (.int (nI WW))) (m1 := mz_up w 64 2 ((w 64 2) + 1)) rfl ⟨?_, rfl⟩ ?_
          · refine mz_go 4 (c' := (7, [some (.ref 65)], [.int (w 66 60)], mz_up w 64 2 ((w 64 2) + 1))) rfl ?_
            rw [h6660]
            exact mz_ret rfl
          refine mz_go 1 (c' := (if (nI WW) ≤ 0 then 11 else 7, [some (.ref 65)], [], mz_up w 64 2 ((w 64 2) + 1))) rfl ?_
          refine mz_ifF (show ¬ ((nI WW) ≤ 0) from (sm_nleN rfl rfl (show 0 < WW by omega) (show WW < 2 ^ 31 by omega))) ?_
          refine mz_go 2 (c' := (12, [some (.ref 65)], [.int 1], mz_up w 64 2 ((w 64 2) + 1))) rfl ?_
          exact mz_ret rfl
        refine mz_goP 5 (c' := (28, [some (.ref 65), some (.int xa), none, none, none, none, none], [.int (w 66 0)], mz_up w 64 2 ((w 64 2) + 1))) rfl ?_
        rw [h660]
        refine mz_goP 1 (c' := (if (nI N) = 0 then 31 else 37, [some (.ref 65), some (.int xa), none, none, none, none, none], [], mz_up w 64 2 ((w 64 2) + 1))) rfl ?_
        refine mz_ifTP (show ((nI N) = 0) from (sm_eqN rfl rfl (show N = 0 by omega))) ?_
        refine mz_goP 2 (c' := (33, [some (.ref 65), some (.int xa), none, none, none, none, none], [.int 2, .ref 65], mz_up w 64 2 ((w 64 2) + 1))) rfl ?_
        refine mz_doP (R := mz_r127) (as := [.ref 65, .int 2]) (rest := []) (r1 := some (.int (-1000002))) (m1 := mz_up (mz_up w 64 2 ((w 64 2) + 1)) 68 2 ((w 68 2) + 1)) rfl ((ct_err2 (m := mz_up w 64 2 ((w 64 2) + 1))).deep (by decide)) ?_
        refine mz_retP (r := (some (.int ((-1000002))), mz_up (mz_up w 64 2 ((w 64 2) + 1)) 68 2 ((w 68 2) + 1))) rfl ⟨(-1000002), rfl, ?_, rfl⟩
        show sm_I (n + 1) (mz_up (mz_up w 64 2 ((w 64 2) + 1)) 68 2 ((w 68 2) + 1))
        exact sm_I_scr hn hI2 (fun i hi => by
          have hne : ∀ r, sm_scr r = true → i ≠ r := fun r hr e => by
            rw [e, hr] at hi
            cases hi
          simp only [mz_up_ne (hne 64 rfl), mz_up_ne (hne 68 rfl)]) rfl rfl
