/-! cells of a picture: another colour, an edge -/
noncomputable def vq_ot (f : Nat → Int32) (W H : Nat) (a b c : Int32) : Int32 := if 0 ≤ a.toInt ∧ a.toInt < (W : Int) ∧ 0 ≤ b.toInt ∧ b.toInt < (H : Int) then (if f (b.toInt.toNat * 6 + a.toInt.toNat) = c then 0 else 1) else 0
theorem vq_o0 {f : Nat → Int32} {W H : Nat} {a b c : Int32} (h : W = 0) : 0 = vq_ot f W H a b c := by
  unfold vq_ot
  rw [if_neg (by omega)]
theorem vq_o1 {f : Nat → Int32} {W H : Nat} {a b c : Int32} (h : a < 0) : 0 = vq_ot f W H a b c := by
  have h2 : a.toInt < 0 := Int32.lt_iff_toInt_lt.mp h
  unfold vq_ot
  rw [if_neg (by omega)]
theorem vq_o2 {f : Nat → Int32} {W H A : Nat} {b c : Int32} (hA : A < 2 ^ 31) (h : W ≤ A) : 0 = vq_ot f W H (nI A) b c := by
  unfold vq_ot
  rw [nI_toInt hA, if_neg (by omega)]
theorem vq_o3 {f : Nat → Int32} {W H : Nat} {a b c : Int32} (h : b < 0) : 0 = vq_ot f W H a b c := by
  have h2 : b.toInt < 0 := Int32.lt_iff_toInt_lt.mp h
  unfold vq_ot
  rw [if_neg (by omega)]
theorem vq_o4 {f : Nat → Int32} {W H B : Nat} {a c : Int32} (hB : B < 2 ^ 31) (h : H ≤ B) : 0 = vq_ot f W H a (nI B) c := by
  unfold vq_ot
  rw [nI_toInt hB, if_neg (by omega)]
theorem vq_o {f : Nat → Int32} {W H A B : Nat} {c : Int32} (hA : A < W) (hB : B < H) (hW : W ≤ 6) (hH : H ≤ 6) : vq_ot f W H (nI A) (nI B) c = if f (B * 6 + A) = c then 0 else 1 := by
  unfold vq_ot
  rw [nI_toInt (show A < 2 ^ 31 by omega), nI_toInt (show B < 2 ^ 31 by omega), if_pos (by omega)]
  rfl
theorem vq_o5 {f : Nat → Int32} {W H A B : Nat} {c : Int32} (hA : A < W) (hB : B < H) (hW : W ≤ 6) (hH : H ≤ 6) (h : f (B * 6 + A) = c) : 0 = vq_ot f W H (nI A) (nI B) c := by
  rw [vq_o hA hB hW hH, if_pos h]
theorem vq_o6 {f : Nat → Int32} {W H A B : Nat} {c : Int32} (hA : A < W) (hB : B < H) (hW : W ≤ 6) (hH : H ≤ 6) (h : ¬ f (B * 6 + A) = c) : 1 = vq_ot f W H (nI A) (nI B) c := by
  rw [vq_o hA hB hW hH, if_neg h]
theorem vq_ot_eq {f g : Nat → Int32} {W H : Nat} (hW : W ≤ 6) (hH : H ≤ 6) (h : ∀ i, i < 36 → f i = g i) (a b c : Int32) : vq_ot f W H a b c = vq_ot g W H a b c := by
  unfold vq_ot
  by_cases q : 0 ≤ a.toInt ∧ a.toInt < (W : Int) ∧ 0 ≤ b.toInt ∧ b.toInt < (H : Int)
  · rw [if_pos q, if_pos q, h (b.toInt.toNat * 6 + a.toInt.toNat) (by omega)]
  · rw [if_neg q, if_neg q]
noncomputable def vq_ed (f : Nat → Int32) (W H I J : Nat) (c : Int32) : Int32 := if vq_ot f W H (nI I - 1) (nI J) c = 0 then (if vq_ot f W H (nI I + 1) (nI J) c = 0 then (if vq_ot f W H (nI I) (nI J - 1) c = 0 then (if vq_ot f W H (nI I) (nI J + 1) c = 0 then 0 else 1) else 1) else 1) else 1
theorem vq_ed_eq {f g : Nat → Int32} {W H : Nat} (hW : W ≤ 6) (hH : H ≤ 6) (h : ∀ i, i < 36 → f i = g i) (I J : Nat) (c : Int32) : vq_ed f W H I J c = vq_ed g W H I J c := by
  unfold vq_ed
  rw [vq_ot_eq hW hH h, vq_ot_eq hW hH h, vq_ot_eq hW hH h, vq_ot_eq hW hH h]
theorem vq_m1 {I : Nat} (h : I = 0) : nI I - 1 = -1 := by
  subst h
  decide
/-! folds and sums -/
noncomputable def vq_fold {α : Type} (g : Int32 → α → α) (o : Int32 → Prop) [DecidablePred o] : Nat → Int32 → α → α
  | 0, _, s => s
  | n + 1, x, s => if o x then s else vq_fold g o n (x + 1) (g x s)
theorem vq_fold_out {α : Type} {g : Int32 → α → α} {o : Int32 → Prop} [DecidablePred o] {n : Nat} {x : Int32} {s : α} (h : o x) : vq_fold g o n x s = s := by
  cases n with
  | zero => rfl
  | succ n => exact if_pos h
theorem vq_fold_in {α : Type} {g : Int32 → α → α} {o : Int32 → Prop} [DecidablePred o] {n : Nat} {x : Int32} {s s' : α} (h : ¬ o x) (e : g x s = s') : vq_fold g o (n + 1) x s = vq_fold g o n (x + 1) s' := by
  rw [← e]
  exact if_neg h
noncomputable def vq_fn {α : Type} (g : Nat → α → α) : Nat → Nat → α → α
  | 0, _, s => s
  | n + 1, k, s => vq_fn g n (k + 1) (g k s)
theorem vq_fn_in {α : Type} {g : Nat → α → α} {n k : Nat} {s s' : α} (e : g k s = s') : vq_fn g (n + 1) k s = vq_fn g n (k + 1) s' := by
  rw [← e]
  rfl
noncomputable def vq_sum : Nat → (Nat → Int32) → Int32
  | 0, _ => 0
  | n + 1, f => f 0 + vq_sum n (fun k => f (k + 1))
theorem vq_alc (a b c : Int32) : a + (b + c) = b + (a + c) := by rw [← Int32.add_assoc, Int32.add_comm a b, Int32.add_assoc]
theorem vq_sum_add : ∀ (n : Nat) (f g : Nat → Int32), vq_sum n (fun k => f k + g k) = vq_sum n f + vq_sum n g := by
  intro n
  induction n with
  | zero =>
    intro f g
    rfl
  | succ n ih =>
    intro f g
    show f 0 + g 0 + vq_sum n (fun k => f (k + 1) + g (k + 1)) = f 0 + vq_sum n (fun k => f (k + 1)) + (g 0 + vq_sum n (fun k => g (k + 1)))
    rw [ih (fun k => f (k + 1)) (fun k => g (k + 1)), Int32.add_assoc, Int32.add_assoc, vq_alc (g 0)]
theorem vq_sum_0 : ∀ n : Nat, vq_sum n (fun _ => 0) = 0 := by
  intro n
  induction n with
  | zero => rfl
  | succ n ih =>
    show 0 + vq_sum n (fun _ => 0) = 0
    rw [ih]
    rfl
theorem vq_sum_comm : ∀ (n m : Nat) (F : Nat → Nat → Int32), vq_sum n (fun i => vq_sum m (fun j => F i j)) = vq_sum m (fun j => vq_sum n (fun i => F i j)) := by
  intro n
  induction n with
  | zero =>
    intro m F
    exact (vq_sum_0 m).symm
  | succ n ih =>
    intro m F
    show vq_sum m (fun j => F 0 j) + vq_sum n (fun i => vq_sum m (fun j => F (i + 1) j)) = vq_sum m (fun j => F 0 j + vq_sum n (fun i => F (i + 1) j))
    rw [ih m (fun i j => F (i + 1) j), vq_sum_add]
theorem vq_sum_ex {n : Nat} {f g : Nat → Int32} (h : ∀ k, f k = g k) : vq_sum n f = vq_sum n g := by
  rw [show f = g from funext h]
theorem vq_x0 (x : Int32) : x + nI 0 = x := by
  rw [show nI 0 = 0 from rfl, Int32.add_zero]
theorem vq_x1 (x : Int32) (k : Nat) : x + 1 + nI k = x + nI (k + 1) := by
  rw [nI_succ k, Int32.add_assoc, Int32.add_comm 1]
theorem vq_fold_sum (h : Int32 → Int32) {e : Int32} (he : e.toInt < 2147483647) : ∀ (n : Nat) (x s : Int32), x.toInt + (n : Int) ≤ e.toInt + 1 → vq_fold (fun y t => t + h y) (fun y => e < y) n x s = s + vq_sum n (fun k => h (x + nI k)) := by
  intro n
  induction n with
  | zero =>
    intro x s _
    show s = s + 0
    rw [Int32.add_zero]
  | succ n ih =>
    intro x s hx
    have h1 : ¬ e < x := fun q => by
      have := Int32.lt_iff_toInt_lt.mp q
      omega
    have h2 : (x + 1).toInt = x.toInt + 1 := by
      have hl := Int32.le_toInt x
      have e1 : (1 : Int32).toInt = 1 := by decide
      rw [sm_add (by rw [e1]; omega) (by rw [e1]; omega), e1]
    rw [vq_fold_in (g := fun y t => t + h y) (o := fun y => e < y) (s' := s + h x) h1 rfl, ih (x + 1) (s + h x) (by omega)]
    show s + h x + vq_sum n (fun k => h (x + 1 + nI k)) = s + (h (x + nI 0) + vq_sum n (fun k => h (x + nI (k + 1))))
    rw [vq_x0, Int32.add_assoc, vq_sum_ex (fun k => by rw [vq_x1])]
/-! cells of a colour around one -/
noncomputable def vq_is (f : Nat → Int32) (W H : Nat) (a b c : Int32) : Int32 := if 0 ≤ a.toInt ∧ a.toInt < (W : Int) ∧ 0 ≤ b.toInt ∧ b.toInt < (H : Int) then (if f (b.toInt.toNat * 6 + a.toInt.toNat) = c then 1 else 0) else 0
theorem vq_s {f : Nat → Int32} {W H : Nat} {a b c s : Int32} (h : ¬ (0 ≤ a.toInt ∧ a.toInt < (W : Int) ∧ 0 ≤ b.toInt ∧ b.toInt < (H : Int))) : s + vq_is f W H a b c = s := by
  unfold vq_is
  rw [if_neg h, Int32.add_zero]
theorem vq_s0 {f : Nat → Int32} {W H : Nat} {a b c s : Int32} (h : W = 0) : s + vq_is f W H a b c = s := vq_s (by omega)
theorem vq_s1 {f : Nat → Int32} {W H : Nat} {a b c s : Int32} (h : a < 0) : s + vq_is f W H a b c = s := by
  have h2 : a.toInt < 0 := Int32.lt_iff_toInt_lt.mp h
  exact vq_s (by omega)
theorem vq_s2 {f : Nat → Int32} {W H A : Nat} {b c s : Int32} (hA : A < 2 ^ 31) (h : W ≤ A) : s + vq_is f W H (nI A) b c = s := by
  have h2 := nI_toInt hA
  exact vq_s (by omega)
theorem vq_s3 {f : Nat → Int32} {W H : Nat} {a b c s : Int32} (h : b < 0) : s + vq_is f W H a b c = s := by
  have h2 : b.toInt < 0 := Int32.lt_iff_toInt_lt.mp h
  exact vq_s (by omega)
theorem vq_s4 {f : Nat → Int32} {W H B : Nat} {a c s : Int32} (hB : B < 2 ^ 31) (h : H ≤ B) : s + vq_is f W H a (nI B) c = s := by
  have h2 := nI_toInt hB
  exact vq_s (by omega)
theorem vq_i {f : Nat → Int32} {W H A B : Nat} {c : Int32} (hA : A < W) (hB : B < H) (hW : W ≤ 6) (hH : H ≤ 6) : vq_is f W H (nI A) (nI B) c = if f (B * 6 + A) = c then 1 else 0 := by
  unfold vq_is
  rw [nI_toInt (show A < 2 ^ 31 by omega), nI_toInt (show B < 2 ^ 31 by omega), if_pos (by omega)]
  rfl
theorem vq_s5 {f : Nat → Int32} {W H A B : Nat} {c s : Int32} (hA : A < W) (hB : B < H) (hW : W ≤ 6) (hH : H ≤ 6) (h : f (B * 6 + A) = c) : s + vq_is f W H (nI A) (nI B) c = s + 1 := by
  rw [vq_i hA hB hW hH, if_pos h]
theorem vq_s6 {f : Nat → Int32} {W H A B : Nat} {c s : Int32} (hA : A < W) (hB : B < H) (hW : W ≤ 6) (hH : H ≤ 6) (h : ¬ f (B * 6 + A) = c) : s + vq_is f W H (nI A) (nI B) c = s := by
  rw [vq_i hA hB hW hH, if_neg h, Int32.add_zero]
theorem vq_is_eq {f g : Nat → Int32} {W H : Nat} (hW : W ≤ 6) (hH : H ≤ 6) (h : ∀ i, i < 36 → f i = g i) (a b c : Int32) : vq_is f W H a b c = vq_is g W H a b c := by
  unfold vq_is
  by_cases q : 0 ≤ a.toInt ∧ a.toInt < (W : Int) ∧ 0 ≤ b.toInt ∧ b.toInt < (H : Int)
  · rw [if_pos q, if_pos q, h (b.toInt.toNat * 6 + a.toInt.toNat) (by omega)]
  · rw [if_neg q, if_neg q]
noncomputable def vq_fu (x d : Int32) : Nat := ((x + d).toInt - (x - d).toInt + 1).toNat
/-- row by row, and column by column -/
noncomputable def vq_ac (f : Nat → Int32) (W H : Nat) (i j d c : Int32) : Int32 := vq_fold (fun b s => vq_fold (fun a s => s + vq_is f W H a b c) (fun a => i + d < a) (vq_fu i d) (i - d) s) (fun b => j + d < b) (vq_fu j d) (j - d) 0
noncomputable def vq_ar (f : Nat → Int32) (W H : Nat) (i j d c : Int32) : Int32 := vq_fold (fun a s => vq_fold (fun b s => s + vq_is f W H a b c) (fun b => j + d < b) (vq_fu j d) (j - d) s) (fun a => i + d < a) (vq_fu i d) (i - d) 0
theorem vq_fu_le {x d : Int32} (hx : sm_B 1000 x) (hd : sm_B 1000 d) (h0 : 0 ≤ d.toInt) : (x - d).toInt + (vq_fu x d : Int) ≤ (x + d).toInt + 1 ∧ (x + d).toInt < 2147483647 := by
  obtain ⟨x1, x2⟩ := hx
  obtain ⟨d1, d2⟩ := hd
  have e1 : (x + d).toInt = x.toInt + d.toInt := sm_add (by omega) (by omega)
  have e2 : (x - d).toInt = x.toInt - d.toInt := sm_sub (by omega) (by omega)
  unfold vq_fu
  omega
theorem vq_ac_ar {f : Nat → Int32} {W H : Nat} {i j d c : Int32} (hi : sm_B 1000 i) (hj : sm_B 1000 j) (hd : sm_B 1000 d) (h0 : 0 ≤ d.toInt) : vq_ac f W H i j d c = vq_ar f W H i j d c := by
  obtain ⟨i1, i2⟩ := vq_fu_le hi hd h0
  obtain ⟨j1, j2⟩ := vq_fu_le hj hd h0
  unfold vq_ac vq_ar
  rw [show (fun b s => vq_fold (fun a s => s + vq_is f W H a b c) (fun a => i + d < a) (vq_fu i d) (i - d) s) = fun b s => s + vq_sum (vq_fu i d) (fun k => vq_is f W H (i - d + nI k) b c) from funext fun b => funext fun s => vq_fold_sum (fun a => vq_is f W H a b c) i2 _ _ _ i1]
  rw [show (fun a s => vq_fold (fun b s => s + vq_is f W H a b c) (fun b => j + d < b) (vq_fu j d) (j - d) s) = fun a s => s + vq_sum (vq_fu j d) (fun k => vq_is f W H a (j - d + nI k) c) from funext fun a => funext fun s => vq_fold_sum (fun b => vq_is f W H a b c) j2 _ _ _ j1]
  rw [vq_fold_sum (fun b => vq_sum (vq_fu i d) (fun k => vq_is f W H (i - d + nI k) b c)) j2 _ _ _ j1, vq_fold_sum (fun a => vq_sum (vq_fu j d) (fun k => vq_is f W H a (j - d + nI k) c)) i2 _ _ _ i1]
  rw [vq_sum_comm]
theorem vq_ar_eq {f g : Nat → Int32} {W H : Nat} (hW : W ≤ 6) (hH : H ≤ 6) (h : ∀ i, i < 36 → f i = g i) (i j d c : Int32) : vq_ar f W H i j d c = vq_ar g W H i j d c := by
  unfold vq_ar
  have e : ∀ a b, vq_is f W H a b c = vq_is g W H a b c := fun a b => vq_is_eq hW hH h a b c
  simp only [e]
/-! the best -/
noncomputable def vq_su (n p : Int32) (s : Int32 × Int32) : Int32 × Int32 := if s.1 < n then (n, p) else s
theorem vq_su0 {n p a b : Int32} (h : ¬ a < n) : vq_su n p (a, b) = (a, b) := if_neg h
theorem vq_su1 {n p a b : Int32} (h : a < n) : vq_su n p (a, b) = (n, p) := if_pos h
/-! fair: the most and the fewest, the greatest in both -/
noncomputable def vq_mm (n : Int32) (s : Int32 × Int32) : Int32 × Int32 := (sm_max s.1 n, sm_min s.2 n)
theorem vq_mm1 {n x y x' y' : Int32} (h1 : sm_max x n = x') (h2 : sm_min y n = y') : vq_mm n (x, y) = (x', y') := by
  unfold vq_mm
  rw [← h1, ← h2]
theorem vq_max1 {x n : Int32} (h : x < n) : sm_max x n = n := if_pos h
theorem vq_max0 {x n : Int32} (h : ¬ x < n) : sm_max x n = x := if_neg h
theorem vq_min1 {x n : Int32} (h : n < x) : sm_min x n = n := if_pos h
theorem vq_min0 {x n : Int32} (h : ¬ n < x) : sm_min x n = x := if_neg h
theorem vq_sum_split : ∀ (p q : Nat) (g : Nat → Int32), vq_sum (p + q) g = vq_sum p g + vq_sum q (fun k => g (p + k)) := by
  intro p
  induction p with
  | zero =>
    intro q g
    rw [Nat.zero_add, show (fun k => g (0 + k)) = g from funext fun k => by rw [Nat.zero_add]]
    exact (Int32.zero_add _).symm
  | succ p ih =>
    intro q g
    rw [show p + 1 + q = (p + q) + 1 by omega]
    show g 0 + vq_sum (p + q) (fun k => g (k + 1)) = g 0 + vq_sum p (fun k => g (k + 1)) + vq_sum q (fun k => g (p + 1 + k))
    rw [ih q (fun k => g (k + 1)), Int32.add_assoc, show (fun k => g (p + k + 1)) = fun k => g (p + 1 + k) from funext fun k => by rw [show p + k + 1 = p + 1 + k by omega]]
theorem vq_sum_z : ∀ (n : Nat) (g : Nat → Int32), (∀ k, k < n → g k = 0) → vq_sum n g = 0 := by
  intro n
  induction n with
  | zero =>
    intro g _
    rfl
  | succ n ih =>
    intro g h
    show g 0 + vq_sum n (fun k => g (k + 1)) = 0
    rw [h 0 (by omega), ih (fun k => g (k + 1)) (fun k hk => h (k + 1) (by omega))]
    rfl
theorem vq_sum_le {M : Nat} (hM : M ≤ 6) : ∀ (n : Nat) (g : Nat → Int32), n ≤ 20 → (∀ k, k < n → 0 ≤ (g k).toInt ∧ (g k).toInt ≤ (M : Int)) → 0 ≤ (vq_sum n g).toInt ∧ (vq_sum n g).toInt ≤ ((n * M : Nat) : Int) := by
  intro n
  induction n with
  | zero =>
    intro g _ _
    have e : (vq_sum 0 g).toInt = 0 := by
      show (0 : Int32).toInt = 0
      decide
    rw [e]
    omega
  | succ n ih =>
    intro g hn h
    obtain ⟨i1, i2⟩ := ih (fun k => g (k + 1)) (by omega) (fun k hk => h (k + 1) (by omega))
    obtain ⟨h1, h2⟩ := h 0 (by omega)
    have h3 : n * M ≤ 20 * 6 := Nat.mul_le_mul (by omega) hM
    have h4 : (n + 1) * M = n * M + M := Nat.succ_mul n M
    have e : (vq_sum (n + 1) g).toInt = (g 0).toInt + (vq_sum n (fun k => g (k + 1))).toInt := by
      show (g 0 + vq_sum n (fun k => g (k + 1))).toInt = _
      exact sm_add (by omega) (by omega)
    rw [e, h4]
    omega
theorem vq_sum13 {M : Nat} (hM : M ≤ 6) (g : Nat → Int32) (h : ∀ k, k < 13 → 0 ≤ (g k).toInt ∧ (g k).toInt ≤ (M : Int)) (hz : ∀ k, k < 6 ∨ k = 12 → g k = 0) : 0 ≤ (vq_sum 13 g).toInt ∧ (vq_sum 13 g).toInt ≤ ((6 * M : Nat) : Int) := by
  have e : vq_sum 13 g = vq_sum 6 (fun k => g (6 + k)) := by
    rw [show (13 : Nat) = 6 + (6 + 1) from rfl, vq_sum_split 6 (6 + 1) g, vq_sum_split 6 1 (fun k => g (6 + k)), vq_sum_z 6 g (fun k hk => hz k (Or.inl hk)), vq_sum_z 1 (fun k => g (6 + (6 + k))) (fun k hk => hz _ (Or.inr (by omega))), Int32.zero_add, Int32.add_zero]
  rw [e]
  exact vq_sum_le hM 6 _ (by decide) (fun k hk => h (6 + k) (by omega))
theorem vq_c6 {k : Nat} (hk : k < 13) : ((0 : Int32) - 6 + nI k).toInt = (k : Int) - 6 := by
  have e1 : ((0 : Int32) - 6).toInt = -6 := by decide
  have e2 := nI_toInt (show k < 2 ^ 31 by omega)
  rw [sm_add (by omega) (by omega), e1, e2]
  omega
theorem vq_is01 {f : Nat → Int32} {W H : Nat} {x y c : Int32} : 0 ≤ (vq_is f W H x y c).toInt ∧ (vq_is f W H x y c).toInt ≤ ((1 : Nat) : Int) := by
  have e0 : (0 : Int32).toInt = 0 := by decide
  have e1 : (1 : Int32).toInt = 1 := by decide
  unfold vq_is
  split
  · split
    · rw [e1]
      omega
    · rw [e0]
      omega
  · rw [e0]
    omega
theorem vq_isz {f : Nat → Int32} {W H : Nat} {x y c : Int32} (h : ¬ (0 ≤ x.toInt ∧ x.toInt < (W : Int) ∧ 0 ≤ y.toInt ∧ y.toInt < (H : Int))) : vq_is f W H x y c = 0 := if_neg h
theorem vq_fu6 : vq_fu 0 6 = 13 := by decide
theorem vq_ar36 {f : Nat → Int32} {W H : Nat} (hW : W ≤ 6) (hH : H ≤ 6) (c : Int32) : 0 ≤ (vq_ar f W H 0 0 6 c).toInt ∧ (vq_ar f W H 0 0 6 c).toInt ≤ 36 := by
  have hB0 : sm_B 1000 (0 : Int32) := by
    unfold sm_B
    decide
  have hB6 : sm_B 1000 (6 : Int32) := by
    unfold sm_B
    decide
  obtain ⟨i1, i2⟩ := vq_fu_le hB0 hB6 (by decide)
  have e : vq_ar f W H 0 0 6 c = 0 + vq_sum 13 (fun k => vq_sum 13 (fun l => vq_is f W H (0 - 6 + nI k) (0 - 6 + nI l) c)) := by
    unfold vq_ar
    rw [show (fun x s => vq_fold (fun y s => s + vq_is f W H x y c) (fun y => 0 + 6 < y) (vq_fu 0 6) (0 - 6) s) = fun x s => s + vq_sum (vq_fu 0 6) (fun k => vq_is f W H x (0 - 6 + nI k) c) from funext fun x => funext fun s => vq_fold_sum (fun y => vq_is f W H x y c) i2 _ _ _ i1]
    rw [vq_fold_sum (fun x => vq_sum (vq_fu 0 6) (fun k => vq_is f W H x (0 - 6 + nI k) c)) i2 _ _ _ i1, vq_fu6]
  rw [e, Int32.zero_add]
  have hin : ∀ x, 0 ≤ (vq_sum 13 (fun l => vq_is f W H x (0 - 6 + nI l) c)).toInt ∧ (vq_sum 13 (fun l => vq_is f W H x (0 - 6 + nI l) c)).toInt ≤ ((6 * 1 : Nat) : Int) := fun x => vq_sum13 (by decide) _ (fun k _ => vq_is01) (fun k hk => vq_isz (by rw [vq_c6 (show k < 13 by omega)]; omega))
  have h := vq_sum13 (M := 6) (by decide) (fun k => vq_sum 13 (fun l => vq_is f W H (0 - 6 + nI k) (0 - 6 + nI l) c)) (fun k _ => hin _) (fun k hk => vq_sum_z 13 _ (fun l _ => vq_isz (by rw [vq_c6 (show k < 13 by omega)]; omega)))
  omega
theorem vq_min36 {n : Int32} (h : n.toInt ≤ 36) : sm_min 99 n = sm_min 36 n := by
  have e1 : (99 : Int32).toInt = 99 := by decide
  have e2 : (36 : Int32).toInt = 36 := by decide
  have q1 : sm_min 99 n = n := vq_min1 (Int32.lt_iff_toInt_lt.mpr (by omega))
  rw [q1]
  by_cases q : n < 36
  · rw [vq_min1 q]
  · rw [vq_min0 q]
    have q2 : ¬ n.toInt < (36 : Int32).toInt := fun z => q (Int32.lt_iff_toInt_lt.mpr z)
    exact Int32.toInt_inj.mp (by omega)
theorem vq_fair0 {f : Nat → Int32} {W H N : Nat} (hW : W ≤ 6) (hH : H ≤ 6) (hN : 0 < N) : vq_fn (fun ii s => vq_mm (vq_ar f W H 0 0 6 (nI ii)) s) N 0 (0, 99) = vq_fn (fun ii s => vq_mm (vq_ar f W H 0 0 6 (nI ii)) s) N 0 (0, 36) := by
  obtain ⟨M, rfl⟩ : ∃ M, N = M + 1 := ⟨N - 1, by omega⟩
  show vq_fn _ M (0 + 1) (vq_mm (vq_ar f W H 0 0 6 (nI 0)) (0, 99)) = vq_fn _ M (0 + 1) (vq_mm (vq_ar f W H 0 0 6 (nI 0)) (0, 36))
  rw [show vq_mm (vq_ar f W H 0 0 6 (nI 0)) (0, 99) = vq_mm (vq_ar f W H 0 0 6 (nI 0)) (0, 36) from vq_mm1 rfl (vq_min36 (vq_ar36 hW hH _).2)]
noncomputable def vq_gl : Nat → Int32 → Int32 → Int32
  | 0, x, _ => x
  | n + 1, x, y => if y = 0 then x else vq_gl n y (x - x / y * y)
theorem vq_gl0 {n : Nat} {x y : Int32} (h : y = 0) : vq_gl n x y = x := by
  cases n with
  | zero => rfl
  | succ n => exact if_pos h
theorem vq_gl1 {n : Nat} {x y : Int32} (h : ¬ y = 0) : vq_gl (n + 1) x y = vq_gl n y (x - x / y * y) := if_neg h
theorem vq_gl_nz : ∀ (n : Nat) (x y : Int32), ¬ x = 0 → ¬ vq_gl n x y = 0 := by
  intro n
  induction n with
  | zero =>
    intro x y h
    exact h
  | succ n ih =>
    intro x y h
    by_cases q : y = 0
    · rw [vq_gl0 q]
      exact h
    · rw [vq_gl1 q]
      exact ih _ _ q
theorem vq_gl_nz2 {n : Nat} {x y : Int32} (h : ¬ y = 0) : ¬ vq_gl (n + 1) x y = 0 := by
  rw [vq_gl1 h]
  exact vq_gl_nz n _ _ h
/-! seen: sums of cells -/
theorem vq_e0 {s e : Int32} (h : e = 0) : s + e = s := by rw [h, Int32.add_zero]
theorem vq_ed01 {f : Nat → Int32} {W H I J : Nat} {c : Int32} (h : ¬ vq_ed f W H I J c = 0) : vq_ed f W H I J c = 1 := by
  unfold vq_ed at h ⊢
  split
  · rename_i h1
    rw [if_pos h1] at h
    split
    · rename_i h2
      rw [if_pos h2] at h
      split
      · rename_i h3
        rw [if_pos h3] at h
        split
        · rename_i h4
          rw [if_pos h4] at h
          exact absurd rfl h
        · rfl
      · rfl
    · rfl
  · rfl
theorem vq_e1 {f : Nat → Int32} {W H I J : Nat} {c s : Int32} (h : ¬ vq_ed f W H I J c = 0) : s + vq_ed f W H I J c = s + 1 := by rw [vq_ed01 h]
theorem vq_fn_sum (h : Nat → Int32) : ∀ (n k : Nat) (s : Int32), vq_fn (fun k s => s + h k) n k s = s + vq_sum n (fun i => h (k + i)) := by
  intro n
  induction n with
  | zero =>
    intro k s
    exact (Int32.add_zero s).symm
  | succ n ih =>
    intro k s
    show vq_fn (fun k s => s + h k) n (k + 1) (s + h k) = s + (h k + vq_sum n (fun i => h (k + (i + 1))))
    rw [ih (k + 1) (s + h k), Int32.add_assoc, show (fun i => h (k + 1 + i)) = fun i => h (k + (i + 1)) from funext fun i => by rw [show k + 1 + i = k + (i + 1) by omega]]
theorem vq_fn_sum0 (h : Nat → Int32) (n : Nat) (s : Int32) : vq_fn (fun k s => s + h k) n 0 s = s + vq_sum n h := by
  rw [vq_fn_sum h n 0 s, show (fun i => h (0 + i)) = h from funext fun i => by rw [Nat.zero_add]]
theorem vq_dbl (E : Nat → Nat → Int32) (W H : Nat) (s : Int32) : vq_fn (fun j s => vq_fn (fun i s => s + E i j) W 0 s) H 0 s = s + vq_sum H (fun j => vq_sum W (fun i => E i j)) := by
  rw [show (fun j s => vq_fn (fun i s => s + E i j) W 0 s) = fun j s => s + vq_sum W (fun i => E i j) from funext fun j => funext fun s => vq_fn_sum0 (fun i => E i j) W s]
  exact vq_fn_sum0 (fun j => vq_sum W (fun i => E i j)) H s
theorem vq_sum_eq : ∀ (n : Nat) (f g : Nat → Int32), (∀ k, k < n → f k = g k) → vq_sum n f = vq_sum n g := by
  intro n
  induction n with
  | zero =>
    intro f g _
    rfl
  | succ n ih =>
    intro f g h
    show f 0 + vq_sum n (fun k => f (k + 1)) = g 0 + vq_sum n (fun k => g (k + 1))
    rw [h 0 (Nat.succ_pos n), ih (fun k => f (k + 1)) (fun k => g (k + 1)) (fun k hk => h (k + 1) (Nat.succ_lt_succ hk))]
theorem vq_sum_last : ∀ (n : Nat) (f : Nat → Int32), vq_sum (n + 1) f = vq_sum n f + f n := by
  intro n
  induction n with
  | zero =>
    intro f
    show f 0 + 0 = 0 + f 0
    rw [Int32.add_zero, Int32.zero_add]
  | succ n ih =>
    intro f
    show f 0 + vq_sum (n + 1) (fun k => f (k + 1)) = f 0 + vq_sum n (fun k => f (k + 1)) + f (n + 1)
    rw [ih (fun k => f (k + 1)), Int32.add_assoc]
/-- rows then columns, the other way round -/
theorem vq_swap {E E' : Nat → Nat → Int32} {W H : Nat} (h : ∀ i j, i < W → j < H → E' i j = E i j) : vq_fn (fun i s => vq_fn (fun j s => s + E' i j) H 0 s) W 0 0 = vq_fn (fun j s => vq_fn (fun i s => s + E i j) W 0 s) H 0 0 := by
  rw [vq_dbl E W H 0, vq_dbl (fun j i => E' i j) H W 0, vq_sum_comm W H E',
    vq_sum_eq H (fun j => vq_sum W (fun i => E' i j)) (fun j => vq_sum W (fun i => E i j)) (fun j hj => vq_sum_eq W (fun i => E' i j) (fun i => E i j) (fun i hi => h i j hi hj))]
/-- squares: one row and one column less -/
theorem vq_less {f : Nat → Int32} {W : Nat} (hW : 1 ≤ W) (h : ∀ i, W ≤ i + 1 → f i = 0) : vq_sum W f = vq_sum (W - 1) f := by
  obtain ⟨n, rfl⟩ : ∃ n, W = n + 1 := ⟨W - 1, by omega⟩
  rw [vq_sum_last n f, h n (by omega), Int32.add_zero]
  rfl
theorem vq_swap1 {E E' : Nat → Nat → Int32} {W H : Nat} (hW : 1 ≤ W) (hH : 1 ≤ H) (h : ∀ i j, i + 1 < W → j + 1 < H → E' i j = E i j) (h0 : ∀ i j, W ≤ i + 1 ∨ H ≤ j + 1 → E' i j = 0) : vq_fn (fun i s => vq_fn (fun j s => s + E' i j) H 0 s) W 0 0 = vq_fn (fun j s => vq_fn (fun i s => s + E i j) (W - 1) 0 s) (H - 1) 0 0 := by
  rw [vq_dbl E (W - 1) (H - 1) 0, vq_dbl (fun j i => E' i j) H W 0, vq_sum_comm W H E']
  rw [vq_less hH (fun j hj => vq_sum_z W _ (fun i _ => h0 i j (Or.inr hj)))]
  rw [vq_sum_eq (H - 1) (fun j => vq_sum W (fun i => E' i j)) (fun j => vq_sum (W - 1) (fun i => E i j)) (fun j hj => (vq_less hW (fun i hi => h0 i j (Or.inl hi))).trans (vq_sum_eq (W - 1) (fun i => E' i j) (fun i => E i j) (fun i hi => h i j (by omega) (by omega))))]
/-! finer -/
noncomputable def vq_pt (w : mz_M) (x y c : Int32) : Int32 := if sm_bI (sm_plc x y) = 0 then 0 else if sm_end w (w 7 5) x y 0 0 = c then 0 else 1
theorem vq_pt1 {w : mz_M} {x y c s : Int32} (h : sm_bI (sm_plc x y) = 0) : s + vq_pt w x y c = s := by
  unfold vq_pt
  rw [if_pos h, Int32.add_zero]
theorem vq_pt2 {w : mz_M} {x y c s : Int32} (h1 : ¬ sm_bI (sm_plc x y) = 0) (h : sm_end w (w 7 5) x y 0 0 = c) : s + vq_pt w x y c = s := by
  unfold vq_pt
  rw [if_neg h1, if_pos h, Int32.add_zero]
theorem vq_pt3 {w : mz_M} {x y c s : Int32} (h1 : ¬ sm_bI (sm_plc x y) = 0) (h : ¬ sm_end w (w 7 5) x y 0 0 = c) : s + vq_pt w x y c = s + 1 := by
  unfold vq_pt
  rw [if_neg h1, if_neg h]
/-- the three places of a cell -/
noncomputable def vq_f3 (w : mz_M) (x y h c : Int32) : Int32 := vq_pt w (x + h) (y + 0) c + (vq_pt w (x + 0) (y + h) c + vq_pt w (x + h) (y + h) c)
theorem vq_f3a {w : mz_M} {x y h c s : Int32} : s + vq_f3 w x y h c = s + vq_pt w (x + h) (y + 0) c + vq_pt w (x + 0) (y + h) c + vq_pt w (x + h) (y + h) c := by
  unfold vq_f3
  rw [Int32.add_assoc, Int32.add_assoc]
noncomputable def vq_fc (w : mz_M) (W H I J : Nat) : Int32 := if vq_ed (w 21) W H I J (w 21 ((J * 6) + I)) = 0 then 0 else vq_f3 w ((w 20 0) + ((nI I) * (w 20 4))) ((w 20 1) + ((nI J) * (w 20 4))) ((w 20 4) / 2) (w 21 ((J * 6) + I))
theorem vq_fc0 {w : mz_M} {W H I J : Nat} {s : Int32} (h : vq_ed (w 21) W H I J (w 21 ((J * 6) + I)) = 0) : s + vq_fc w W H I J = s := by
  unfold vq_fc
  rw [if_pos h, Int32.add_zero]
theorem vq_fc1 {w : mz_M} {W H I J : Nat} {s : Int32} (h : ¬ vq_ed (w 21) W H I J (w 21 ((J * 6) + I)) = 0) : s + vq_fc w W H I J = s + vq_f3 w ((w 20 0) + ((nI I) * (w 20 4))) ((w 20 1) + ((nI J) * (w 20 4))) ((w 20 4) / 2) (w 21 ((J * 6) + I)) := by
  unfold vq_fc
  rw [if_neg h]
/-! squares of two by two, and sets of colours -/
noncomputable def vq_n1 (x a : Int32) : Int32 := if x = a then 0 else 1
noncomputable def vq_n2 (x a b : Int32) : Int32 := if x = a then 0 else vq_n1 x b
noncomputable def vq_n3 (x a b c : Int32) : Int32 := if x = a then 0 else vq_n2 x b c
theorem vq_n1t {x a : Int32} (h : x = a) : vq_n1 x a = 0 := if_pos h
theorem vq_n1f {x a : Int32} (h : ¬ x = a) : vq_n1 x a = 1 := if_neg h
theorem vq_n2t {x a b : Int32} (h : x = a) : vq_n2 x a b = 0 := if_pos h
theorem vq_n2f {x a b z : Int32} (h : ¬ x = a) (e : vq_n1 x b = z) : vq_n2 x a b = z := (if_neg h).trans e
theorem vq_n3t {x a b c : Int32} (h : x = a) : vq_n3 x a b c = 0 := if_pos h
theorem vq_n3f {x a b c z : Int32} (h : ¬ x = a) (e : vq_n2 x b c = z) : vq_n3 x a b c = z := (if_neg h).trans e
noncomputable def vq_sq (a b c d : Int32) : Int32 := 1 + vq_n1 b a + vq_n2 c a b + vq_n3 d a b c
theorem vq_sqE {a b c d x y z v : Int32} (h1 : vq_n1 b a = x) (h2 : vq_n2 c a b = y) (h3 : vq_n3 d a b c = z) (e : 1 + x + y + z = v) : vq_sq a b c d = v := by
  unfold vq_sq
  rw [h1, h2, h3]
  exact e
noncomputable def vq_t3 (v : Int32) : Int32 := if v < 3 then 0 else 1
theorem vq_t3a {v s : Int32} (h : v < 3) : s + vq_t3 v = s := by
  unfold vq_t3
  rw [if_pos h, Int32.add_zero]
theorem vq_t3b {v s : Int32} (h : ¬ v < 3) : s + vq_t3 v = s + 1 := by
  unfold vq_t3
  rw [if_neg h]
theorem nI_or (x y : Nat) : nI x ||| nI y = nI (x ||| y) := Int32.toBitVec_inj.mp (BitVec.ofNat_or (w := 32) (x := x) (y := y)).symm
theorem nI_and (x y : Nat) : nI x &&& nI y = nI (x &&& y) := Int32.toBitVec_inj.mp (BitVec.ofNat_and (w := 32) (x := x) (y := y)).symm
theorem nI_bit {k : Nat} (h : k ≤ 9) : (1 : Int32) <<< (nI k &&& 31) = nI (2 ^ k) := by
  rcases (show k = 0 ∨ k = 1 ∨ k = 2 ∨ k = 3 ∨ k = 4 ∨ k = 5 ∨ k = 6 ∨ k = 7 ∨ k = 8 ∨ k = 9 by omega) with rfl | rfl | rfl | rfl | rfl | rfl | rfl | rfl | rfl | rfl <;> decide
/-- how many bits are set, one after the other -/
noncomputable def vq_pl : Nat → Int32 → Int32 → Int32
  | 0, _, n => n
  | f + 1, x, n => if x = 0 then n else vq_pl f (x &&& (x - 1)) (n + 1)
theorem vq_pl0 {f : Nat} {x n : Int32} (h : x = 0) : vq_pl f x n = n := by
  cases f with
  | zero => rfl
  | succ f => exact if_pos h
theorem vq_pl1 {f : Nat} {x n : Int32} (h : ¬ x = 0) : vq_pl (f + 1) x n = vq_pl f (x &&& (x - 1)) (n + 1) := if_neg h
noncomputable def vq_pn : Nat → Nat → Nat → Nat
  | 0, _, n => n
  | f + 1, x, n => if x = 0 then n else vq_pn f (x &&& (x - 1)) (n + 1)
theorem vq_pl_pn : ∀ (f x n : Nat), x < 2 ^ 31 → vq_pl f (nI x) (nI n) = nI (vq_pn f x n) := by
  intro f
  induction f with
  | zero =>
    intro x n _
    rfl
  | succ f ih =>
    intro x n hx
    show (if nI x = 0 then nI n else vq_pl f (nI x &&& (nI x - 1)) (nI n + 1)) = nI (if x = 0 then n else vq_pn f (x &&& (x - 1)) (n + 1))
    by_cases e : x = 0
    · rw [if_pos e, if_pos (show nI x = 0 by rw [e]; rfl)]
    · rw [if_neg e, if_neg (sm_nz (k := x) (by omega)), show nI x - 1 = nI (x - 1) from sm_subN (a := x) (b := 1) rfl rfl (by omega), nI_and, ← nI_succ n]
      exact ih (x &&& (x - 1)) (n + 1) (Nat.lt_of_le_of_lt Nat.and_le_left hx)
/-- how many of ten bits are set -/
noncomputable def vq_tb (x k : Nat) : Nat := if x.testBit k then 1 else 0
noncomputable def vq_ct (x : Nat) : Nat := vq_tb x 0 + vq_tb x 1 + vq_tb x 2 + vq_tb x 3 + vq_tb x 4 + vq_tb x 5 + vq_tb x 6 + vq_tb x 7 + vq_tb x 8 + vq_tb x 9
set_option maxRecDepth 100000 in
theorem vq_pn_ct : ∀ x, x < 1024 → vq_pn 1024 x 0 = vq_ct x := by decide +kernel
/-- bits of cells -/
noncomputable def vq_orr (F : Nat → Nat → Int32) (P Q : Nat) : Int32 := vq_fn (fun a s => vq_fn (fun b s => s ||| (1 <<< (F a b &&& 31))) Q 0 s) P 0 0
theorem vq_or1 {g : Nat → Int32} {B : Nat} (hg : ∀ b, b < B → ∃ V, V ≤ 9 ∧ g b = nI V) : ∀ n k M0 : Nat, k + n ≤ B → M0 < 1024 → ∃ M, M < 1024 ∧ vq_fn (fun b s => s ||| (1 <<< (g b &&& 31))) n k (nI M0) = nI M ∧ ∀ c, c ≤ 9 → (M.testBit c = true ↔ M0.testBit c = true ∨ ∃ b, k ≤ b ∧ b < k + n ∧ g b = nI c) := by
  intro n
  induction n with
  | zero =>
    intro k M0 hk hM
    refine ⟨M0, hM, rfl, fun c hc => ⟨Or.inl, fun h => h.elim id ?_⟩⟩
    rintro ⟨b, h1, h2, -⟩
    omega
  | succ n ih =>
    intro k M0 hk hM
    obtain ⟨V, hV, eV⟩ := hg k (by omega)
    have h2 : 2 ^ V < 2 ^ 10 := Nat.pow_lt_pow_right (by decide) (by omega)
    have h3 : M0 ||| 2 ^ V < 2 ^ 10 := Nat.or_lt_two_pow (show M0 < 2 ^ 10 from hM) h2
    obtain ⟨M, hM2, e, hb⟩ := ih (k + 1) (M0 ||| 2 ^ V) (by omega) h3
    refine ⟨M, hM2, ?_, fun c hc => ?_⟩
    · show vq_fn (fun b s => s ||| (1 <<< (g b &&& 31))) n (k + 1) (nI M0 ||| (1 <<< (g k &&& 31))) = nI M
      rw [eV, nI_bit hV, nI_or]
      exact e
    · rw [hb c hc, Nat.testBit_or, Nat.testBit_two_pow, Bool.or_eq_true, decide_eq_true_eq]
      constructor
      · rintro ((h | h) | ⟨b, h1, h4, h5⟩)
        · exact Or.inl h
        · exact Or.inr ⟨k, by omega, by omega, by rw [eV, h]⟩
        · exact Or.inr ⟨b, by omega, by omega, h5⟩
      · rintro (h | ⟨b, h1, h4, h5⟩)
        · exact Or.inl (Or.inl h)
        · rcases Nat.eq_or_lt_of_le h1 with e1 | e1
          · refine Or.inl (Or.inr ?_)
            rw [← e1, eV] at h5
            exact (nI_eq (show V < 2 ^ 31 by omega) (show c < 2 ^ 31 by omega)).mp h5
          · exact Or.inr ⟨b, by omega, by omega, h5⟩
theorem vq_or2 {F : Nat → Nat → Int32} {P Q : Nat} (hF : ∀ a b, a < P → b < Q → ∃ V, V ≤ 9 ∧ F a b = nI V) : ∀ n k M0 : Nat, k + n ≤ P → M0 < 1024 → ∃ M, M < 1024 ∧ vq_fn (fun a s => vq_fn (fun b s => s ||| (1 <<< (F a b &&& 31))) Q 0 s) n k (nI M0) = nI M ∧ ∀ c, c ≤ 9 → (M.testBit c = true ↔ M0.testBit c = true ∨ ∃ a b, k ≤ a ∧ a < k + n ∧ b < Q ∧ F a b = nI c) := by
  intro n
  induction n with
  | zero =>
    intro k M0 hk hM
    refine ⟨M0, hM, rfl, fun c hc => ⟨Or.inl, fun h => h.elim id ?_⟩⟩
    rintro ⟨a, b, h1, h2, -⟩
    omega
  | succ n ih =>
    intro k M0 hk hM
    obtain ⟨M1, hM1, e1, hb1⟩ := vq_or1 (g := F k) (B := Q) (fun b hb => hF k b (by omega) hb) Q 0 M0 (by omega) hM
    obtain ⟨M, hM2, e, hb⟩ := ih (k + 1) M1 (by omega) hM1
    refine ⟨M, hM2, ?_, fun c hc => ?_⟩
    · show vq_fn (fun a s => vq_fn (fun b s => s ||| (1 <<< (F a b &&& 31))) Q 0 s) n (k + 1) (vq_fn (fun b s => s ||| (1 <<< (F k b &&& 31))) Q 0 (nI M0)) = nI M
      rw [e1]
      exact e
    · rw [hb c hc, hb1 c hc]
      constructor
      · rintro ((h | ⟨b, h1, h4, h5⟩) | ⟨a, b, h1, h4, h5, h6⟩)
        · exact Or.inl h
        · exact Or.inr ⟨k, b, by omega, by omega, by omega, h5⟩
        · exact Or.inr ⟨a, b, by omega, by omega, h5, h6⟩
      · rintro (h | ⟨a, b, h1, h4, h5, h6⟩)
        · exact Or.inl (Or.inl h)
        · rcases Nat.eq_or_lt_of_le h1 with e1 | e1
          · refine Or.inl (Or.inr ⟨b, by omega, by omega, ?_⟩)
            rw [e1]
            exact h6
          · exact Or.inr ⟨a, b, by omega, by omega, h5, h6⟩
theorem vq_orrN {F : Nat → Nat → Int32} {P Q : Nat} (hF : ∀ a b, a < P → b < Q → ∃ V, V ≤ 9 ∧ F a b = nI V) : ∃ M, M < 1024 ∧ vq_orr F P Q = nI M ∧ ∀ c, c ≤ 9 → (M.testBit c = true ↔ ∃ a b, a < P ∧ b < Q ∧ F a b = nI c) := by
  obtain ⟨M, h1, h2, h3⟩ := vq_or2 hF P 0 0 (by omega) (by decide)
  refine ⟨M, h1, h2, fun c hc => ?_⟩
  rw [h3 c hc, Nat.zero_testBit]
  constructor
  · rintro (h | ⟨a, b, -, h4, h5, h6⟩)
    · cases h
    · exact ⟨a, b, by omega, h5, h6⟩
  · rintro ⟨a, b, h4, h5, h6⟩
    exact Or.inr ⟨a, b, by omega, by omega, h5, h6⟩
theorem vq_pl_ct {M : Nat} (h : M < 1024) : vq_pl 1024 (nI M) 0 = nI (vq_ct M) := (vq_pl_pn 1024 M 0 (by omega)).trans (congrArg nI (vq_pn_ct M h))
theorem nI_bv {M : Nat} (h : M < 1024) : (nI M).toBitVec.toNat < 1024 := by
  show M % 2 ^ 32 < 1024
  rw [Nat.mod_eq_of_lt (by omega)]
  exact h
noncomputable def vq_k1 (x a : Nat) : Nat := if x = a then 0 else 1
noncomputable def vq_k2 (x a b : Nat) : Nat := if x = a then 0 else vq_k1 x b
noncomputable def vq_k3 (x a b c : Nat) : Nat := if x = a then 0 else vq_k2 x b c
theorem vq_n1N {x a : Nat} (hx : x ≤ 9) (ha : a ≤ 9) : vq_n1 (nI x) (nI a) = nI (vq_k1 x a) := by
  unfold vq_n1 vq_k1
  by_cases e : x = a
  · rw [if_pos e, if_pos (by rw [e])]
    rfl
  · rw [if_neg e, if_neg (fun h => e ((nI_eq (by omega) (by omega)).mp h))]
    rfl
theorem vq_n2N {x a b : Nat} (hx : x ≤ 9) (ha : a ≤ 9) (hb : b ≤ 9) : vq_n2 (nI x) (nI a) (nI b) = nI (vq_k2 x a b) := by
  unfold vq_n2 vq_k2
  by_cases e : x = a
  · rw [if_pos e, if_pos (by rw [e])]
    rfl
  · rw [if_neg e, if_neg (fun h => e ((nI_eq (by omega) (by omega)).mp h)), vq_n1N hx hb]
theorem vq_n3N {x a b c : Nat} (hx : x ≤ 9) (ha : a ≤ 9) (hb : b ≤ 9) (hc : c ≤ 9) : vq_n3 (nI x) (nI a) (nI b) (nI c) = nI (vq_k3 x a b c) := by
  unfold vq_n3 vq_k3
  by_cases e : x = a
  · rw [if_pos e, if_pos (by rw [e])]
    rfl
  · rw [if_neg e, if_neg (fun h => e ((nI_eq (by omega) (by omega)).mp h)), vq_n2N hx hb hc]
set_option maxRecDepth 100000 in
theorem vq_sq10 : ∀ a, a < 10 → ∀ b, b < 10 → ∀ c, c < 10 → ∀ d, d < 10 → vq_ct (((2 ^ a ||| 2 ^ c) ||| 2 ^ b) ||| 2 ^ d) = 1 + vq_k1 b a + vq_k2 c a b + vq_k3 d a b c := by decide +kernel
theorem vq_sq4 {F : Nat → Nat → Int32} {a b c d : Nat} (ha : a ≤ 9) (hb : b ≤ 9) (hc : c ≤ 9) (hd : d ≤ 9) (e1 : F 0 0 = nI a) (e2 : F 1 0 = nI b) (e3 : F 0 1 = nI c) (e4 : F 1 1 = nI d) : vq_pl 1024 (vq_orr F 2 2) 0 = vq_sq (nI a) (nI b) (nI c) (nI d) := by
  have e : vq_orr F 2 2 = nI (((2 ^ a ||| 2 ^ c) ||| 2 ^ b) ||| 2 ^ d) := by
    show (((nI 0 ||| (1 <<< (F 0 0 &&& 31))) ||| (1 <<< (F 0 1 &&& 31))) ||| (1 <<< (F 1 0 &&& 31))) ||| (1 <<< (F 1 1 &&& 31)) = _
    rw [e1, e2, e3, e4, nI_bit ha, nI_bit hb, nI_bit hc, nI_bit hd, nI_or, nI_or, nI_or, nI_or, Nat.zero_or]
  have p : ∀ k, k ≤ 9 → 2 ^ k < 2 ^ 10 := fun k hk => Nat.pow_lt_pow_right (by decide) (by omega)
  have hM : ((2 ^ a ||| 2 ^ c) ||| 2 ^ b) ||| 2 ^ d < 2 ^ 10 := Nat.or_lt_two_pow (Nat.or_lt_two_pow (Nat.or_lt_two_pow (p a ha) (p c hc)) (p b hb)) (p d hd)
  rw [e, vq_pl_ct hM, vq_sq10 a (by omega) b (by omega) c (by omega) d (by omega)]
  unfold vq_sq
  rw [vq_n1N hb ha, vq_n2N hc ha hb, vq_n3N hd ha hb hc, show (1 : Int32) = nI 1 from rfl, nI_add, nI_add, nI_add]
noncomputable def vq_t2 (v : Int32) : Int32 := if v ≤ 2 then 0 else 1
theorem vq_t2a {v s : Int32} (h : v ≤ 2) : s + vq_t2 v = s := by
  unfold vq_t2
  rw [if_pos h, Int32.add_zero]
theorem vq_t2b {v s : Int32} (h : ¬ v ≤ 2) : s + vq_t2 v = s + 1 := by
  unfold vq_t2
  rw [if_neg h]
theorem vq_t23 (v : Int32) : vq_t2 v = vq_t3 v := by
  have e2 : (2 : Int32).toInt = 2 := by decide
  have e3 : (3 : Int32).toInt = 3 := by decide
  unfold vq_t2 vq_t3
  by_cases h : v ≤ 2
  · rw [if_pos h, if_pos]
    rw [Int32.le_iff_toInt_le, e2] at h
    rw [Int32.lt_iff_toInt_lt, e3]
    omega
  · rw [if_neg h, if_neg]
    rw [Int32.le_iff_toInt_le, e2] at h
    rw [Int32.lt_iff_toInt_lt, e3]
    omega
noncomputable def vq_q1 (f : Nat → Int32) (W H i j : Nat) : Int32 := if i + 1 < W then (if j + 1 < H then vq_t2 (vq_pl 1024 (vq_orr (fun a b => f (((j + b) * 6) + (i + a))) 2 2) 0) else 0) else 0
theorem vq_q1a {f : Nat → Int32} {W H i j : Nat} {s : Int32} (h : ¬ i + 1 < W) : s + vq_q1 f W H i j = s := by
  unfold vq_q1
  rw [if_neg h, Int32.add_zero]
theorem vq_q1b {f : Nat → Int32} {W H i j : Nat} {s : Int32} (h : ¬ j + 1 < H) : s + vq_q1 f W H i j = s := by
  unfold vq_q1
  rw [if_neg h, ite_self, Int32.add_zero]
theorem vq_q1c {f : Nat → Int32} {W H i j : Nat} {s z : Int32} (h1 : i + 1 < W) (h2 : j + 1 < H) (h : s + vq_t2 (vq_pl 1024 (vq_orr (fun a b => f (((j + b) * 6) + (i + a))) 2 2) 0) = z) : s + vq_q1 f W H i j = z := by
  unfold vq_q1
  rw [if_pos h1, if_pos h2]
  exact h
theorem vq_q1z {f : Nat → Int32} {W H i j : Nat} (h : W ≤ i + 1 ∨ H ≤ j + 1) : vq_q1 f W H i j = 0 := by
  unfold vq_q1
  by_cases h1 : i + 1 < W
  · rw [if_pos h1, if_neg (by omega)]
  · rw [if_neg h1]
theorem vq_q1q {f : Nat → Int32} {W H i j : Nat} (hc : ∀ i, i < 36 → sm_colB (f i)) (hW : W ≤ 6) (hH : H ≤ 6) (h1 : i + 1 < W) (h2 : j + 1 < H) : vq_q1 f W H i j = vq_t3 (vq_sq (f ((j * 6) + i)) (f ((j * 6) + (i + 1))) (f (((j + 1) * 6) + i)) (f (((j + 1) * 6) + (i + 1)))) := by
  obtain ⟨a, ha, ea⟩ := sm_colN (hc ((j * 6) + i) (by omega))
  obtain ⟨b, hb, eb⟩ := sm_colN (hc ((j * 6) + (i + 1)) (by omega))
  obtain ⟨c, hcc, ec⟩ := sm_colN (hc (((j + 1) * 6) + i) (by omega))
  obtain ⟨d, hd, ed⟩ := sm_colN (hc (((j + 1) * 6) + (i + 1)) (by omega))
  unfold vq_q1
  rw [if_pos h1, if_pos h2, vq_sq4 (F := fun a b => f (((j + b) * 6) + (i + a))) ha hb hcc hd ea eb ec ed, vq_t23, ea, eb, ec, ed]
/-! want: the value of a cell, and rows made flat -/
noncomputable def vq_ew (T : Nat) (sg va nm : Nat → Int32) : Int32 := if T = 0 then 0 else sm_ev T sg va nm
noncomputable def vq_wt (w : mz_M) (T W H I J : Nat) : Int32 := vq_ew T (w 17) (w 18) (sm_nm (w 21 ((J * 6) + I)) (w 22 ((J * 6) + I)) ((w 20 0) + ((nI I) * (w 20 4))) ((w 20 1) + ((nI J) * (w 20 4))) (vq_ed (w 21) W H I J (w 21 ((J * 6) + I))))
theorem vq_wt0 {w : mz_M} {T W H I J : Nat} (h : vq_ed (w 21) W H I J (w 21 ((J * 6) + I)) = 0) : vq_wt w T W H I J = vq_ew T (w 17) (w 18) (sm_nm (w 21 ((J * 6) + I)) (w 22 ((J * 6) + I)) ((w 20 0) + ((nI I) * (w 20 4))) ((w 20 1) + ((nI J) * (w 20 4))) 0) := by
  unfold vq_wt
  rw [h]
theorem vq_wt1 {w : mz_M} {T W H I J : Nat} (h : ¬ vq_ed (w 21) W H I J (w 21 ((J * 6) + I)) = 0) : vq_wt w T W H I J = vq_ew T (w 17) (w 18) (sm_nm (w 21 ((J * 6) + I)) (w 22 ((J * 6) + I)) ((w 20 0) + ((nI I) * (w 20 4))) ((w 20 1) + ((nI J) * (w 20 4))) 1) := by
  unfold vq_wt
  rw [vq_ed01 h]
theorem vq_ew0 {T : Nat} {sg va nm : Nat → Int32} (h : T = 0) : vq_ew T sg va nm = 0 := if_pos h
theorem vq_ew1 {T : Nat} {sg va nm : Nat → Int32} (h : ¬ T = 0) : vq_ew T sg va nm = sm_ev T sg va nm := if_neg h
theorem vq_wtz {w : mz_M} {T W H I J : Nat} (h : T = 0) : vq_wt w T W H I J = 0 := vq_ew0 h
theorem vq_fn_add {α : Type} (g : Nat → α → α) : ∀ (n m k : Nat) (s : α), vq_fn g (n + m) k s = vq_fn g m (k + n) (vq_fn g n k s) := by
  intro n
  induction n with
  | zero =>
    intro m k s
    rw [Nat.zero_add]
    rfl
  | succ n ih =>
    intro m k s
    rw [show n + 1 + m = (n + m) + 1 by omega, show k + (n + 1) = (k + 1) + n by omega]
    exact ih m (k + 1) (g k s)
theorem vq_row {α : Type} (g : Nat → Nat → α → α) {W : Nat} (J : Nat) : ∀ (n K : Nat) (s : α), K + n ≤ W → vq_fn (fun k s => g (k % W) (k / W) s) n (J * W + K) s = vq_fn (fun i s => g i J s) n K s := by
  intro n
  induction n with
  | zero =>
    intro K s _
    rfl
  | succ n ih =>
    intro K s h
    obtain ⟨h1, h2⟩ := sm_dm (W := W) (J := J) (K := K) (by omega)
    show vq_fn (fun k s => g (k % W) (k / W) s) n (J * W + K + 1) (g ((J * W + K) % W) ((J * W + K) / W) s) = vq_fn (fun i s => g i J s) n (K + 1) (g K J s)
    rw [h1, h2]
    exact ih (K + 1) (g K J s) (by omega)
theorem vq_flat {α : Type} (g : Nat → Nat → α → α) (W : Nat) : ∀ (n J : Nat) (s : α), vq_fn (fun k s => g (k % W) (k / W) s) (n * W) (J * W) s = vq_fn (fun j s => vq_fn (fun i s => g i j s) W 0 s) n J s := by
  intro n
  induction n with
  | zero =>
    intro J s
    rw [Nat.zero_mul]
    rfl
  | succ n ih =>
    intro J s
    rw [show (n + 1) * W = W + n * W by rw [Nat.add_mul, Nat.one_mul, Nat.add_comm], vq_fn_add]
    have h := vq_row g (W := W) J W 0 s (by omega)
    rw [Nat.add_zero] at h
    rw [h, show J * W + W = (J + 1) * W by rw [Nat.add_mul, Nat.one_mul]]
    exact ih (J + 1) (vq_fn (fun i s => g i J s) W 0 s)
/-- from cell 1 on, the first cell being the best so far -/
theorem vq_wants {F : Nat → Nat → Int32} {W H : Nat} (hW : 1 ≤ W) (hH : 1 ≤ H) : vq_fn (fun k s => vq_su (F (k % W) (k / W)) ((10 * nI (k % W)) + nI (k / W)) s) (W * H - 1) 1 (F 0 0, 0) = vq_fn (fun j s => vq_fn (fun i s => vq_su (F i j) ((10 * nI i) + nI j) s) W 0 s) H 0 (F 0 0, 0) := by
  have h := vq_flat (fun i j s => vq_su (F i j) ((10 * nI i) + nI j) s) W H 0 (F 0 0, (0 : Int32))
  rw [Nat.zero_mul] at h
  have hp : 0 < W * H := Nat.mul_pos (by omega) (by omega)
  obtain ⟨n, hn⟩ : ∃ n, W * H = n + 1 := ⟨W * H - 1, by omega⟩
  rw [Nat.mul_comm H W, hn] at h
  rw [hn, ← h]
  show _ = vq_fn (fun k s => vq_su (F (k % W) (k / W)) ((10 * nI (k % W)) + nI (k / W)) s) n 1 (vq_su (F (0 % W) (0 / W)) ((10 * nI (0 % W)) + nI (0 / W)) (F 0 0, 0))
  rw [Nat.zero_mod, Nat.zero_div, vq_su0 Int32.lt_irrefl]
  rfl
set_option maxHeartbeats 4000000 in
set_option maxRecDepth 100000 in
theorem vr_col {m : mz_M} {A B : Nat} (hA : A < 6) (hB : B < 6) {a b : Int32} (ea : a = nI A) (eb : b = nI B) : mz_Me 3 mz_r186 [.ref 65, .int a, .int b] m (some (.int (m 66 ((70 + (6 * B)) + A)))) m := by
  subst ea
  subst eb
  refine ⟨?_, rfl⟩
  refine mz_go 9 (c' := (13, [some (.ref 65), some (.int (nI A)), some (.int (nI B))], [.int ((70 + (6 * (nI B))) + (nI A)), .ref 66], m)) rfl ?_
  refine mz_arr (c' := (14, [some (.ref 65), some (.int (nI A)), some (.int (nI B))], [.int (m 66 (((70 + (6 * (nI B))) + (nI A)).toNatClampNeg))], m)) rfl (show mz_in ((70 + (6 * (nI B))) + (nI A)) 650 = true from sm_inN (sm_addN (sm_addN rfl (sm_mulN rfl rfl)) rfl) (show ((70 + (6 * B)) + A) < 650 by omega) (by decide)) ?_
  rw [show ((70 + (6 * (nI B))) + (nI A) : Int32).toNatClampNeg = ((70 + (6 * B)) + A) from sm_clN (sm_addN (sm_addN rfl (sm_mulN rfl rfl)) rfl) (show ((70 + (6 * B)) + A) < 2 ^ 31 by omega)]
  exact mz_ret rfl
set_option maxHeartbeats 4000000 in
set_option maxRecDepth 100000 in
theorem vc_oth {m : mz_M} {WW HH : Nat} (hWW : WW ≤ 6) (hHH : HH ≤ 6) (h202 : m 20 2 = nI WW) (h203 : m 20 3 = nI HH) (a b c : Int32) : ∃ v, mz_Me 8 mz_r13 [.ref 20, .int a, .int b, .int c] m (some (.int v)) m ∧ (v = vq_ot (m 21) WW HH a b c) := by
  by_cases q1 : a < 0
  · refine ⟨0, ⟨?_, rfl⟩, (vq_o1 q1)⟩
    refine mz_go 3 (c' := (3, [some (.ref 20), some (.int a), some (.int b), some (.int c)], [.int b, .int a, .ref 20], m)) rfl ?_
    refine mz_do (R := mz_r4) (as := [.ref 20, .int a, .int b]) (rest := []) (r1 := some (.int 0)) (m1 := m) rfl ⟨?_, rfl⟩ ?_
    · refine mz_go 2 (c' := (if a < 0 then 40 else 4, [some (.ref 20), some (.int a), some (.int b)], [], m)) rfl ?_
      refine mz_ifT q1 ?_
      refine mz_go 1 (c' := (41, [some (.ref 20), some (.int a), some (.int b)], [.int 0], m)) rfl ?_
      exact mz_ret rfl
    refine mz_go 2 (c' := (24, [some (.ref 20), some (.int a), some (.int b), some (.int c)], [.int 0], m)) rfl ?_
    exact mz_ret rfl
  · obtain ⟨ja, hja, rfl⟩ := nI_of q1
    by_cases q2 : WW ≤ ja
    · refine ⟨0, ⟨?_, rfl⟩, (vq_o2 hja (by omega))⟩
      refine mz_go 3 (c' := (3, [some (.ref 20), some (.int (nI ja)), some (.int b), some (.int c)], [.int b, .int (nI ja), .ref 20], m)) rfl ?_
      refine mz_do (R := mz_r4) (as := [.ref 20, .int (nI ja), .int b]) (rest := []) (r1 := some (.int 0)) (m1 := m) rfl ⟨?_, rfl⟩ ?_
      · refine mz_go 2 (c' := (if (nI ja) < 0 then 40 else 4, [some (.ref 20), some (.int (nI ja)), some (.int b)], [], m)) rfl ?_
        refine mz_ifF q1 ?_
        refine mz_go 3 (c' := (9, [some (.ref 20), some (.int (nI ja)), some (.int b)], [.int (m 20 2), .int (nI ja)], m)) rfl ?_
        rw [h202]
        refine mz_go 1 (c' := (if (nI WW) ≤ (nI ja) then 40 else 12, [some (.ref 20), some (.int (nI ja)), some (.int b)], [], m)) rfl ?_
        refine mz_ifT (show ((nI WW) ≤ (nI ja)) from (sm_leN rfl rfl (show WW ≤ ja by omega) (show ja < 2 ^ 31 by omega))) ?_
        refine mz_go 1 (c' := (41, [some (.ref 20), some (.int (nI ja)), some (.int b)], [.int 0], m)) rfl ?_
        exact mz_ret rfl
      refine mz_go 2 (c' := (24, [some (.ref 20), some (.int (nI ja)), some (.int b), some (.int c)], [.int 0], m)) rfl ?_
      exact mz_ret rfl
    · by_cases q3 : b < 0
      · refine ⟨0, ⟨?_, rfl⟩, (vq_o3 q3)⟩
        refine mz_go 3 (c' := (3, [some (.ref 20), some (.int (nI ja)), some (.int b), some (.int c)], [.int b, .int (nI ja), .ref 20], m)) rfl ?_
        refine mz_do (R := mz_r4) (as := [.ref 20, .int (nI ja), .int b]) (rest := []) (r1 := some (.int 0)) (m1 := m) rfl ⟨?_, rfl⟩ ?_
        · refine mz_go 2 (c' := (if (nI ja) < 0 then 40 else 4, [some (.ref 20), some (.int (nI ja)), some (.int b)], [], m)) rfl ?_
          refine mz_ifF q1 ?_
          refine mz_go 3 (c' := (9, [some (.ref 20), some (.int (nI ja)), some (.int b)], [.int (m 20 2), .int (nI ja)], m)) rfl ?_
          rw [h202]
          refine mz_go 1 (c' := (if (nI WW) ≤ (nI ja) then 40 else 12, [some (.ref 20), some (.int (nI ja)), some (.int b)], [], m)) rfl ?_
          refine mz_ifF (show ¬ ((nI WW) ≤ (nI ja)) from (sm_nleN rfl rfl (show ja < WW by omega) (show WW < 2 ^ 31 by omega))) ?_
          refine mz_go 3 (c' := (if 6 ≤ (nI ja) then 40 else 18, [some (.ref 20), some (.int (nI ja)), some (.int b)], [], m)) rfl ?_
          refine mz_ifF (show ¬ (6 ≤ (nI ja)) from (sm_nleN rfl rfl (show ja < 6 by omega) (show 6 < 2 ^ 31 by omega))) ?_
          refine mz_go 2 (c' := (if b < 0 then 40 else 22, [some (.ref 20), some (.int (nI ja)), some (.int b)], [], m)) rfl ?_
          refine mz_ifT q3 ?_
          refine mz_go 1 (c' := (41, [some (.ref 20), some (.int (nI ja)), some (.int b)], [.int 0], m)) rfl ?_
          exact mz_ret rfl
        refine mz_go 2 (c' := (24, [some (.ref 20), some (.int (nI ja)), some (.int b), some (.int c)], [.int 0], m)) rfl ?_
        exact mz_ret rfl
      · obtain ⟨jb, hjb, rfl⟩ := nI_of q3
        by_cases q4 : HH ≤ jb
        · refine ⟨0, ⟨?_, rfl⟩, (vq_o4 hjb (by omega))⟩
          refine mz_go 3 (c' := (3, [some (.ref 20), some (.int (nI ja)), some (.int (nI jb)), some (.int c)], [.int (nI jb), .int (nI ja), .ref 20], m)) rfl ?_
          refine mz_do (R := mz_r4) (as := [.ref 20, .int (nI ja), .int (nI jb)]) (rest := []) (r1 := some (.int 0)) (m1 := m) rfl ⟨?_, rfl⟩ ?_
          · refine mz_go 2 (c' := (if (nI ja) < 0 then 40 else 4, [some (.ref 20), some (.int (nI ja)), some (.int (nI jb))], [], m)) rfl ?_
            refine mz_ifF q1 ?_
            refine mz_go 3 (c' := (9, [some (.ref 20), some (.int (nI ja)), some (.int (nI jb))], [.int (m 20 2), .int (nI ja)], m)) rfl ?_
            rw [h202]
            refine mz_go 1 (c' := (if (nI WW) ≤ (nI ja) then 40 else 12, [some (.ref 20), some (.int (nI ja)), some (.int (nI jb))], [], m)) rfl ?_
            refine mz_ifF (show ¬ ((nI WW) ≤ (nI ja)) from (sm_nleN rfl rfl (show ja < WW by omega) (show WW < 2 ^ 31 by omega))) ?_
            refine mz_go 3 (c' := (if 6 ≤ (nI ja) then 40 else 18, [some (.ref 20), some (.int (nI ja)), some (.int (nI jb))], [], m)) rfl ?_
            refine mz_ifF (show ¬ (6 ≤ (nI ja)) from (sm_nleN rfl rfl (show ja < 6 by omega) (show 6 < 2 ^ 31 by omega))) ?_
            refine mz_go 2 (c' := (if (nI jb) < 0 then 40 else 22, [some (.ref 20), some (.int (nI ja)), some (.int (nI jb))], [], m)) rfl ?_
            refine mz_ifF q3 ?_
            refine mz_go 3 (c' := (27, [some (.ref 20), some (.int (nI ja)), some (.int (nI jb))], [.int (m 20 3), .int (nI jb)], m)) rfl ?_
            rw [h203]
            refine mz_go 1 (c' := (if (nI HH) ≤ (nI jb) then 40 else 30, [some (.ref 20), some (.int (nI ja)), some (.int (nI jb))], [], m)) rfl ?_
            refine mz_ifT (show ((nI HH) ≤ (nI jb)) from (sm_leN rfl rfl (show HH ≤ jb by omega) (show jb < 2 ^ 31 by omega))) ?_
            refine mz_go 1 (c' := (41, [some (.ref 20), some (.int (nI ja)), some (.int (nI jb))], [.int 0], m)) rfl ?_
            exact mz_ret rfl
          refine mz_go 2 (c' := (24, [some (.ref 20), some (.int (nI ja)), some (.int (nI jb)), some (.int c)], [.int 0], m)) rfl ?_
          exact mz_ret rfl
        · by_cases q5 : (m 21 ((jb * 6) + ja)) = c
          · refine ⟨0, ⟨?_, rfl⟩, (vq_o5 (f := (m 21)) (by omega) (by omega) hWW hHH q5)⟩
            refine mz_go 3 (c' := (3, [some (.ref 20), some (.int (nI ja)), some (.int (nI jb)), some (.int c)], [.int (nI jb), .int (nI ja), .ref 20], m)) rfl ?_
            refine mz_do (R := mz_r4) (as := [.ref 20, .int (nI ja), .int (nI jb)]) (rest := []) (r1 := some (.int 1)) (m1 := m) rfl ⟨?_, rfl⟩ ?_
            · refine mz_go 2 (c' := (if (nI ja) < 0 then 40 else 4, [some (.ref 20), some (.int (nI ja)), some (.int (nI jb))], [], m)) rfl ?_
              refine mz_ifF q1 ?_
              refine mz_go 3 (c' := (9, [some (.ref 20), some (.int (nI ja)), some (.int (nI jb))], [.int (m 20 2), .int (nI ja)], m)) rfl ?_
              rw [h202]
              refine mz_go 1 (c' := (if (nI WW) ≤ (nI ja) then 40 else 12, [some (.ref 20), some (.int (nI ja)), some (.int (nI jb))], [], m)) rfl ?_
              refine mz_ifF (show ¬ ((nI WW) ≤ (nI ja)) from (sm_nleN rfl rfl (show ja < WW by omega) (show WW < 2 ^ 31 by omega))) ?_
              refine mz_go 3 (c' := (if 6 ≤ (nI ja) then 40 else 18, [some (.ref 20), some (.int (nI ja)), some (.int (nI jb))], [], m)) rfl ?_
              refine mz_ifF (show ¬ (6 ≤ (nI ja)) from (sm_nleN rfl rfl (show ja < 6 by omega) (show 6 < 2 ^ 31 by omega))) ?_
              refine mz_go 2 (c' := (if (nI jb) < 0 then 40 else 22, [some (.ref 20), some (.int (nI ja)), some (.int (nI jb))], [], m)) rfl ?_
              refine mz_ifF q3 ?_
              refine mz_go 3 (c' := (27, [some (.ref 20), some (.int (nI ja)), some (.int (nI jb))], [.int (m 20 3), .int (nI jb)], m)) rfl ?_
              rw [h203]
              refine mz_go 1 (c' := (if (nI HH) ≤ (nI jb) then 40 else 30, [some (.ref 20), some (.int (nI ja)), some (.int (nI jb))], [], m)) rfl ?_
              refine mz_ifF (show ¬ ((nI HH) ≤ (nI jb)) from (sm_nleN rfl rfl (show jb < HH by omega) (show HH < 2 ^ 31 by omega))) ?_
              refine mz_go 3 (c' := (if 6 ≤ (nI jb) then 40 else 36, [some (.ref 20), some (.int (nI ja)), some (.int (nI jb))], [], m)) rfl ?_
              refine mz_ifF (show ¬ (6 ≤ (nI jb)) from (sm_nleN rfl rfl (show jb < 6 by omega) (show 6 < 2 ^ 31 by omega))) ?_
              refine mz_go 2 (c' := (41, [some (.ref 20), some (.int (nI ja)), some (.int (nI jb))], [.int 1], m)) rfl ?_
              exact mz_ret rfl
            refine mz_go 4 (c' := (12, [some (.ref 20), some (.int (nI ja)), some (.int (nI jb)), some (.int c)], [.int (nI jb), .int (nI ja), .ref 20], m)) rfl ?_
            refine mz_do (R := mz_r7) (as := [.ref 20, .int (nI ja), .int (nI jb)]) (rest := []) (r1 := some (.int (m 21 ((jb * 6) + ja)))) (m1 := m) rfl ⟨?_, rfl⟩ ?_
            · refine mz_go 3 (c' := (3, [some (.ref 20), some (.int (nI ja)), some (.int (nI jb))], [.int (nI jb), .int (nI ja), .ref 20], m)) rfl ?_
              refine mz_do (R := mz_r4) (as := [.ref 20, .int (nI ja), .int (nI jb)]) (rest := []) (r1 := some (.int 1)) (m1 := m) rfl ⟨?_, rfl⟩ ?_
              · refine mz_go 2 (c' := (if (nI ja) < 0 then 40 else 4, [some (.ref 20), some (.int (nI ja)), some (.int (nI jb))], [], m)) rfl ?_
                refine mz_ifF q1 ?_
                refine mz_go 3 (c' := (9, [some (.ref 20), some (.int (nI ja)), some (.int (nI jb))], [.int (m 20 2), .int (nI ja)], m)) rfl ?_
                rw [h202]
                refine mz_go 1 (c' := (if (nI WW) ≤ (nI ja) then 40 else 12, [some (.ref 20), some (.int (nI ja)), some (.int (nI jb))], [], m)) rfl ?_
                refine mz_ifF (show ¬ ((nI WW) ≤ (nI ja)) from (sm_nleN rfl rfl (show ja < WW by omega) (show WW < 2 ^ 31 by omega))) ?_
                refine mz_go 3 (c' := (if 6 ≤ (nI ja) then 40 else 18, [some (.ref 20), some (.int (nI ja)), some (.int (nI jb))], [], m)) rfl ?_
                refine mz_ifF (show ¬ (6 ≤ (nI ja)) from (sm_nleN rfl rfl (show ja < 6 by omega) (show 6 < 2 ^ 31 by omega))) ?_
                refine mz_go 2 (c' := (if (nI jb) < 0 then 40 else 22, [some (.ref 20), some (.int (nI ja)), some (.int (nI jb))], [], m)) rfl ?_
                refine mz_ifF q3 ?_
                refine mz_go 3 (c' := (27, [some (.ref 20), some (.int (nI ja)), some (.int (nI jb))], [.int (m 20 3), .int (nI jb)], m)) rfl ?_
                rw [h203]
                refine mz_go 1 (c' := (if (nI HH) ≤ (nI jb) then 40 else 30, [some (.ref 20), some (.int (nI ja)), some (.int (nI jb))], [], m)) rfl ?_
                refine mz_ifF (show ¬ ((nI HH) ≤ (nI jb)) from (sm_nleN rfl rfl (show jb < HH by omega) (show HH < 2 ^ 31 by omega))) ?_
                refine mz_go 3 (c' := (if 6 ≤ (nI jb) then 40 else 36, [some (.ref 20), some (.int (nI ja)), some (.int (nI jb))], [], m)) rfl ?_
                refine mz_ifF (show ¬ (6 ≤ (nI jb)) from (sm_nleN rfl rfl (show jb < 6 by omega) (show 6 < 2 ^ 31 by omega))) ?_
                refine mz_go 2 (c' := (41, [some (.ref 20), some (.int (nI ja)), some (.int (nI jb))], [.int 1], m)) rfl ?_
                exact mz_ret rfl
              refine mz_go 8 (c' := (19, [some (.ref 20), some (.int (nI ja)), some (.int (nI jb))], [.int (((nI jb) * 6) + (nI ja)), .ref 21], m)) rfl ?_
              refine mz_arr (c' := (20, [some (.ref 20), some (.int (nI ja)), some (.int (nI jb))], [.int (m 21 ((((nI jb) * 6) + (nI ja)).toNatClampNeg))], m)) rfl (show mz_in (((nI jb) * 6) + (nI ja)) 36 = true from sm_inN (sm_addN (sm_mulN rfl rfl) rfl) (show ((jb * 6) + ja) < 36 by omega) (by decide)) ?_
              rw [show (((nI jb) * 6) + (nI ja) : Int32).toNatClampNeg = ((jb * 6) + ja) from sm_clN (sm_addN (sm_mulN rfl rfl) rfl) (show ((jb * 6) + ja) < 2 ^ 31 by omega)]
              refine mz_go 1 (c' := (25, [some (.ref 20), some (.int (nI ja)), some (.int (nI jb))], [.int (m 21 ((jb * 6) + ja))], m)) rfl ?_
              exact mz_ret rfl
            refine mz_go 2 (c' := (if (m 21 ((jb * 6) + ja)) = c then 23 else 19, [some (.ref 20), some (.int (nI ja)), some (.int (nI jb)), some (.int c)], [], m)) rfl ?_
            refine mz_ifT q5 ?_
            refine mz_go 1 (c' := (24, [some (.ref 20), some (.int (nI ja)), some (.int (nI jb)), some (.int c)], [.int 0], m)) rfl ?_
            exact mz_ret rfl
          · refine ⟨1, ⟨?_, rfl⟩, (vq_o6 (f := (m 21)) (by omega) (by omega) hWW hHH q5)⟩
            refine mz_go 3 (c' := (3, [some (.ref 20), some (.int (nI ja)), some (.int (nI jb)), some (.int c)], [.int (nI jb), .int (nI ja), .ref 20], m)) rfl ?_
            refine mz_do (R := mz_r4) (as := [.ref 20, .int (nI ja), .int (nI jb)]) (rest := []) (r1 := some (.int 1)) (m1 := m) rfl ⟨?_, rfl⟩ ?_
            · refine mz_go 2 (c' := (if (nI ja) < 0 then 40 else 4, [some (.ref 20), some (.int (nI ja)), some (.int (nI jb))], [], m)) rfl ?_
              refine mz_ifF q1 ?_
              refine mz_go 3 (c' := (9, [some (.ref 20), some (.int (nI ja)), some (.int (nI jb))], [.int (m 20 2), .int (nI ja)], m)) rfl ?_
              rw [h202]
              refine mz_go 1 (c' := (if (nI WW) ≤ (nI ja) then 40 else 12, [some (.ref 20), some (.int (nI ja)), some (.int (nI jb))], [], m)) rfl ?_
              refine mz_ifF (show ¬ ((nI WW) ≤ (nI ja)) from (sm_nleN rfl rfl (show ja < WW by omega) (show WW < 2 ^ 31 by omega))) ?_
              refine mz_go 3 (c' := (if 6 ≤ (nI ja) then 40 else 18, [some (.ref 20), some (.int (nI ja)), some (.int (nI jb))], [], m)) rfl ?_
              refine mz_ifF (show ¬ (6 ≤ (nI ja)) from (sm_nleN rfl rfl (show ja < 6 by omega) (show 6 < 2 ^ 31 by omega))) ?_
              refine mz_go 2 (c' := (if (nI jb) < 0 then 40 else 22, [some (.ref 20), some (.int (nI ja)), some (.int (nI jb))], [], m)) rfl ?_
              refine mz_ifF q3 ?_
              refine mz_go 3 (c' := (27, [some (.ref 20), some (.int (nI ja)), some (.int (nI jb))], [.int (m 20 3), .int (nI jb)], m)) rfl ?_
              rw [h203]
              refine mz_go 1 (c' := (if (nI HH) ≤ (nI jb) then 40 else 30, [some (.ref 20), some (.int (nI ja)), some (.int (nI jb))], [], m)) rfl ?_
              refine mz_ifF (show ¬ ((nI HH) ≤ (nI jb)) from (sm_nleN rfl rfl (show jb < HH by omega) (show HH < 2 ^ 31 by omega))) ?_
              refine mz_go 3 (c' := (if 6 ≤ (nI jb) then 40 else 36, [some (.ref 20), some (.int (nI ja)), some (.int (nI jb))], [], m)) rfl ?_
              refine mz_ifF (show ¬ (6 ≤ (nI jb)) from (sm_nleN rfl rfl (show jb < 6 by omega) (show 6 < 2 ^ 31 by omega))) ?_
              refine mz_go 2 (c' := (41, [some (.ref 20), some (.int (nI ja)), some (.int (nI jb))], [.int 1], m)) rfl ?_
              exact mz_ret rfl
            refine mz_go 4 (c' := (12, [some (.ref 20), some (.int (nI ja)), some (.int (nI jb)), some (.int c)], [.int (nI jb), .int (nI ja), .ref 20], m)) rfl ?_
            refine mz_do (R := mz_r7) (as := [.ref 20, .int (nI ja), .int (nI jb)]) (rest := []) (r1 := some (.int (m 21 ((jb * 6) + ja)))) (m1 := m) rfl ⟨?_, rfl⟩ ?_
            · refine mz_go 3 (c' := (3, [some (.ref 20), some (.int (nI ja)), some (.int (nI jb))], [.int (nI jb), .int (nI ja), .ref 20], m)) rfl ?_
              refine mz_do (R := mz_r4) (as := [.ref 20, .int (nI ja), .int (nI jb)]) (rest := []) (r1 := some (.int 1)) (m1 := m) rfl ⟨?_, rfl⟩ ?_
              · refine mz_go 2 (c' := (if (nI ja) < 0 then 40 else 4, [some (.ref 20), some (.int (nI ja)), some (.int (nI jb))], [], m)) rfl ?_
                refine mz_ifF q1 ?_
                refine mz_go 3 (c' := (9, [some (.ref 20), some (.int (nI ja)), some (.int (nI jb))], [.int (m 20 2), .int (nI ja)], m)) rfl ?_
                rw [h202]
                refine mz_go 1 (c' := (if (nI WW) ≤ (nI ja) then 40 else 12, [some (.ref 20), some (.int (nI ja)), some (.int (nI jb))], [], m)) rfl ?_
                refine mz_ifF (show ¬ ((nI WW) ≤ (nI ja)) from (sm_nleN rfl rfl (show ja < WW by omega) (show WW < 2 ^ 31 by omega))) ?_
                refine mz_go 3 (c' := (if 6 ≤ (nI ja) then 40 else 18, [some (.ref 20), some (.int (nI ja)), some (.int (nI jb))], [], m)) rfl ?_
                refine mz_ifF (show ¬ (6 ≤ (nI ja)) from (sm_nleN rfl rfl (show ja < 6 by omega) (show 6 < 2 ^ 31 by omega))) ?_
                refine mz_go 2 (c' := (if (nI jb) < 0 then 40 else 22, [some (.ref 20), some (.int (nI ja)), some (.int (nI jb))], [], m)) rfl ?_
                refine mz_ifF q3 ?_
                refine mz_go 3 (c' := (27, [some (.ref 20), some (.int (nI ja)), some (.int (nI jb))], [.int (m 20 3), .int (nI jb)], m)) rfl ?_
                rw [h203]
                refine mz_go 1 (c' := (if (nI HH) ≤ (nI jb) then 40 else 30, [some (.ref 20), some (.int (nI ja)), some (.int (nI jb))], [], m)) rfl ?_
                refine mz_ifF (show ¬ ((nI HH) ≤ (nI jb)) from (sm_nleN rfl rfl (show jb < HH by omega) (show HH < 2 ^ 31 by omega))) ?_
                refine mz_go 3 (c' := (if 6 ≤ (nI jb) then 40 else 36, [some (.ref 20), some (.int (nI ja)), some (.int (nI jb))], [], m)) rfl ?_
                refine mz_ifF (show ¬ (6 ≤ (nI jb)) from (sm_nleN rfl rfl (show jb < 6 by omega) (show 6 < 2 ^ 31 by omega))) ?_
                refine mz_go 2 (c' := (41, [some (.ref 20), some (.int (nI ja)), some (.int (nI jb))], [.int 1], m)) rfl ?_
                exact mz_ret rfl
              refine mz_go 8 (c' := (19, [some (.ref 20), some (.int (nI ja)), some (.int (nI jb))], [.int (((nI jb) * 6) + (nI ja)), .ref 21], m)) rfl ?_
              refine mz_arr (c' := (20, [some (.ref 20), some (.int (nI ja)), some (.int (nI jb))], [.int (m 21 ((((nI jb) * 6) + (nI ja)).toNatClampNeg))], m)) rfl (show mz_in (((nI jb) * 6) + (nI ja)) 36 = true from sm_inN (sm_addN (sm_mulN rfl rfl) rfl) (show ((jb * 6) + ja) < 36 by omega) (by decide)) ?_
              rw [show (((nI jb) * 6) + (nI ja) : Int32).toNatClampNeg = ((jb * 6) + ja) from sm_clN (sm_addN (sm_mulN rfl rfl) rfl) (show ((jb * 6) + ja) < 2 ^ 31 by omega)]
              refine mz_go 1 (c' := (25, [some (.ref 20), some (.int (nI ja)), some (.int (nI jb))], [.int (m 21 ((jb * 6) + ja))], m)) rfl ?_
              exact mz_ret rfl
            refine mz_go 2 (c' := (if (m 21 ((jb * 6) + ja)) = c then 23 else 19, [some (.ref 20), some (.int (nI ja)), some (.int (nI jb)), some (.int c)], [], m)) rfl ?_
            refine mz_ifF q5 ?_
            refine mz_go 2 (c' := (24, [some (.ref 20), some (.int (nI ja)), some (.int (nI jb)), some (.int c)], [.int 1], m)) rfl ?_
            exact mz_ret rfl
set_option maxHeartbeats 4000000 in
set_option maxRecDepth 100000 in
theorem vc_edg {m : mz_M} {WW HH : Nat} (hWW : WW ≤ 6) (hHH : HH ≤ 6) (h202 : m 20 2 = nI WW) (h203 : m 20 3 = nI HH) {I J : Nat} (hI : I < WW) (hJ : J < HH) : ∃ v, mz_Me 10 mz_r12 [.ref 20, .int (nI I), .int (nI J)] m (some (.int v)) m ∧ (v = vq_ed (m 21) WW HH I J (m 21 ((J * 6) + I))) := by
  by_cases q1 : I = 0
  · obtain ⟨ve1, Ee1, Pe1⟩ := vc_oth (m := m) hWW hHH h202 h203 (-1) (nI J) (m 21 ((J * 6) + I))
    by_cases q2 : ve1 = 0
    · obtain ⟨ve2, Ee2, Pe2⟩ := vc_oth (m := m) hWW hHH h202 h203 ((nI I) + 1) (nI J) (m 21 ((J * 6) + I))
      by_cases q3 : ve2 = 0
      · by_cases q4 : J = 0
        · obtain ⟨ve3, Ee3, Pe3⟩ := vc_oth (m := m) hWW hHH h202 h203 (nI I) (-1) (m 21 ((J * 6) + I))
          by_cases q5 : ve3 = 0
          · obtain ⟨ve4, Ee4, Pe4⟩ := vc_oth (m := m) hWW hHH h202 h203 (nI I) ((nI J) + 1) (m 21 ((J * 6) + I))
            by_cases q6 : ve4 = 0
            · refine ⟨0, ⟨?_, rfl⟩, (by unfold vq_ed; rw [vq_m1 q1]; rw [← Pe1, if_pos q2]; rw [← Pe2, if_pos q3]; rw [vq_m1 q4]; rw [← Pe3, if_pos q5]; rw [← Pe4, if_pos q6])⟩
              refine mz_go 3 (c' := (3, [some (.ref 20), some (.int (nI I)), some (.int (nI J)), none], [.int (nI J), .int (nI I), .ref 20], m)) rfl ?_
              refine mz_do (R := mz_r7) (as := [.ref 20, .int (nI I), .int (nI J)]) (rest := []) (r1 := some (.int (m 21 ((J * 6) + I)))) (m1 := m) rfl ⟨?_, rfl⟩ ?_
              · refine mz_go 3 (c' := (3, [some (.ref 20), some (.int (nI I)), some (.int (nI J))], [.int (nI J), .int (nI I), .ref 20], m)) rfl ?_
                refine mz_do (R := mz_r4) (as := [.ref 20, .int (nI I), .int (nI J)]) (rest := []) (r1 := some (.int 1)) (m1 := m) rfl ⟨?_, rfl⟩ ?_
                · refine mz_go 2 (c' := (if (nI I) < 0 then 40 else 4, [some (.ref 20), some (.int (nI I)), some (.int (nI J))], [], m)) rfl ?_
                  refine mz_ifF (show ¬ ((nI I) < 0) from (sm_nltN rfl rfl (show 0 ≤ I by omega) (show I < 2 ^ 31 by omega))) ?_
                  refine mz_go 3 (c' := (9, [some (.ref 20), some (.int (nI I)), some (.int (nI J))], [.int (m 20 2), .int (nI I)], m)) rfl ?_
                  rw [h202]
                  refine mz_go 1 (c' := (if (nI WW) ≤ (nI I) then 40 else 12, [some (.ref 20), some (.int (nI I)), some (.int (nI J))], [], m)) rfl ?_
                  refine mz_ifF (show ¬ ((nI WW) ≤ (nI I)) from (sm_nleN rfl rfl (show I < WW by omega) (show WW < 2 ^ 31 by omega))) ?_
                  refine mz_go 3 (c' := (if 6 ≤ (nI I) then 40 else 18, [some (.ref 20), some (.int (nI I)), some (.int (nI J))], [], m)) rfl ?_
                  refine mz_ifF (show ¬ (6 ≤ (nI I)) from (sm_nleN rfl rfl (show I < 6 by omega) (show 6 < 2 ^ 31 by omega))) ?_
                  refine mz_go 2 (c' := (if (nI J) < 0 then 40 else 22, [some (.ref 20), some (.int (nI I)), some (.int (nI J))], [], m)) rfl ?_
                  refine mz_ifF (show ¬ ((nI J) < 0) from (sm_nltN rfl rfl (show 0 ≤ J by omega) (show J < 2 ^ 31 by omega))) ?_
                  refine mz_go 3 (c' := (27, [some (.ref 20), some (.int (nI I)), some (.int (nI J))], [.int (m 20 3), .int (nI J)], m)) rfl ?_
                  rw [h203]
                  refine mz_go 1 (c' := (if (nI HH) ≤ (nI J) then 40 else 30, [some (.ref 20), some (.int (nI I)), some (.int (nI J))], [], m)) rfl ?_
                  refine mz_ifF (show ¬ ((nI HH) ≤ (nI J)) from (sm_nleN rfl rfl (show J < HH by omega) (show HH < 2 ^ 31 by omega))) ?_
                  refine mz_go 3 (c' := (if 6 ≤ (nI J) then 40 else 36, [some (.ref 20), some (.int (nI I)), some (.int (nI J))], [], m)) rfl ?_
                  refine mz_ifF (show ¬ (6 ≤ (nI J)) from (sm_nleN rfl rfl (show J < 6 by omega) (show 6 < 2 ^ 31 by omega))) ?_
                  refine mz_go 2 (c' := (41, [some (.ref 20), some (.int (nI I)), some (.int (nI J))], [.int 1], m)) rfl ?_
                  exact mz_ret rfl
                refine mz_go 8 (c' := (19, [some (.ref 20), some (.int (nI I)), some (.int (nI J))], [.int (((nI J) * 6) + (nI I)), .ref 21], m)) rfl ?_
                refine mz_arr (c' := (20, [some (.ref 20), some (.int (nI I)), some (.int (nI J))], [.int (m 21 ((((nI J) * 6) + (nI I)).toNatClampNeg))], m)) rfl (show mz_in (((nI J) * 6) + (nI I)) 36 = true from sm_inN (sm_addN (sm_mulN rfl rfl) rfl) (show ((J * 6) + I) < 36 by omega) (by decide)) ?_
                rw [show (((nI J) * 6) + (nI I) : Int32).toNatClampNeg = ((J * 6) + I) from sm_clN (sm_addN (sm_mulN rfl rfl) rfl) (show ((J * 6) + I) < 2 ^ 31 by omega)]
                refine mz_go 1 (c' := (25, [some (.ref 20), some (.int (nI I)), some (.int (nI J))], [.int (m 21 ((J * 6) + I))], m)) rfl ?_
                exact mz_ret rfl
              refine mz_go 5 (c' := (11, [some (.ref 20), some (.int (nI I)), some (.int (nI J)), some (.int (m 21 ((J * 6) + I)))], [.int ((nI I) - 1), .ref 20], m)) rfl ?_
              rw [show nI I - 1 = -1 from by rw [show I = 0 by omega]; decide]
              refine mz_go 2 (c' := (13, [some (.ref 20), some (.int (nI I)), some (.int (nI J)), some (.int (m 21 ((J * 6) + I)))], [.int (m 21 ((J * 6) + I)), .int (nI J), .int (-1), .ref 20], m)) rfl ?_
              refine mz_do (R := mz_r13) (as := [.ref 20, .int (-1), .int (nI J), .int (m 21 ((J * 6) + I))]) (rest := []) (r1 := some (.int ve1)) (m1 := m) rfl (Ee1.deep (by decide)) ?_
              refine mz_go 1 (c' := (if ve1 = 0 then 19 else 55, [some (.ref 20), some (.int (nI I)), some (.int (nI J)), some (.int (m 21 ((J * 6) + I)))], [], m)) rfl ?_
              refine mz_ifT q2 ?_
              refine mz_go 6 (c' := (25, [some (.ref 20), some (.int (nI I)), some (.int (nI J)), some (.int (m 21 ((J * 6) + I)))], [.int (m 21 ((J * 6) + I)), .int (nI J), .int ((nI I) + 1), .ref 20], m)) rfl ?_
              refine mz_do (R := mz_r13) (as := [.ref 20, .int ((nI I) + 1), .int (nI J), .int (m 21 ((J * 6) + I))]) (rest := []) (r1 := some (.int ve2)) (m1 := m) rfl (Ee2.deep (by decide)) ?_
              refine mz_go 1 (c' := (if ve2 = 0 then 31 else 55, [some (.ref 20), some (.int (nI I)), some (.int (nI J)), some (.int (m 21 ((J * 6) + I)))], [], m)) rfl ?_
              refine mz_ifT q3 ?_
              refine mz_go 5 (c' := (36, [some (.ref 20), some (.int (nI I)), some (.int (nI J)), some (.int (m 21 ((J * 6) + I)))], [.int ((nI J) - 1), .int (nI I), .ref 20], m)) rfl ?_
              rw [show nI J - 1 = -1 from by rw [show J = 0 by omega]; decide]
              refine mz_go 1 (c' := (37, [some (.ref 20), some (.int (nI I)), some (.int (nI J)), some (.int (m 21 ((J * 6) + I)))], [.int (m 21 ((J * 6) + I)), .int (-1), .int (nI I), .ref 20], m)) rfl ?_
              refine mz_do (R := mz_r13) (as := [.ref 20, .int (nI I), .int (-1), .int (m 21 ((J * 6) + I))]) (rest := []) (r1 := some (.int ve3)) (m1 := m) rfl (Ee3.deep (by decide)) ?_
              refine mz_go 1 (c' := (if ve3 = 0 then 43 else 55, [some (.ref 20), some (.int (nI I)), some (.int (nI J)), some (.int (m 21 ((J * 6) + I)))], [], m)) rfl ?_
              refine mz_ifT q5 ?_
              refine mz_go 6 (c' := (49, [some (.ref 20), some (.int (nI I)), some (.int (nI J)), some (.int (m 21 ((J * 6) + I)))], [.int (m 21 ((J * 6) + I)), .int ((nI J) + 1), .int (nI I), .ref 20], m)) rfl ?_
              refine mz_do (R := mz_r13) (as := [.ref 20, .int (nI I), .int ((nI J) + 1), .int (m 21 ((J * 6) + I))]) (rest := []) (r1 := some (.int ve4)) (m1 := m) rfl (Ee4.deep (by decide)) ?_
              refine mz_go 1 (c' := (if ve4 = 0 then 59 else 55, [some (.ref 20), some (.int (nI I)), some (.int (nI J)), some (.int (m 21 ((J * 6) + I)))], [], m)) rfl ?_
              refine mz_ifT q6 ?_
              refine mz_go 1 (c' := (60, [some (.ref 20), some (.int (nI I)), some (.int (nI J)), some (.int (m 21 ((J * 6) + I)))], [.int 0], m)) rfl ?_
              exact mz_ret rfl
            · refine ⟨1, ⟨?_, rfl⟩, (by unfold vq_ed; rw [vq_m1 q1]; rw [← Pe1, if_pos q2]; rw [← Pe2, if_pos q3]; rw [vq_m1 q4]; rw [← Pe3, if_pos q5]; rw [← Pe4, if_neg q6])⟩
              refine mz_go 3 (c' := (3, [some (.ref 20), some (.int (nI I)), some (.int (nI J)), none], [.int (nI J), .int (nI I), .ref 20], m)) rfl ?_
              refine mz_do (R := mz_r7) (as := [.ref 20, .int (nI I), .int (nI J)]) (rest := []) (r1 := some (.int (m 21 ((J * 6) + I)))) (m1 := m) rfl ⟨?_, rfl⟩ ?_
              · refine mz_go 3 (c' := (3, [some (.ref 20), some (.int (nI I)), some (.int (nI J))], [.int (nI J), .int (nI I), .ref 20], m)) rfl ?_
                refine mz_do (R := mz_r4) (as := [.ref 20, .int (nI I), .int (nI J)]) (rest := []) (r1 := some (.int 1)) (m1 := m) rfl ⟨?_, rfl⟩ ?_
                · refine mz_go 2 (c' := (if (nI I) < 0 then 40 else 4, [some (.ref 20), some (.int (nI I)), some (.int (nI J))], [], m)) rfl ?_
                  refine mz_ifF (show ¬ ((nI I) < 0) from (sm_nltN rfl rfl (show 0 ≤ I by omega) (show I < 2 ^ 31 by omega))) ?_
                  refine mz_go 3 (c' := (9, [some (.ref 20), some (.int (nI I)), some (.int (nI J))], [.int (m 20 2), .int (nI I)], m)) rfl ?_
                  rw [h202]
                  refine mz_go 1 (c' := (if (nI WW) ≤ (nI I) then 40 else 12, [some (.ref 20), some (.int (nI I)), some (.int (nI J))], [], m)) rfl ?_
                  refine mz_ifF (show ¬ ((nI WW) ≤ (nI I)) from (sm_nleN rfl rfl (show I < WW by omega) (show WW < 2 ^ 31 by omega))) ?_
                  refine mz_go 3 (c' := (if 6 ≤ (nI I) then 40 else 18, [some (.ref 20), some (.int (nI I)), some (.int (nI J))], [], m)) rfl ?_
                  refine mz_ifF (show ¬ (6 ≤ (nI I)) from (sm_nleN rfl rfl (show I < 6 by omega) (show 6 < 2 ^ 31 by omega))) ?_
                  refine mz_go 2 (c' := (if (nI J) < 0 then 40 else 22, [some (.ref 20), some (.int (nI I)), some (.int (nI J))], [], m)) rfl ?_
                  refine mz_ifF (show ¬ ((nI J) < 0) from (sm_nltN rfl rfl (show 0 ≤ J by omega) (show J < 2 ^ 31 by omega))) ?_
                  refine mz_go 3 (c' := (27, [some (.ref 20), some (.int (nI I)), some (.int (nI J))], [.int (m 20 3), .int (nI J)], m)) rfl ?_
                  rw [h203]
                  refine mz_go 1 (c' := (if (nI HH) ≤ (nI J) then 40 else 30, [some (.ref 20), some (.int (nI I)), some (.int (nI J))], [], m)) rfl ?_
                  refine mz_ifF (show ¬ ((nI HH) ≤ (nI J)) from (sm_nleN rfl rfl (show J < HH by omega) (show HH < 2 ^ 31 by omega))) ?_
                  refine mz_go 3 (c' := (if 6 ≤ (nI J) then 40 else 36, [some (.ref 20), some (.int (nI I)), some (.int (nI J))], [], m)) rfl ?_
                  refine mz_ifF (show ¬ (6 ≤ (nI J)) from (sm_nleN rfl rfl (show J < 6 by omega) (show 6 < 2 ^ 31 by omega))) ?_
                  refine mz_go 2 (c' := (41, [some (.ref 20), some (.int (nI I)), some (.int (nI J))], [.int 1], m)) rfl ?_
                  exact mz_ret rfl
                refine mz_go 8 (c' := (19, [some (.ref 20), some (.int (nI I)), some (.int (nI J))], [.int (((nI J) * 6) + (nI I)), .ref 21], m)) rfl ?_
                refine mz_arr (c' := (20, [some (.ref 20), some (.int (nI I)), some (.int (nI J))], [.int (m 21 ((((nI J) * 6) + (nI I)).toNatClampNeg))], m)) rfl (show mz_in (((nI J) * 6) + (nI I)) 36 = true from sm_inN (sm_addN (sm_mulN rfl rfl) rfl) (show ((J * 6) + I) < 36 by omega) (by decide)) ?_
                rw [show (((nI J) * 6) + (nI I) : Int32).toNatClampNeg = ((J * 6) + I) from sm_clN (sm_addN (sm_mulN rfl rfl) rfl) (show ((J * 6) + I) < 2 ^ 31 by omega)]
                refine mz_go 1 (c' := (25, [some (.ref 20), some (.int (nI I)), some (.int (nI J))], [.int (m 21 ((J * 6) + I))], m)) rfl ?_
                exact mz_ret rfl
              refine mz_go 5 (c' := (11, [some (.ref 20), some (.int (nI I)), some (.int (nI J)), some (.int (m 21 ((J * 6) + I)))], [.int ((nI I) - 1), .ref 20], m)) rfl ?_
              rw [show nI I - 1 = -1 from by rw [show I = 0 by omega]; decide]
              refine mz_go 2 (c' := (13, [some (.ref 20), some (.int (nI I)), some (.int (nI J)), some (.int (m 21 ((J * 6) + I)))], [.int (m 21 ((J * 6) + I)), .int (nI J), .int (-1), .ref 20], m)) rfl ?_
              refine mz_do (R := mz_r13) (as := [.ref 20, .int (-1), .int (nI J), .int (m 21 ((J * 6) + I))]) (rest := []) (r1 := some (.int ve1)) (m1 := m) rfl (Ee1.deep (by decide)) ?_
              refine mz_go 1 (c' := (if ve1 = 0 then 19 else 55, [some (.ref 20), some (.int (nI I)), some (.int (nI J)), some (.int (m 21 ((J * 6) + I)))], [], m)) rfl ?_
              refine mz_ifT q2 ?_
              refine mz_go 6 (c' := (25, [some (.ref 20), some (.int (nI I)), some (.int (nI J)), some (.int (m 21 ((J * 6) + I)))], [.int (m 21 ((J * 6) + I)), .int (nI J), .int ((nI I) + 1), .ref 20], m)) rfl ?_
              refine mz_do (R := mz_r13) (as := [.ref 20, .int ((nI I) + 1), .int (nI J), .int (m 21 ((J * 6) + I))]) (rest := []) (r1 := some (.int ve2)) (m1 := m) rfl (Ee2.deep (by decide)) ?_
              refine mz_go 1 (c' := (if ve2 = 0 then 31 else 55, [some (.ref 20), some (.int (nI I)), some (.int (nI J)), some (.int (m 21 ((J * 6) + I)))], [], m)) rfl ?_
              refine mz_ifT q3 ?_
              refine mz_go 5 (c' := (36, [some (.ref 20), some (.int (nI I)), some (.int (nI J)), some (.int (m 21 ((J * 6) + I)))], [.int ((nI J) - 1), .int (nI I), .ref 20], m)) rfl ?_
              rw [show nI J - 1 = -1 from by rw [show J = 0 by omega]; decide]
              refine mz_go 1 (c' := (37, [some (.ref 20), some (.int (nI I)), some (.int (nI J)), some (.int (m 21 ((J * 6) + I)))], [.int (m 21 ((J * 6) + I)), .int (-1), .int (nI I), .ref 20], m)) rfl ?_
              refine mz_do (R := mz_r13) (as := [.ref 20, .int (nI I), .int (-1), .int (m 21 ((J * 6) + I))]) (rest := []) (r1 := some (.int ve3)) (m1 := m) rfl (Ee3.deep (by decide)) ?_
              refine mz_go 1 (c' := (if ve3 = 0 then 43 else 55, [some (.ref 20), some (.int (nI I)), some (.int (nI J)), some (.int (m 21 ((J * 6) + I)))], [], m)) rfl ?_
              refine mz_ifT q5 ?_
              refine mz_go 6 (c' := (49, [some (.ref 20), some (.int (nI I)), some (.int (nI J)), some (.int (m 21 ((J * 6) + I)))], [.int (m 21 ((J * 6) + I)), .int ((nI J) + 1), .int (nI I), .ref 20], m)) rfl ?_
              refine mz_do (R := mz_r13) (as := [.ref 20, .int (nI I), .int ((nI J) + 1), .int (m 21 ((J * 6) + I))]) (rest := []) (r1 := some (.int ve4)) (m1 := m) rfl (Ee4.deep (by decide)) ?_
              refine mz_go 1 (c' := (if ve4 = 0 then 59 else 55, [some (.ref 20), some (.int (nI I)), some (.int (nI J)), some (.int (m 21 ((J * 6) + I)))], [], m)) rfl ?_
              refine mz_ifF q6 ?_
              refine mz_go 2 (c' := (60, [some (.ref 20), some (.int (nI I)), some (.int (nI J)), some (.int (m 21 ((J * 6) + I)))], [.int 1], m)) rfl ?_
              exact mz_ret rfl
          · refine ⟨1, ⟨?_, rfl⟩, (by unfold vq_ed; rw [vq_m1 q1]; rw [← Pe1, if_pos q2]; rw [← Pe2, if_pos q3]; rw [vq_m1 q4]; rw [← Pe3, if_neg q5])⟩
            refine mz_go 3 (c' := (3, [some (.ref 20), some (.int (nI I)), some (.int (nI J)), none], [.int (nI J), .int (nI I), .ref 20], m)) rfl ?_
            refine mz_do (R := mz_r7) (as := [.ref 20, .int (nI I), .int (nI J)]) (rest := []) (r1 := some (.int (m 21 ((J * 6) + I)))) (m1 := m) rfl ⟨?_, rfl⟩ ?_
            · refine mz_go 3 (c' := (3, [some (.ref 20), some (.int (nI I)), some (.int (nI J))], [.int (nI J), .int (nI I), .ref 20], m)) rfl ?_
              refine mz_do (R := mz_r4) (as := [.ref 20, .int (nI I), .int (nI J)]) (rest := []) (r1 := some (.int 1)) (m1 := m) rfl ⟨?_, rfl⟩ ?_
              · refine mz_go 2 (c' := (if (nI I) < 0 then 40 else 4, [some (.ref 20), some (.int (nI I)), some (.int (nI J))], [], m)) rfl ?_
                refine mz_ifF (show ¬ ((nI I) < 0) from (sm_nltN rfl rfl (show 0 ≤ I by omega) (show I < 2 ^ 31 by omega))) ?_
                refine mz_go 3 (c' := (9, [some (.ref 20), some (.int (nI I)), some (.int (nI J))], [.int (m 20 2), .int (nI I)], m)) rfl ?_
                rw [h202]
                refine mz_go 1 (c' := (if (nI WW) ≤ (nI I) then 40 else 12, [some (.ref 20), some (.int (nI I)), some (.int (nI J))], [], m)) rfl ?_
                refine mz_ifF (show ¬ ((nI WW) ≤ (nI I)) from (sm_nleN rfl rfl (show I < WW by omega) (show WW < 2 ^ 31 by omega))) ?_
                refine mz_go 3 (c' := (if 6 ≤ (nI I) then 40 else 18, [some (.ref 20), some (.int (nI I)), some (.int (nI J))], [], m)) rfl ?_
                refine mz_ifF (show ¬ (6 ≤ (nI I)) from (sm_nleN rfl rfl (show I < 6 by omega) (show 6 < 2 ^ 31 by omega))) ?_
                refine mz_go 2 (c' := (if (nI J) < 0 then 40 else 22, [some (.ref 20), some (.int (nI I)), some (.int (nI J))], [], m)) rfl ?_
                refine mz_ifF (show ¬ ((nI J) < 0) from (sm_nltN rfl rfl (show 0 ≤ J by omega) (show J < 2 ^ 31 by omega))) ?_
                refine mz_go 3 (c' := (27, [some (.ref 20), some (.int (nI I)), some (.int (nI J))], [.int (m 20 3), .int (nI J)], m)) rfl ?_
                rw [h203]
                refine mz_go 1 (c' := (if (nI HH) ≤ (nI J) then 40 else 30, [some (.ref 20), some (.int (nI I)), some (.int (nI J))], [], m)) rfl ?_
                refine mz_ifF (show ¬ ((nI HH) ≤ (nI J)) from (sm_nleN rfl rfl (show J < HH by omega) (show HH < 2 ^ 31 by omega))) ?_
                refine mz_go 3 (c' := (if 6 ≤ (nI J) then 40 else 36, [some (.ref 20), some (.int (nI I)), some (.int (nI J))], [], m)) rfl ?_
                refine mz_ifF (show ¬ (6 ≤ (nI J)) from (sm_nleN rfl rfl (show J < 6 by omega) (show 6 < 2 ^ 31 by omega))) ?_
                refine mz_go 2 (c' := (41, [some (.ref 20), some (.int (nI I)), some (.int (nI J))], [.int 1], m)) rfl ?_
                exact mz_ret rfl
              refine mz_go 8 (c' := (19, [some (.ref 20), some (.int (nI I)), some (.int (nI J))], [.int (((nI J) * 6) + (nI I)), .ref 21], m)) rfl ?_
              refine mz_arr (c' := (20, [some (.ref 20), some (.int (nI I)), some (.int (nI J))], [.int (m 21 ((((nI J) * 6) + (nI I)).toNatClampNeg))], m)) rfl (show mz_in (((nI J) * 6) + (nI I)) 36 = true from sm_inN (sm_addN (sm_mulN rfl rfl) rfl) (show ((J * 6) + I) < 36 by omega) (by decide)) ?_
              rw [show (((nI J) * 6) + (nI I) : Int32).toNatClampNeg = ((J * 6) + I) from sm_clN (sm_addN (sm_mulN rfl rfl) rfl) (show ((J * 6) + I) < 2 ^ 31 by omega)]
              refine mz_go 1 (c' := (25, [some (.ref 20), some (.int (nI I)), some (.int (nI J))], [.int (m 21 ((J * 6) + I))], m)) rfl ?_
              exact mz_ret rfl
            refine mz_go 5 (c' := (11, [some (.ref 20), some (.int (nI I)), some (.int (nI J)), some (.int (m 21 ((J * 6) + I)))], [.int ((nI I) - 1), .ref 20], m)) rfl ?_
            rw [show nI I - 1 = -1 from by rw [show I = 0 by omega]; decide]
            refine mz_go 2 (c' := (13, [some (.ref 20), some (.int (nI I)), some (.int (nI J)), some (.int (m 21 ((J * 6) + I)))], [.int (m 21 ((J * 6) + I)), .int (nI J), .int (-1), .ref 20], m)) rfl ?_
            refine mz_do (R := mz_r13) (as := [.ref 20, .int (-1), .int (nI J), .int (m 21 ((J * 6) + I))]) (rest := []) (r1 := some (.int ve1)) (m1 := m) rfl (Ee1.deep (by decide)) ?_
            refine mz_go 1 (c' := (if ve1 = 0 then 19 else 55, [some (.ref 20), some (.int (nI I)), some (.int (nI J)), some (.int (m 21 ((J * 6) + I)))], [], m)) rfl ?_
            refine mz_ifT q2 ?_
            refine mz_go 6 (c' := (25, [some (.ref 20), some (.int (nI I)), some (.int (nI J)), some (.int (m 21 ((J * 6) + I)))], [.int (m 21 ((J * 6) + I)), .int (nI J), .int ((nI I) + 1), .ref 20], m)) rfl ?_
            refine mz_do (R := mz_r13) (as := [.ref 20, .int ((nI I) + 1), .int (nI J), .int (m 21 ((J * 6) + I))]) (rest := []) (r1 := some (.int ve2)) (m1 := m) rfl (Ee2.deep (by decide)) ?_
            refine mz_go 1 (c' := (if ve2 = 0 then 31 else 55, [some (.ref 20), some (.int (nI I)), some (.int (nI J)), some (.int (m 21 ((J * 6) + I)))], [], m)) rfl ?_
            refine mz_ifT q3 ?_
            refine mz_go 5 (c' := (36, [some (.ref 20), some (.int (nI I)), some (.int (nI J)), some (.int (m 21 ((J * 6) + I)))], [.int ((nI J) - 1), .int (nI I), .ref 20], m)) rfl ?_
            rw [show nI J - 1 = -1 from by rw [show J = 0 by omega]; decide]
            refine mz_go 1 (c' := (37, [some (.ref 20), some (.int (nI I)), some (.int (nI J)), some (.int (m 21 ((J * 6) + I)))], [.int (m 21 ((J * 6) + I)), .int (-1), .int (nI I), .ref 20], m)) rfl ?_
            refine mz_do (R := mz_r13) (as := [.ref 20, .int (nI I), .int (-1), .int (m 21 ((J * 6) + I))]) (rest := []) (r1 := some (.int ve3)) (m1 := m) rfl (Ee3.deep (by decide)) ?_
            refine mz_go 1 (c' := (if ve3 = 0 then 43 else 55, [some (.ref 20), some (.int (nI I)), some (.int (nI J)), some (.int (m 21 ((J * 6) + I)))], [], m)) rfl ?_
            refine mz_ifF q5 ?_
            refine mz_go 2 (c' := (60, [some (.ref 20), some (.int (nI I)), some (.int (nI J)), some (.int (m 21 ((J * 6) + I)))], [.int 1], m)) rfl ?_
            exact mz_ret rfl
        · obtain ⟨ve3, Ee3, Pe3⟩ := vc_oth (m := m) hWW hHH h202 h203 (nI I) ((nI J) - 1) (m 21 ((J * 6) + I))
          by_cases q7 : ve3 = 0
          · obtain ⟨ve4, Ee4, Pe4⟩ := vc_oth (m := m) hWW hHH h202 h203 (nI I) ((nI J) + 1) (m 21 ((J * 6) + I))
            by_cases q8 : ve4 = 0
            · refine ⟨0, ⟨?_, rfl⟩, (by unfold vq_ed; rw [vq_m1 q1]; rw [← Pe1, if_pos q2]; rw [← Pe2, if_pos q3]; rw [← Pe3, if_pos q7]; rw [← Pe4, if_pos q8])⟩
              refine mz_go 3 (c' := (3, [some (.ref 20), some (.int (nI I)), some (.int (nI J)), none], [.int (nI J), .int (nI I), .ref 20], m)) rfl ?_
              refine mz_do (R := mz_r7) (as := [.ref 20, .int (nI I), .int (nI J)]) (rest := []) (r1 := some (.int (m 21 ((J * 6) + I)))) (m1 := m) rfl ⟨?_, rfl⟩ ?_
              · refine mz_go 3 (c' := (3, [some (.ref 20), some (.int (nI I)), some (.int (nI J))], [.int (nI J), .int (nI I), .ref 20], m)) rfl ?_
                refine mz_do (R := mz_r4) (as := [.ref 20, .int (nI I), .int (nI J)]) (rest := []) (r1 := some (.int 1)) (m1 := m) rfl ⟨?_, rfl⟩ ?_
                · refine mz_go 2 (c' := (if (nI I) < 0 then 40 else 4, [some (.ref 20), some (.int (nI I)), some (.int (nI J))], [], m)) rfl ?_
                  refine mz_ifF (show ¬ ((nI I) < 0) from (sm_nltN rfl rfl (show 0 ≤ I by omega) (show I < 2 ^ 31 by omega))) ?_
                  refine mz_go 3 (c' := (9, [some (.ref 20), some (.int (nI I)), some (.int (nI J))], [.int (m 20 2), .int (nI I)], m)) rfl ?_
                  rw [h202]
                  refine mz_go 1 (c' := (if (nI WW) ≤ (nI I) then 40 else 12, [some (.ref 20), some (.int (nI I)), some (.int (nI J))], [], m)) rfl ?_
                  refine mz_ifF (show ¬ ((nI WW) ≤ (nI I)) from (sm_nleN rfl rfl (show I < WW by omega) (show WW < 2 ^ 31 by omega))) ?_
                  refine mz_go 3 (c' := (if 6 ≤ (nI I) then 40 else 18, [some (.ref 20), some (.int (nI I)), some (.int (nI J))], [], m)) rfl ?_
                  refine mz_ifF (show ¬ (6 ≤ (nI I)) from (sm_nleN rfl rfl (show I < 6 by omega) (show 6 < 2 ^ 31 by omega))) ?_
                  refine mz_go 2 (c' := (if (nI J) < 0 then 40 else 22, [some (.ref 20), some (.int (nI I)), some (.int (nI J))], [], m)) rfl ?_
                  refine mz_ifF (show ¬ ((nI J) < 0) from (sm_nltN rfl rfl (show 0 ≤ J by omega) (show J < 2 ^ 31 by omega))) ?_
                  refine mz_go 3 (c' := (27, [some (.ref 20), some (.int (nI I)), some (.int (nI J))], [.int (m 20 3), .int (nI J)], m)) rfl ?_
                  rw [h203]
                  refine mz_go 1 (c' := (if (nI HH) ≤ (nI J) then 40 else 30, [some (.ref 20), some (.int (nI I)), some (.int (nI J))], [], m)) rfl ?_
                  refine mz_ifF (show ¬ ((nI HH) ≤ (nI J)) from (sm_nleN rfl rfl (show J < HH by omega) (show HH < 2 ^ 31 by omega))) ?_
                  refine mz_go 3 (c' := (if 6 ≤ (nI J) then 40 else 36, [some (.ref 20), some (.int (nI I)), some (.int (nI J))], [], m)) rfl ?_
                  refine mz_ifF (show ¬ (6 ≤ (nI J)) from (sm_nleN rfl rfl (show J < 6 by omega) (show 6 < 2 ^ 31 by omega))) ?_
                  refine mz_go 2 (c' := (41, [some (.ref 20), some (.int (nI I)), some (.int (nI J))], [.int 1], m)) rfl ?_
                  exact mz_ret rfl
                refine mz_go 8 (c' := (19, [some (.ref 20), some (.int (nI I)), some (.int (nI J))], [.int (((nI J) * 6) + (nI I)), .ref 21], m)) rfl ?_
                refine mz_arr (c' := (20, [some (.ref 20), some (.int (nI I)), some (.int (nI J))], [.int (m 21 ((((nI J) * 6) + (nI I)).toNatClampNeg))], m)) rfl (show mz_in (((nI J) * 6) + (nI I)) 36 = true from sm_inN (sm_addN (sm_mulN rfl rfl) rfl) (show ((J * 6) + I) < 36 by omega) (by decide)) ?_
                rw [show (((nI J) * 6) + (nI I) : Int32).toNatClampNeg = ((J * 6) + I) from sm_clN (sm_addN (sm_mulN rfl rfl) rfl) (show ((J * 6) + I) < 2 ^ 31 by omega)]
                refine mz_go 1 (c' := (25, [some (.ref 20), some (.int (nI I)), some (.int (nI J))], [.int (m 21 ((J * 6) + I))], m)) rfl ?_
                exact mz_ret rfl
              refine mz_go 5 (c' := (11, [some (.ref 20), some (.int (nI I)), some (.int (nI J)), some (.int (m 21 ((J * 6) + I)))], [.int ((nI I) - 1), .ref 20], m)) rfl ?_
              rw [show nI I - 1 = -1 from by rw [show I = 0 by omega]; decide]
              refine mz_go 2 (c' := (13, [some (.ref 20), some (.int (nI I)), some (.int (nI J)), some (.int (m 21 ((J * 6) + I)))], [.int (m 21 ((J * 6) + I)), .int (nI J), .int (-1), .ref 20], m)) rfl ?_
              refine mz_do (R := mz_r13) (as := [.ref 20, .int (-1), .int (nI J), .int (m 21 ((J * 6) + I))]) (rest := []) (r1 := some (.int ve1)) (m1 := m) rfl (Ee1.deep (by decide)) ?_
              refine mz_go 1 (c' := (if ve1 = 0 then 19 else 55, [some (.ref 20), some (.int (nI I)), some (.int (nI J)), some (.int (m 21 ((J * 6) + I)))], [], m)) rfl ?_
              refine mz_ifT q2 ?_
              refine mz_go 6 (c' := (25, [some (.ref 20), some (.int (nI I)), some (.int (nI J)), some (.int (m 21 ((J * 6) + I)))], [.int (m 21 ((J * 6) + I)), .int (nI J), .int ((nI I) + 1), .ref 20], m)) rfl ?_
              refine mz_do (R := mz_r13) (as := [.ref 20, .int ((nI I) + 1), .int (nI J), .int (m 21 ((J * 6) + I))]) (rest := []) (r1 := some (.int ve2)) (m1 := m) rfl (Ee2.deep (by decide)) ?_
              refine mz_go 1 (c' := (if ve2 = 0 then 31 else 55, [some (.ref 20), some (.int (nI I)), some (.int (nI J)), some (.int (m 21 ((J * 6) + I)))], [], m)) rfl ?_
              refine mz_ifT q3 ?_
              refine mz_go 6 (c' := (37, [some (.ref 20), some (.int (nI I)), some (.int (nI J)), some (.int (m 21 ((J * 6) + I)))], [.int (m 21 ((J * 6) + I)), .int ((nI J) - 1), .int (nI I), .ref 20], m)) rfl ?_
              refine mz_do (R := mz_r13) (as := [.ref 20, .int (nI I), .int ((nI J) - 1), .int (m 21 ((J * 6) + I))]) (rest := []) (r1 := some (.int ve3)) (m1 := m) rfl (Ee3.deep (by decide)) ?_
              refine mz_go 1 (c' := (if ve3 = 0 then 43 else 55, [some (.ref 20), some (.int (nI I)), some (.int (nI J)), some (.int (m 21 ((J * 6) + I)))], [], m)) rfl ?_
              refine mz_ifT q7 ?_
              refine mz_go 6 (c' := (49, [some (.ref 20), some (.int (nI I)), some (.int (nI J)), some (.int (m 21 ((J * 6) + I)))], [.int (m 21 ((J * 6) + I)), .int ((nI J) + 1), .int (nI I), .ref 20], m)) rfl ?_
              refine mz_do (R := mz_r13) (as := [.ref 20, .int (nI I), .int ((nI J) + 1), .int (m 21 ((J * 6) + I))]) (rest := []) (r1 := some (.int ve4)) (m1 := m) rfl (Ee4.deep (by decide)) ?_
              refine mz_go 1 (c' := (if ve4 = 0 then 59 else 55, [some (.ref 20), some (.int (nI I)), some (.int (nI J)), some (.int (m 21 ((J * 6) + I)))], [], m)) rfl ?_
              refine mz_ifT q8 ?_
              refine mz_go 1 (c' := (60, [some (.ref 20), some (.int (nI I)), some (.int (nI J)), some (.int (m 21 ((J * 6) + I)))], [.int 0], m)) rfl ?_
              exact mz_ret rfl
            · refine ⟨1, ⟨?_, rfl⟩, (by unfold vq_ed; rw [vq_m1 q1]; rw [← Pe1, if_pos q2]; rw [← Pe2, if_pos q3]; rw [← Pe3, if_pos q7]; rw [← Pe4, if_neg q8])⟩
              refine mz_go 3 (c' := (3, [some (.ref 20), some (.int (nI I)), some (.int (nI J)), none], [.int (nI J), .int (nI I), .ref 20], m)) rfl ?_
              refine mz_do (R := mz_r7) (as := [.ref 20, .int (nI I), .int (nI J)]) (rest := []) (r1 := some (.int (m 21 ((J * 6) + I)))) (m1 := m) rfl ⟨?_, rfl⟩ ?_
              · refine mz_go 3 (c' := (3, [some (.ref 20), some (.int (nI I)), some (.int (nI J))], [.int (nI J), .int (nI I), .ref 20], m)) rfl ?_
                refine mz_do (R := mz_r4) (as := [.ref 20, .int (nI I), .int (nI J)]) (rest := []) (r1 := some (.int 1)) (m1 := m) rfl ⟨?_, rfl⟩ ?_
                · refine mz_go 2 (c' := (if (nI I) < 0 then 40 else 4, [some (.ref 20), some (.int (nI I)), some (.int (nI J))], [], m)) rfl ?_
                  refine mz_ifF (show ¬ ((nI I) < 0) from (sm_nltN rfl rfl (show 0 ≤ I by omega) (show I < 2 ^ 31 by omega))) ?_
                  refine mz_go 3 (c' := (9, [some (.ref 20), some (.int (nI I)), some (.int (nI J))], [.int (m 20 2), .int (nI I)], m)) rfl ?_
                  rw [h202]
                  refine mz_go 1 (c' := (if (nI WW) ≤ (nI I) then 40 else 12, [some (.ref 20), some (.int (nI I)), some (.int (nI J))], [], m)) rfl ?_
                  refine mz_ifF (show ¬ ((nI WW) ≤ (nI I)) from (sm_nleN rfl rfl (show I < WW by omega) (show WW < 2 ^ 31 by omega))) ?_
                  refine mz_go 3 (c' := (if 6 ≤ (nI I) then 40 else 18, [some (.ref 20), some (.int (nI I)), some (.int (nI J))], [], m)) rfl ?_
                  refine mz_ifF (show ¬ (6 ≤ (nI I)) from (sm_nleN rfl rfl (show I < 6 by omega) (show 6 < 2 ^ 31 by omega))) ?_
                  refine mz_go 2 (c' := (if (nI J) < 0 then 40 else 22, [some (.ref 20), some (.int (nI I)), some (.int (nI J))], [], m)) rfl ?_
                  refine mz_ifF (show ¬ ((nI J) < 0) from (sm_nltN rfl rfl (show 0 ≤ J by omega) (show J < 2 ^ 31 by omega))) ?_
                  refine mz_go 3 (c' := (27, [some (.ref 20), some (.int (nI I)), some (.int (nI J))], [.int (m 20 3), .int (nI J)], m)) rfl ?_
                  rw [h203]
                  refine mz_go 1 (c' := (if (nI HH) ≤ (nI J) then 40 else 30, [some (.ref 20), some (.int (nI I)), some (.int (nI J))], [], m)) rfl ?_
                  refine mz_ifF (show ¬ ((nI HH) ≤ (nI J)) from (sm_nleN rfl rfl (show J < HH by omega) (show HH < 2 ^ 31 by omega))) ?_
                  refine mz_go 3 (c' := (if 6 ≤ (nI J) then 40 else 36, [some (.ref 20), some (.int (nI I)), some (.int (nI J))], [], m)) rfl ?_
                  refine mz_ifF (show ¬ (6 ≤ (nI J)) from (sm_nleN rfl rfl (show J < 6 by omega) (show 6 < 2 ^ 31 by omega))) ?_
                  refine mz_go 2 (c' := (41, [some (.ref 20), some (.int (nI I)), some (.int (nI J))], [.int 1], m)) rfl ?_
                  exact mz_ret rfl
                refine mz_go 8 (c' := (19, [some (.ref 20), some (.int (nI I)), some (.int (nI J))], [.int (((nI J) * 6) + (nI I)), .ref 21], m)) rfl ?_
                refine mz_arr (c' := (20, [some (.ref 20), some (.int (nI I)), some (.int (nI J))], [.int (m 21 ((((nI J) * 6) + (nI I)).toNatClampNeg))], m)) rfl (show mz_in (((nI J) * 6) + (nI I)) 36 = true from sm_inN (sm_addN (sm_mulN rfl rfl) rfl) (show ((J * 6) + I) < 36 by omega) (by decide)) ?_
                rw [show (((nI J) * 6) + (nI I) : Int32).toNatClampNeg = ((J * 6) + I) from sm_clN (sm_addN (sm_mulN rfl rfl) rfl) (show ((J * 6) + I) < 2 ^ 31 by omega)]
                refine mz_go 1 (c' := (25, [some (.ref 20), some (.int (nI I)), some (.int (nI J))], [.int (m 21 ((J * 6) + I))], m)) rfl ?_
                exact mz_ret rfl
              refine mz_go 5 (c' := (11, [some (.ref 20), some (.int (nI I)), some (.int (nI J)), some (.int (m 21 ((J * 6) + I)))], [.int ((nI I) - 1), .ref 20], m)) rfl ?_
              rw [show nI I - 1 = -1 from by rw [show I = 0 by omega]; decide]
              refine mz_go 2 (c' := (13, [some (.ref 20), some (.int (nI I)), some (.int (nI J)), some (.int (m 21 ((J * 6) + I)))], [.int (m 21 ((J * 6) + I)), .int (nI J), .int (-1), .ref 20], m)) rfl ?_
              refine mz_do (R := mz_r13) (as := [.ref 20, .int (-1), .int (nI J), .int (m 21 ((J * 6) + I))]) (rest := []) (r1 := some (.int ve1)) (m1 := m) rfl (Ee1.deep (by decide)) ?_
              refine mz_go 1 (c' := (if ve1 = 0 then 19 else 55, [some (.ref 20), some (.int (nI I)), some (.int (nI J)), some (.int (m 21 ((J * 6) + I)))], [], m)) rfl ?_
              refine mz_ifT q2 ?_
              refine mz_go 6 (c' := (25, [some (.ref 20), some (.int (nI I)), some (.int (nI J)), some (.int (m 21 ((J * 6) + I)))], [.int (m 21 ((J * 6) + I)), .int (nI J), .int ((nI I) + 1), .ref 20], m)) rfl ?_
              refine mz_do (R := mz_r13) (as := [.ref 20, .int ((nI I) + 1), .int (nI J), .int (m 21 ((J * 6) + I))]) (rest := []) (r1 := some (.int ve2)) (m1 := m) rfl (Ee2.deep (by decide)) ?_
              refine mz_go 1 (c' := (if ve2 = 0 then 31 else 55, [some (.ref 20), some (.int (nI I)), some (.int (nI J)), some (.int (m 21 ((J * 6) + I)))], [], m)) rfl ?_
              refine mz_ifT q3 ?_
              refine mz_go 6 (c' := (37, [some (.ref 20), some (.int (nI I)), some (.int (nI J)), some (.int (m 21 ((J * 6) + I)))], [.int (m 21 ((J * 6) + I)), .int ((nI J) - 1), .int (nI I), .ref 20], m)) rfl ?_
              refine mz_do (R := mz_r13) (as := [.ref 20, .int (nI I), .int ((nI J) - 1), .int (m 21 ((J * 6) + I))]) (rest := []) (r1 := some (.int ve3)) (m1 := m) rfl (Ee3.deep (by decide)) ?_
              refine mz_go 1 (c' := (if ve3 = 0 then 43 else 55, [some (.ref 20), some (.int (nI I)), some (.int (nI J)), some (.int (m 21 ((J * 6) + I)))], [], m)) rfl ?_
              refine mz_ifT q7 ?_
              refine mz_go 6 (c' := (49, [some (.ref 20), some (.int (nI I)), some (.int (nI J)), some (.int (m 21 ((J * 6) + I)))], [.int (m 21 ((J * 6) + I)), .int ((nI J) + 1), .int (nI I), .ref 20], m)) rfl ?_
              refine mz_do (R := mz_r13) (as := [.ref 20, .int (nI I), .int ((nI J) + 1), .int (m 21 ((J * 6) + I))]) (rest := []) (r1 := some (.int ve4)) (m1 := m) rfl (Ee4.deep (by decide)) ?_
              refine mz_go 1 (c' := (if ve4 = 0 then 59 else 55, [some (.ref 20), some (.int (nI I)), some (.int (nI J)), some (.int (m 21 ((J * 6) + I)))], [], m)) rfl ?_
              refine mz_ifF q8 ?_
              refine mz_go 2 (c' := (60, [some (.ref 20), some (.int (nI I)), some (.int (nI J)), some (.int (m 21 ((J * 6) + I)))], [.int 1], m)) rfl ?_
              exact mz_ret rfl
          · refine ⟨1, ⟨?_, rfl⟩, (by unfold vq_ed; rw [vq_m1 q1]; rw [← Pe1, if_pos q2]; rw [← Pe2, if_pos q3]; rw [← Pe3, if_neg q7])⟩
            refine mz_go 3 (c' := (3, [some (.ref 20), some (.int (nI I)), some (.int (nI J)), none], [.int (nI J), .int (nI I), .ref 20], m)) rfl ?_
            refine mz_do (R := mz_r7) (as := [.ref 20, .int (nI I), .int (nI J)]) (rest := []) (r1 := some (.int (m 21 ((J * 6) + I)))) (m1 := m) rfl ⟨?_, rfl⟩ ?_
            · refine mz_go 3 (c' := (3, [some (.ref 20), some (.int (nI I)), some (.int (nI J))], [.int (nI J), .int (nI I), .ref 20], m)) rfl ?_
              refine mz_do (R := mz_r4) (as := [.ref 20, .int (nI I), .int (nI J)]) (rest := []) (r1 := some (.int 1)) (m1 := m) rfl ⟨?_, rfl⟩ ?_
              · refine mz_go 2 (c' := (if (nI I) < 0 then 40 else 4, [some (.ref 20), some (.int (nI I)), some (.int (nI J))], [], m)) rfl ?_
                refine mz_ifF (show ¬ ((nI I) < 0) from (sm_nltN rfl rfl (show 0 ≤ I by omega) (show I < 2 ^ 31 by omega))) ?_
                refine mz_go 3 (c' := (9, [some (.ref 20), some (.int (nI I)), some (.int (nI J))], [.int (m 20 2), .int (nI I)], m)) rfl ?_
                rw [h202]
                refine mz_go 1 (c' := (if (nI WW) ≤ (nI I) then 40 else 12, [some (.ref 20), some (.int (nI I)), some (.int (nI J))], [], m)) rfl ?_
                refine mz_ifF (show ¬ ((nI WW) ≤ (nI I)) from (sm_nleN rfl rfl (show I < WW by omega) (show WW < 2 ^ 31 by omega))) ?_
                refine mz_go 3 (c' := (if 6 ≤ (nI I) then 40 else 18, [some (.ref 20), some (.int (nI I)), some (.int (nI J))], [], m)) rfl ?_
                refine mz_ifF (show ¬ (6 ≤ (nI I)) from (sm_nleN rfl rfl (show I < 6 by omega) (show 6 < 2 ^ 31 by omega))) ?_
                refine mz_go 2 (c' := (if (nI J) < 0 then 40 else 22, [some (.ref 20), some (.int (nI I)), some (.int (nI J))], [], m)) rfl ?_
                refine mz_ifF (show ¬ ((nI J) < 0) from (sm_nltN rfl rfl (show 0 ≤ J by omega) (show J < 2 ^ 31 by omega))) ?_
                refine mz_go 3 (c' := (27, [some (.ref 20), some (.int (nI I)), some (.int (nI J))], [.int (m 20 3), .int (nI J)], m)) rfl ?_
                rw [h203]
                refine mz_go 1 (c' := (if (nI HH) ≤ (nI J) then 40 else 30, [some (.ref 20), some (.int (nI I)), some (.int (nI J))], [], m)) rfl ?_
                refine mz_ifF (show ¬ ((nI HH) ≤ (nI J)) from (sm_nleN rfl rfl (show J < HH by omega) (show HH < 2 ^ 31 by omega))) ?_
                refine mz_go 3 (c' := (if 6 ≤ (nI J) then 40 else 36, [some (.ref 20), some (.int (nI I)), some (.int (nI J))], [], m)) rfl ?_
                refine mz_ifF (show ¬ (6 ≤ (nI J)) from (sm_nleN rfl rfl (show J < 6 by omega) (show 6 < 2 ^ 31 by omega))) ?_
                refine mz_go 2 (c' := (41, [some (.ref 20), some (.int (nI I)), some (.int (nI J))], [.int 1], m)) rfl ?_
                exact mz_ret rfl
              refine mz_go 8 (c' := (19, [some (.ref 20), some (.int (nI I)), some (.int (nI J))], [.int (((nI J) * 6) + (nI I)), .ref 21], m)) rfl ?_
              refine mz_arr (c' := (20, [some (.ref 20), some (.int (nI I)), some (.int (nI J))], [.int (m 21 ((((nI J) * 6) + (nI I)).toNatClampNeg))], m)) rfl (show mz_in (((nI J) * 6) + (nI I)) 36 = true from sm_inN (sm_addN (sm_mulN rfl rfl) rfl) (show ((J * 6) + I) < 36 by omega) (by decide)) ?_
              rw [show (((nI J) * 6) + (nI I) : Int32).toNatClampNeg = ((J * 6) + I) from sm_clN (sm_addN (sm_mulN rfl rfl) rfl) (show ((J * 6) + I) < 2 ^ 31 by omega)]
              refine mz_go 1 (c' := (25, [some (.ref 20), some (.int (nI I)), some (.int (nI J))], [.int (m 21 ((J * 6) + I))], m)) rfl ?_
              exact mz_ret rfl
            refine mz_go 5 (c' := (11, [some (.ref 20), some (.int (nI I)), some (.int (nI J)), some (.int (m 21 ((J * 6) + I)))], [.int ((nI I) - 1), .ref 20], m)) rfl ?_
            rw [show nI I - 1 = -1 from by rw [show I = 0 by omega]; decide]
            refine mz_go 2 (c' := (13, [some (.ref 20), some (.int (nI I)), some (.int (nI J)), some (.int (m 21 ((J * 6) + I)))], [.int (m 21 ((J * 6) + I)), .int (nI J), .int (-1), .ref 20], m)) rfl ?_
            refine mz_do (R := mz_r13) (as := [.ref 20, .int (-1), .int (nI J), .int (m 21 ((J * 6) + I))]) (rest := []) (r1 := some (.int ve1)) (m1 := m) rfl (Ee1.deep (by decide)) ?_
            refine mz_go 1 (c' := (if ve1 = 0 then 19 else 55, [some (.ref 20), some (.int (nI I)), some (.int (nI J)), some (.int (m 21 ((J * 6) + I)))], [], m)) rfl ?_
            refine mz_ifT q2 ?_
            refine mz_go 6 (c' := (25, [some (.ref 20), some (.int (nI I)), some (.int (nI J)), some (.int (m 21 ((J * 6) + I)))], [.int (m 21 ((J * 6) + I)), .int (nI J), .int ((nI I) + 1), .ref 20], m)) rfl ?_
            refine mz_do (R := mz_r13) (as := [.ref 20, .int ((nI I) + 1), .int (nI J), .int (m 21 ((J * 6) + I))]) (rest := []) (r1 := some (.int ve2)) (m1 := m) rfl (Ee2.deep (by decide)) ?_
            refine mz_go 1 (c' := (if ve2 = 0 then 31 else 55, [some (.ref 20), some (.int (nI I)), some (.int (nI J)), some (.int (m 21 ((J * 6) + I)))], [], m)) rfl ?_
            refine mz_ifT q3 ?_
            refine mz_go 6 (c' := (37, [some (.ref 20), some (.int (nI I)), some (.int (nI J)), some (.int (m 21 ((J * 6) + I)))], [.int (m 21 ((J * 6) + I)), .int ((nI J) - 1), .int (nI I), .ref 20], m)) rfl ?_
            refine mz_do (R := mz_r13) (as := [.ref 20, .int (nI I), .int ((nI J) - 1), .int (m 21 ((J * 6) + I))]) (rest := []) (r1 := some (.int ve3)) (m1 := m) rfl (Ee3.deep (by decide)) ?_
            refine mz_go 1 (c' := (if ve3 = 0 then 43 else 55, [some (.ref 20), some (.int (nI I)), some (.int (nI J)), some (.int (m 21 ((J * 6) + I)))], [], m)) rfl ?_
            refine mz_ifF q7 ?_
            refine mz_go 2 (c' := (60, [some (.ref 20), some (.int (nI I)), some (.int (nI J)), some (.int (m 21 ((J * 6) + I)))], [.int 1], m)) rfl ?_
            exact mz_ret rfl
      · refine ⟨1, ⟨?_, rfl⟩, (by unfold vq_ed; rw [vq_m1 q1]; rw [← Pe1, if_pos q2]; rw [← Pe2, if_neg q3])⟩
        refine mz_go 3 (c' := (3, [some (.ref 20), some (.int (nI I)), some (.int (nI J)), none], [.int (nI J), .int (nI I), .ref 20], m)) rfl ?_
        refine mz_do (R := mz_r7) (as := [.ref 20, .int (nI I), .int (nI J)]) (rest := []) (r1 := some (.int (m 21 ((J * 6) + I)))) (m1 := m) rfl ⟨?_, rfl⟩ ?_
        · refine mz_go 3 (c' := (3, [some (.ref 20), some (.int (nI I)), some (.int (nI J))], [.int (nI J), .int (nI I), .ref 20], m)) rfl ?_
          refine mz_do (R := mz_r4) (as := [.ref 20, .int (nI I), .int (nI J)]) (rest := []) (r1 := some (.int 1)) (m1 := m) rfl ⟨?_, rfl⟩ ?_
          · refine mz_go 2 (c' := (if (nI I) < 0 then 40 else 4, [some (.ref 20), some (.int (nI I)), some (.int (nI J))], [], m)) rfl ?_
            refine mz_ifF (show ¬ ((nI I) < 0) from (sm_nltN rfl rfl (show 0 ≤ I by omega) (show I < 2 ^ 31 by omega))) ?_
            refine mz_go 3 (c' := (9, [some (.ref 20), some (.int (nI I)), some (.int (nI J))], [.int (m 20 2), .int (nI I)], m)) rfl ?_
            rw [h202]
            refine mz_go 1 (c' := (if (nI WW) ≤ (nI I) then 40 else 12, [some (.ref 20), some (.int (nI I)), some (.int (nI J))], [], m)) rfl ?_
            refine mz_ifF (show ¬ ((nI WW) ≤ (nI I)) from (sm_nleN rfl rfl (show I < WW by omega) (show WW < 2 ^ 31 by omega))) ?_
            refine mz_go 3 (c' := (if 6 ≤ (nI I) then 40 else 18, [some (.ref 20), some (.int (nI I)), some (.int (nI J))], [], m)) rfl ?_
            refine mz_ifF (show ¬ (6 ≤ (nI I)) from (sm_nleN rfl rfl (show I < 6 by omega) (show 6 < 2 ^ 31 by omega))) ?_
            refine mz_go 2 (c' := (if (nI J) < 0 then 40 else 22, [some (.ref 20), some (.int (nI I)), some (.int (nI J))], [], m)) rfl ?_
            refine mz_ifF (show ¬ ((nI J) < 0) from (sm_nltN rfl rfl (show 0 ≤ J by omega) (show J < 2 ^ 31 by omega))) ?_
            refine mz_go 3 (c' := (27, [some (.ref 20), some (.int (nI I)), some (.int (nI J))], [.int (m 20 3), .int (nI J)], m)) rfl ?_
            rw [h203]
            refine mz_go 1 (c' := (if (nI HH) ≤ (nI J) then 40 else 30, [some (.ref 20), some (.int (nI I)), some (.int (nI J))], [], m)) rfl ?_
            refine mz_ifF (show ¬ ((nI HH) ≤ (nI J)) from (sm_nleN rfl rfl (show J < HH by omega) (show HH < 2 ^ 31 by omega))) ?_
            refine mz_go 3 (c' := (if 6 ≤ (nI J) then 40 else 36, [some (.ref 20), some (.int (nI I)), some (.int (nI J))], [], m)) rfl ?_
            refine mz_ifF (show ¬ (6 ≤ (nI J)) from (sm_nleN rfl rfl (show J < 6 by omega) (show 6 < 2 ^ 31 by omega))) ?_
            refine mz_go 2 (c' := (41, [some (.ref 20), some (.int (nI I)), some (.int (nI J))], [.int 1], m)) rfl ?_
            exact mz_ret rfl
          refine mz_go 8 (c' := (19, [some (.ref 20), some (.int (nI I)), some (.int (nI J))], [.int (((nI J) * 6) + (nI I)), .ref 21], m)) rfl ?_
          refine mz_arr (c' := (20, [some (.ref 20), some (.int (nI I)), some (.int (nI J))], [.int (m 21 ((((nI J) * 6) + (nI I)).toNatClampNeg))], m)) rfl (show mz_in (((nI J) * 6) + (nI I)) 36 = true from sm_inN (sm_addN (sm_mulN rfl rfl) rfl) (show ((J * 6) + I) < 36 by omega) (by decide)) ?_
          rw [show (((nI J) * 6) + (nI I) : Int32).toNatClampNeg = ((J * 6) + I) from sm_clN (sm_addN (sm_mulN rfl rfl) rfl) (show ((J * 6) + I) < 2 ^ 31 by omega)]
          refine mz_go 1 (c' := (25, [some (.ref 20), some (.int (nI I)), some (.int (nI J))], [.int (m 21 ((J * 6) + I))], m)) rfl ?_
          exact mz_ret rfl
        refine mz_go 5 (c' := (11, [some (.ref 20), some (.int (nI I)), some (.int (nI J)), some (.int (m 21 ((J * 6) + I)))], [.int ((nI I) - 1), .ref 20], m)) rfl ?_
        rw [show nI I - 1 = -1 from by rw [show I = 0 by omega]; decide]
        refine mz_go 2 (c' := (13, [some (.ref 20), some (.int (nI I)), some (.int (nI J)), some (.int (m 21 ((J * 6) + I)))], [.int (m 21 ((J * 6) + I)), .int (nI J), .int (-1), .ref 20], m)) rfl ?_
        refine mz_do (R := mz_r13) (as := [.ref 20, .int (-1), .int (nI J), .int (m 21 ((J * 6) + I))]) (rest := []) (r1 := some (.int ve1)) (m1 := m) rfl (Ee1.deep (by decide)) ?_
        refine mz_go 1 (c' := (if ve1 = 0 then 19 else 55, [some (.ref 20), some (.int (nI I)), some (.int (nI J)), some (.int (m 21 ((J * 6) + I)))], [], m)) rfl ?_
        refine mz_ifT q2 ?_
        refine mz_go 6 (c' := (25, [some (.ref 20), some (.int (nI I)), some (.int (nI J)), some (.int (m 21 ((J * 6) + I)))], [.int (m 21 ((J * 6) + I)), .int (nI J), .int ((nI I) + 1), .ref 20], m)) rfl ?_
        refine mz_do (R := mz_r13) (as := [.ref 20, .int ((nI I) + 1), .int (nI J), .int (m 21 ((J * 6) + I))]) (rest := []) (r1 := some (.int ve2)) (m1 := m) rfl (Ee2.deep (by decide)) ?_
        refine mz_go 1 (c' := (if ve2 = 0 then 31 else 55, [some (.ref 20), some (.int (nI I)), some (.int (nI J)), some (.int (m 21 ((J * 6) + I)))], [], m)) rfl ?_
        refine mz_ifF q3 ?_
        refine mz_go 2 (c' := (60, [some (.ref 20), some (.int (nI I)), some (.int (nI J)), some (.int (m 21 ((J * 6) + I)))], [.int 1], m)) rfl ?_
        exact mz_ret rfl
    · refine ⟨1, ⟨?_, rfl⟩, (by unfold vq_ed; rw [vq_m1 q1]; rw [← Pe1, if_neg q2])⟩
      refine mz_go 3 (c' := (3, [some (.ref 20), some (.int (nI I)), some (.int (nI J)), none], [.int (nI J), .int (nI I), .ref 20], m)) rfl ?_
      refine mz_do (R := mz_r7) (as := [.ref 20, .int (nI I), .int (nI J)]) (rest := []) (r1 := some (.int (m 21 ((J * 6) + I)))) (m1 := m) rfl ⟨?_, rfl⟩ ?_
      · refine mz_go 3 (c' := (3, [some (.ref 20), some (.int (nI I)), some (.int (nI J))], [.int (nI J), .int (nI I), .ref 20], m)) rfl ?_
        refine mz_do (R := mz_r4) (as := [.ref 20, .int (nI I), .int (nI J)]) (rest := []) (r1 := some (.int 1)) (m1 := m) rfl ⟨?_, rfl⟩ ?_
        · refine mz_go 2 (c' := (if (nI I) < 0 then 40 else 4, [some (.ref 20), some (.int (nI I)), some (.int (nI J))], [], m)) rfl ?_
          refine mz_ifF (show ¬ ((nI I) < 0) from (sm_nltN rfl rfl (show 0 ≤ I by omega) (show I < 2 ^ 31 by omega))) ?_
          refine mz_go 3 (c' := (9, [some (.ref 20), some (.int (nI I)), some (.int (nI J))], [.int (m 20 2), .int (nI I)], m)) rfl ?_
          rw [h202]
          refine mz_go 1 (c' := (if (nI WW) ≤ (nI I) then 40 else 12, [some (.ref 20), some (.int (nI I)), some (.int (nI J))], [], m)) rfl ?_
          refine mz_ifF (show ¬ ((nI WW) ≤ (nI I)) from (sm_nleN rfl rfl (show I < WW by omega) (show WW < 2 ^ 31 by omega))) ?_
          refine mz_go 3 (c' := (if 6 ≤ (nI I) then 40 else 18, [some (.ref 20), some (.int (nI I)), some (.int (nI J))], [], m)) rfl ?_
          refine mz_ifF (show ¬ (6 ≤ (nI I)) from (sm_nleN rfl rfl (show I < 6 by omega) (show 6 < 2 ^ 31 by omega))) ?_
          refine mz_go 2 (c' := (if (nI J) < 0 then 40 else 22, [some (.ref 20), some (.int (nI I)), some (.int (nI J))], [], m)) rfl ?_
          refine mz_ifF (show ¬ ((nI J) < 0) from (sm_nltN rfl rfl (show 0 ≤ J by omega) (show J < 2 ^ 31 by omega))) ?_
          refine mz_go 3 (c' := (27, [some (.ref 20), some (.int (nI I)), some (.int (nI J))], [.int (m 20 3), .int (nI J)], m)) rfl ?_
          rw [h203]
          refine mz_go 1 (c' := (if (nI HH) ≤ (nI J) then 40 else 30, [some (.ref 20), some (.int (nI I)), some (.int (nI J))], [], m)) rfl ?_
          refine mz_ifF (show ¬ ((nI HH) ≤ (nI J)) from (sm_nleN rfl rfl (show J < HH by omega) (show HH < 2 ^ 31 by omega))) ?_
          refine mz_go 3 (c' := (if 6 ≤ (nI J) then 40 else 36, [some (.ref 20), some (.int (nI I)), some (.int (nI J))], [], m)) rfl ?_
          refine mz_ifF (show ¬ (6 ≤ (nI J)) from (sm_nleN rfl rfl (show J < 6 by omega) (show 6 < 2 ^ 31 by omega))) ?_
          refine mz_go 2 (c' := (41, [some (.ref 20), some (.int (nI I)), some (.int (nI J))], [.int 1], m)) rfl ?_
          exact mz_ret rfl
        refine mz_go 8 (c' := (19, [some (.ref 20), some (.int (nI I)), some (.int (nI J))], [.int (((nI J) * 6) + (nI I)), .ref 21], m)) rfl ?_
        refine mz_arr (c' := (20, [some (.ref 20), some (.int (nI I)), some (.int (nI J))], [.int (m 21 ((((nI J) * 6) + (nI I)).toNatClampNeg))], m)) rfl (show mz_in (((nI J) * 6) + (nI I)) 36 = true from sm_inN (sm_addN (sm_mulN rfl rfl) rfl) (show ((J * 6) + I) < 36 by omega) (by decide)) ?_
        rw [show (((nI J) * 6) + (nI I) : Int32).toNatClampNeg = ((J * 6) + I) from sm_clN (sm_addN (sm_mulN rfl rfl) rfl) (show ((J * 6) + I) < 2 ^ 31 by omega)]
        refine mz_go 1 (c' := (25, [some (.ref 20), some (.int (nI I)), some (.int (nI J))], [.int (m 21 ((J * 6) + I))], m)) rfl ?_
        exact mz_ret rfl
      refine mz_go 5 (c' := (11, [some (.ref 20), some (.int (nI I)), some (.int (nI J)), some (.int (m 21 ((J * 6) + I)))], [.int ((nI I) - 1), .ref 20], m)) rfl ?_
      rw [show nI I - 1 = -1 from by rw [show I = 0 by omega]; decide]
      refine mz_go 2 (c' := (13, [some (.ref 20), some (.int (nI I)), some (.int (nI J)), some (.int (m 21 ((J * 6) + I)))], [.int (m 21 ((J * 6) + I)), .int (nI J), .int (-1), .ref 20], m)) rfl ?_
      refine mz_do (R := mz_r13) (as := [.ref 20, .int (-1), .int (nI J), .int (m 21 ((J * 6) + I))]) (rest := []) (r1 := some (.int ve1)) (m1 := m) rfl (Ee1.deep (by decide)) ?_
      refine mz_go 1 (c' := (if ve1 = 0 then 19 else 55, [some (.ref 20), some (.int (nI I)), some (.int (nI J)), some (.int (m 21 ((J * 6) + I)))], [], m)) rfl ?_
      refine mz_ifF q2 ?_
      refine mz_go 2 (c' := (60, [some (.ref 20), some (.int (nI I)), some (.int (nI J)), some (.int (m 21 ((J * 6) + I)))], [.int 1], m)) rfl ?_
      exact mz_ret rfl
  · obtain ⟨ve1, Ee1, Pe1⟩ := vc_oth (m := m) hWW hHH h202 h203 ((nI I) - 1) (nI J) (m 21 ((J * 6) + I))
    by_cases q9 : ve1 = 0
    · obtain ⟨ve2, Ee2, Pe2⟩ := vc_oth (m := m) hWW hHH h202 h203 ((nI I) + 1) (nI J) (m 21 ((J * 6) + I))
      by_cases q10 : ve2 = 0
      · by_cases q11 : J = 0
        · obtain ⟨ve3, Ee3, Pe3⟩ := vc_oth (m := m) hWW hHH h202 h203 (nI I) (-1) (m 21 ((J * 6) + I))
          by_cases q12 : ve3 = 0
          · obtain ⟨ve4, Ee4, Pe4⟩ := vc_oth (m := m) hWW hHH h202 h203 (nI I) ((nI J) + 1) (m 21 ((J * 6) + I))
            by_cases q13 : ve4 = 0
            · refine ⟨0, ⟨?_, rfl⟩, (by unfold vq_ed; rw [← Pe1, if_pos q9]; rw [← Pe2, if_pos q10]; rw [vq_m1 q11]; rw [← Pe3, if_pos q12]; rw [← Pe4, if_pos q13])⟩
              refine mz_go 3 (c' := (3, [some (.ref 20), some (.int (nI I)), some (.int (nI J)), none], [.int (nI J), .int (nI I), .ref 20], m)) rfl ?_
              refine mz_do (R := mz_r7) (as := [.ref 20, .int (nI I), .int (nI J)]) (rest := []) (r1 := some (.int (m 21 ((J * 6) + I)))) (m1 := m) rfl ⟨?_, rfl⟩ ?_
              · refine mz_go 3 (c' := (3, [some (.ref 20), some (.int (nI I)), some (.int (nI J))], [.int (nI J), .int (nI I), .ref 20], m)) rfl ?_
                refine mz_do (R := mz_r4) (as := [.ref 20, .int (nI I), .int (nI J)]) (rest := []) (r1 := some (.int 1)) (m1 := m) rfl ⟨?_, rfl⟩ ?_
                · refine mz_go 2 (c' := (if (nI I) < 0 then 40 else 4, [some (.ref 20), some (.int (nI I)), some (.int (nI J))], [], m)) rfl ?_
                  refine mz_ifF (show ¬ ((nI I) < 0) from (sm_nltN rfl rfl (show 0 ≤ I by omega) (show I < 2 ^ 31 by omega))) ?_
                  refine mz_go 3 (c' := (9, [some (.ref 20), some (.int (nI I)), some (.int (nI J))], [.int (m 20 2), .int (nI I)], m)) rfl ?_
                  rw [h202]
                  refine mz_go 1 (c' := (if (nI WW) ≤ (nI I) then 40 else 12, [some (.ref 20), some (.int (nI I)), some (.int (nI J))], [], m)) rfl ?_
                  refine mz_ifF (show ¬ ((nI WW) ≤ (nI I)) from (sm_nleN rfl rfl (show I < WW by omega) (show WW < 2 ^ 31 by omega))) ?_
                  refine mz_go 3 (c' := (if 6 ≤ (nI I) then 40 else 18, [some (.ref 20), some (.int (nI I)), some (.int (nI J))], [], m)) rfl ?_
                  refine mz_ifF (show ¬ (6 ≤ (nI I)) from (sm_nleN rfl rfl (show I < 6 by omega) (show 6 < 2 ^ 31 by omega))) ?_
                  refine mz_go 2 (c' := (if (nI J) < 0 then 40 else 22, [some (.ref 20), some (.int (nI I)), some (.int (nI J))], [], m)) rfl ?_
                  refine mz_ifF (show ¬ ((nI J) < 0) from (sm_nltN rfl rfl (show 0 ≤ J by omega) (show J < 2 ^ 31 by omega))) ?_
                  refine mz_go 3 (c' := (27, [some (.ref 20), some (.int (nI I)), some (.int (nI J))], [.int (m 20 3), .int (nI J)], m)) rfl ?_
                  rw [h203]
                  refine mz_go 1 (c' := (if (nI HH) ≤ (nI J) then 40 else 30, [some (.ref 20), some (.int (nI I)), some (.int (nI J))], [], m)) rfl ?_
                  refine mz_ifF (show ¬ ((nI HH) ≤ (nI J)) from (sm_nleN rfl rfl (show J < HH by omega) (show HH < 2 ^ 31 by omega))) ?_
                  refine mz_go 3 (c' := (if 6 ≤ (nI J) then 40 else 36, [some (.ref 20), some (.int (nI I)), some (.int (nI J))], [], m)) rfl ?_
                  refine mz_ifF (show ¬ (6 ≤ (nI J)) from (sm_nleN rfl rfl (show J < 6 by omega) (show 6 < 2 ^ 31 by omega))) ?_
                  refine mz_go 2 (c' := (41, [some (.ref 20), some (.int (nI I)), some (.int (nI J))], [.int 1], m)) rfl ?_
                  exact mz_ret rfl
                refine mz_go 8 (c' := (19, [some (.ref 20), some (.int (nI I)), some (.int (nI J))], [.int (((nI J) * 6) + (nI I)), .ref 21], m)) rfl ?_
                refine mz_arr (c' := (20, [some (.ref 20), some (.int (nI I)), some (.int (nI J))], [.int (m 21 ((((nI J) * 6) + (nI I)).toNatClampNeg))], m)) rfl (show mz_in (((nI J) * 6) + (nI I)) 36 = true from sm_inN (sm_addN (sm_mulN rfl rfl) rfl) (show ((J * 6) + I) < 36 by omega) (by decide)) ?_
                rw [show (((nI J) * 6) + (nI I) : Int32).toNatClampNeg = ((J * 6) + I) from sm_clN (sm_addN (sm_mulN rfl rfl) rfl) (show ((J * 6) + I) < 2 ^ 31 by omega)]
                refine mz_go 1 (c' := (25, [some (.ref 20), some (.int (nI I)), some (.int (nI J))], [.int (m 21 ((J * 6) + I))], m)) rfl ?_
                exact mz_ret rfl
              refine mz_go 7 (c' := (13, [some (.ref 20), some (.int (nI I)), some (.int (nI J)), some (.int (m 21 ((J * 6) + I)))], [.int (m 21 ((J * 6) + I)), .int (nI J), .int ((nI I) - 1), .ref 20], m)) rfl ?_
              refine mz_do (R := mz_r13) (as := [.ref 20, .int ((nI I) - 1), .int (nI J), .int (m 21 ((J * 6) + I))]) (rest := []) (r1 := some (.int ve1)) (m1 := m) rfl (Ee1.deep (by decide)) ?_
              refine mz_go 1 (c' := (if ve1 = 0 then 19 else 55, [some (.ref 20), some (.int (nI I)), some (.int (nI J)), some (.int (m 21 ((J * 6) + I)))], [], m)) rfl ?_
              refine mz_ifT q9 ?_
              refine mz_go 6 (c' := (25, [some (.ref 20), some (.int (nI I)), some (.int (nI J)), some (.int (m 21 ((J * 6) + I)))], [.int (m 21 ((J * 6) + I)), .int (nI J), .int ((nI I) + 1), .ref 20], m)) rfl ?_
              refine mz_do (R := mz_r13) (as := [.ref 20, .int ((nI I) + 1), .int (nI J), .int (m 21 ((J * 6) + I))]) (rest := []) (r1 := some (.int ve2)) (m1 := m) rfl (Ee2.deep (by decide)) ?_
              refine mz_go 1 (c' := (if ve2 = 0 then 31 else 55, [some (.ref 20), some (.int (nI I)), some (.int (nI J)), some (.int (m 21 ((J * 6) + I)))], [], m)) rfl ?_
              refine mz_ifT q10 ?_
              refine mz_go 5 (c' := (36, [some (.ref 20), some (.int (nI I)), some (.int (nI J)), some (.int (m 21 ((J * 6) + I)))], [.int ((nI J) - 1), .int (nI I), .ref 20], m)) rfl ?_
              rw [show nI J - 1 = -1 from by rw [show J = 0 by omega]; decide]
              refine mz_go 1 (c' := (37, [some (.ref 20), some (.int (nI I)), some (.int (nI J)), some (.int (m 21 ((J * 6) + I)))], [.int (m 21 ((J * 6) + I)), .int (-1), .int (nI I), .ref 20], m)) rfl ?_
              refine mz_do (R := mz_r13) (as := [.ref 20, .int (nI I), .int (-1), .int (m 21 ((J * 6) + I))]) (rest := []) (r1 := some (.int ve3)) (m1 := m) rfl (Ee3.deep (by decide)) ?_
              refine mz_go 1 (c' := (if ve3 = 0 then 43 else 55, [some (.ref 20), some (.int (nI I)), some (.int (nI J)), some (.int (m 21 ((J * 6) + I)))], [], m)) rfl ?_
              refine mz_ifT q12 ?_
              refine mz_go 6 (c' := (49, [some (.ref 20), some (.int (nI I)), some (.int (nI J)), some (.int (m 21 ((J * 6) + I)))], [.int (m 21 ((J * 6) + I)), .int ((nI J) + 1), .int (nI I), .ref 20], m)) rfl ?_
              refine mz_do (R := mz_r13) (as := [.ref 20, .int (nI I), .int ((nI J) + 1), .int (m 21 ((J * 6) + I))]) (rest := []) (r1 := some (.int ve4)) (m1 := m) rfl (Ee4.deep (by decide)) ?_
              refine mz_go 1 (c' := (if ve4 = 0 then 59 else 55, [some (.ref 20), some (.int (nI I)), some (.int (nI J)), some (.int (m 21 ((J * 6) + I)))], [], m)) rfl ?_
              refine mz_ifT q13 ?_
              refine mz_go 1 (c' := (60, [some (.ref 20), some (.int (nI I)), some (.int (nI J)), some (.int (m 21 ((J * 6) + I)))], [.int 0], m)) rfl ?_
              exact mz_ret rfl
            · refine ⟨1, ⟨?_, rfl⟩, (by unfold vq_ed; rw [← Pe1, if_pos q9]; rw [← Pe2, if_pos q10]; rw [vq_m1 q11]; rw [← Pe3, if_pos q12]; rw [← Pe4, if_neg q13])⟩
              refine mz_go 3 (c' := (3, [some (.ref 20), some (.int (nI I)), some (.int (nI J)), none], [.int (nI J), .int (nI I), .ref 20], m)) rfl ?_
              refine mz_do (R := mz_r7) (as := [.ref 20, .int (nI I), .int (nI J)]) (rest := []) (r1 := some (.int (m 21 ((J * 6) + I)))) (m1 := m) rfl ⟨?_, rfl⟩ ?_
              · refine mz_go 3 (c' := (3, [some (.ref 20), some (.int (nI I)), some (.int (nI J))], [.int (nI J), .int (nI I), .ref 20], m)) rfl ?_
                refine mz_do (R := mz_r4) (as := [.ref 20, .int (nI I), .int (nI J)]) (rest := []) (r1 := some (.int 1)) (m1 := m) rfl ⟨?_, rfl⟩ ?_
                · refine mz_go 2 (c' := (if (nI I) < 0 then 40 else 4, [some (.ref 20), some (.int (nI I)), some (.int (nI J))], [], m)) rfl ?_
                  refine mz_ifF (show ¬ ((nI I) < 0) from (sm_nltN rfl rfl (show 0 ≤ I by omega) (show I < 2 ^ 31 by omega))) ?_
                  refine mz_go 3 (c' := (9, [some (.ref 20), some (.int (nI I)), some (.int (nI J))], [.int (m 20 2), .int (nI I)], m)) rfl ?_
                  rw [h202]
                  refine mz_go 1 (c' := (if (nI WW) ≤ (nI I) then 40 else 12, [some (.ref 20), some (.int (nI I)), some (.int (nI J))], [], m)) rfl ?_
                  refine mz_ifF (show ¬ ((nI WW) ≤ (nI I)) from (sm_nleN rfl rfl (show I < WW by omega) (show WW < 2 ^ 31 by omega))) ?_
                  refine mz_go 3 (c' := (if 6 ≤ (nI I) then 40 else 18, [some (.ref 20), some (.int (nI I)), some (.int (nI J))], [], m)) rfl ?_
                  refine mz_ifF (show ¬ (6 ≤ (nI I)) from (sm_nleN rfl rfl (show I < 6 by omega) (show 6 < 2 ^ 31 by omega))) ?_
                  refine mz_go 2 (c' := (if (nI J) < 0 then 40 else 22, [some (.ref 20), some (.int (nI I)), some (.int (nI J))], [], m)) rfl ?_
                  refine mz_ifF (show ¬ ((nI J) < 0) from (sm_nltN rfl rfl (show 0 ≤ J by omega) (show J < 2 ^ 31 by omega))) ?_
                  refine mz_go 3 (c' := (27, [some (.ref 20), some (.int (nI I)), some (.int (nI J))], [.int (m 20 3), .int (nI J)], m)) rfl ?_
                  rw [h203]
                  refine mz_go 1 (c' := (if (nI HH) ≤ (nI J) then 40 else 30, [some (.ref 20), some (.int (nI I)), some (.int (nI J))], [], m)) rfl ?_
                  refine mz_ifF (show ¬ ((nI HH) ≤ (nI J)) from (sm_nleN rfl rfl (show J < HH by omega) (show HH < 2 ^ 31 by omega))) ?_
                  refine mz_go 3 (c' := (if 6 ≤ (nI J) then 40 else 36, [some (.ref 20), some (.int (nI I)), some (.int (nI J))], [], m)) rfl ?_
                  refine mz_ifF (show ¬ (6 ≤ (nI J)) from (sm_nleN rfl rfl (show J < 6 by omega) (show 6 < 2 ^ 31 by omega))) ?_
                  refine mz_go 2 (c' := (41, [some (.ref 20), some (.int (nI I)), some (.int (nI J))], [.int 1], m)) rfl ?_
                  exact mz_ret rfl
                refine mz_go 8 (c' := (19, [some (.ref 20), some (.int (nI I)), some (.int (nI J))], [.int (((nI J) * 6) + (nI I)), .ref 21], m)) rfl ?_
                refine mz_arr (c' := (20, [some (.ref 20), some (.int (nI I)), some (.int (nI J))], [.int (m 21 ((((nI J) * 6) + (nI I)).toNatClampNeg))], m)) rfl (show mz_in (((nI J) * 6) + (nI I)) 36 = true from sm_inN (sm_addN (sm_mulN rfl rfl) rfl) (show ((J * 6) + I) < 36 by omega) (by decide)) ?_
                rw [show (((nI J) * 6) + (nI I) : Int32).toNatClampNeg = ((J * 6) + I) from sm_clN (sm_addN (sm_mulN rfl rfl) rfl) (show ((J * 6) + I) < 2 ^ 31 by omega)]
                refine mz_go 1 (c' := (25, [some (.ref 20), some (.int (nI I)), some (.int (nI J))], [.int (m 21 ((J * 6) + I))], m)) rfl ?_
                exact mz_ret rfl
              refine mz_go 7 (c' := (13, [some (.ref 20), some (.int (nI I)), some (.int (nI J)), some (.int (m 21 ((J * 6) + I)))], [.int (m 21 ((J * 6) + I)), .int (nI J), .int ((nI I) - 1), .ref 20], m)) rfl ?_
              refine mz_do (R := mz_r13) (as := [.ref 20, .int ((nI I) - 1), .int (nI J), .int (m 21 ((J * 6) + I))]) (rest := []) (r1 := some (.int ve1)) (m1 := m) rfl (Ee1.deep (by decide)) ?_
              refine mz_go 1 (c' := (if ve1 = 0 then 19 else 55, [some (.ref 20), some (.int (nI I)), some (.int (nI J)), some (.int (m 21 ((J * 6) + I)))], [], m)) rfl ?_
              refine mz_ifT q9 ?_
              refine mz_go 6 (c' := (25, [some (.ref 20), some (.int (nI I)), some (.int (nI J)), some (.int (m 21 ((J * 6) + I)))], [.int (m 21 ((J * 6) + I)), .int (nI J), .int ((nI I) + 1), .ref 20], m)) rfl ?_
              refine mz_do (R := mz_r13) (as := [.ref 20, .int ((nI I) + 1), .int (nI J), .int (m 21 ((J * 6) + I))]) (rest := []) (r1 := some (.int ve2)) (m1 := m) rfl (Ee2.deep (by decide)) ?_
              refine mz_go 1 (c' := (if ve2 = 0 then 31 else 55, [some (.ref 20), some (.int (nI I)), some (.int (nI J)), some (.int (m 21 ((J * 6) + I)))], [], m)) rfl ?_
              refine mz_ifT q10 ?_
              refine mz_go 5 (c' := (36, [some (.ref 20), some (.int (nI I)), some (.int (nI J)), some (.int (m 21 ((J * 6) + I)))], [.int ((nI J) - 1), .int (nI I), .ref 20], m)) rfl ?_
              rw [show nI J - 1 = -1 from by rw [show J = 0 by omega]; decide]
              refine mz_go 1 (c' := (37, [some (.ref 20), some (.int (nI I)), some (.int (nI J)), some (.int (m 21 ((J * 6) + I)))], [.int (m 21 ((J * 6) + I)), .int (-1), .int (nI I), .ref 20], m)) rfl ?_
              refine mz_do (R := mz_r13) (as := [.ref 20, .int (nI I), .int (-1), .int (m 21 ((J * 6) + I))]) (rest := []) (r1 := some (.int ve3)) (m1 := m) rfl (Ee3.deep (by decide)) ?_
              refine mz_go 1 (c' := (if ve3 = 0 then 43 else 55, [some (.ref 20), some (.int (nI I)), some (.int (nI J)), some (.int (m 21 ((J * 6) + I)))], [], m)) rfl ?_
              refine mz_ifT q12 ?_
              refine mz_go 6 (c' := (49, [some (.ref 20), some (.int (nI I)), some (.int (nI J)), some (.int (m 21 ((J * 6) + I)))], [.int (m 21 ((J * 6) + I)), .int ((nI J) + 1), .int (nI I), .ref 20], m)) rfl ?_
              refine mz_do (R := mz_r13) (as := [.ref 20, .int (nI I), .int ((nI J) + 1), .int (m 21 ((J * 6) + I))]) (rest := []) (r1 := some (.int ve4)) (m1 := m) rfl (Ee4.deep (by decide)) ?_
              refine mz_go 1 (c' := (if ve4 = 0 then 59 else 55, [some (.ref 20), some (.int (nI I)), some (.int (nI J)), some (.int (m 21 ((J * 6) + I)))], [], m)) rfl ?_
              refine mz_ifF q13 ?_
              refine mz_go 2 (c' := (60, [some (.ref 20), some (.int (nI I)), some (.int (nI J)), some (.int (m 21 ((J * 6) + I)))], [.int 1], m)) rfl ?_
              exact mz_ret rfl
          · refine ⟨1, ⟨?_, rfl⟩, (by unfold vq_ed; rw [← Pe1, if_pos q9]; rw [← Pe2, if_pos q10]; rw [vq_m1 q11]; rw [← Pe3, if_neg q12])⟩
            refine mz_go 3 (c' := (3, [some (.ref 20), some (.int (nI I)), some (.int (nI J)), none], [.int (nI J), .int (nI I), .ref 20], m)) rfl ?_
            refine mz_do (R := mz_r7) (as := [.ref 20, .int (nI I), .int (nI J)]) (rest := []) (r1 := some (.int (m 21 ((J * 6) + I)))) (m1 := m) rfl ⟨?_, rfl⟩ ?_
            · refine mz_go 3 (c' := (3, [some (.ref 20), some (.int (nI I)), some (.int (nI J))], [.int (nI J), .int (nI I), .ref 20], m)) rfl ?_
              refine mz_do (R := mz_r4) (as := [.ref 20, .int (nI I), .int (nI J)]) (rest := []) (r1 := some (.int 1)) (m1 := m) rfl ⟨?_, rfl⟩ ?_
              · refine mz_go 2 (c' := (if (nI I) < 0 then 40 else 4, [some (.ref 20), some (.int (nI I)), some (.int (nI J))], [], m)) rfl ?_
                refine mz_ifF (show ¬ ((nI I) < 0) from (sm_nltN rfl rfl (show 0 ≤ I by omega) (show I < 2 ^ 31 by omega))) ?_
                refine mz_go 3 (c' := (9, [some (.ref 20), some (.int (nI I)), some (.int (nI J))], [.int (m 20 2), .int (nI I)], m)) rfl ?_
                rw [h202]
                refine mz_go 1 (c' := (if (nI WW) ≤ (nI I) then 40 else 12, [some (.ref 20), some (.int (nI I)), some (.int (nI J))], [], m)) rfl ?_
                refine mz_ifF (show ¬ ((nI WW) ≤ (nI I)) from (sm_nleN rfl rfl (show I < WW by omega) (show WW < 2 ^ 31 by omega))) ?_
                refine mz_go 3 (c' := (if 6 ≤ (nI I) then 40 else 18, [some (.ref 20), some (.int (nI I)), some (.int (nI J))], [], m)) rfl ?_
                refine mz_ifF (show ¬ (6 ≤ (nI I)) from (sm_nleN rfl rfl (show I < 6 by omega) (show 6 < 2 ^ 31 by omega))) ?_
                refine mz_go 2 (c' := (if (nI J) < 0 then 40 else 22, [some (.ref 20), some (.int (nI I)), some (.int (nI J))], [], m)) rfl ?_
                refine mz_ifF (show ¬ ((nI J) < 0) from (sm_nltN rfl rfl (show 0 ≤ J by omega) (show J < 2 ^ 31 by omega))) ?_
                refine mz_go 3 (c' := (27, [some (.ref 20), some (.int (nI I)), some (.int (nI J))], [.int (m 20 3), .int (nI J)], m)) rfl ?_
                rw [h203]
                refine mz_go 1 (c' := (if (nI HH) ≤ (nI J) then 40 else 30, [some (.ref 20), some (.int (nI I)), some (.int (nI J))], [], m)) rfl ?_
                refine mz_ifF (show ¬ ((nI HH) ≤ (nI J)) from (sm_nleN rfl rfl (show J < HH by omega) (show HH < 2 ^ 31 by omega))) ?_
                refine mz_go 3 (c' := (if 6 ≤ (nI J) then 40 else 36, [some (.ref 20), some (.int (nI I)), some (.int (nI J))], [], m)) rfl ?_
                refine mz_ifF (show ¬ (6 ≤ (nI J)) from (sm_nleN rfl rfl (show J < 6 by omega) (show 6 < 2 ^ 31 by omega))) ?_
                refine mz_go 2 (c' := (41, [some (.ref 20), some (.int (nI I)), some (.int (nI J))], [.int 1], m)) rfl ?_
                exact mz_ret rfl
              refine mz_go 8 (c' := (19, [some (.ref 20), some (.int (nI I)), some (.int (nI J))], [.int (((nI J) * 6) + (nI I)), .ref 21], m)) rfl ?_
              refine mz_arr (c' := (20, [some (.ref 20), some (.int (nI I)), some (.int (nI J))], [.int (m 21 ((((nI J) * 6) + (nI I)).toNatClampNeg))], m)) rfl (show mz_in (((nI J) * 6) + (nI I)) 36 = true from sm_inN (sm_addN (sm_mulN rfl rfl) rfl) (show ((J * 6) + I) < 36 by omega) (by decide)) ?_
              rw [show (((nI J) * 6) + (nI I) : Int32).toNatClampNeg = ((J * 6) + I) from sm_clN (sm_addN (sm_mulN rfl rfl) rfl) (show ((J * 6) + I) < 2 ^ 31 by omega)]
              refine mz_go 1 (c' := (25, [some (.ref 20), some (.int (nI I)), some (.int (nI J))], [.int (m 21 ((J * 6) + I))], m)) rfl ?_
              exact mz_ret rfl
            refine mz_go 7 (c' := (13, [some (.ref 20), some (.int (nI I)), some (.int (nI J)), some (.int (m 21 ((J * 6) + I)))], [.int (m 21 ((J * 6) + I)), .int (nI J), .int ((nI I) - 1), .ref 20], m)) rfl ?_
            refine mz_do (R := mz_r13) (as := [.ref 20, .int ((nI I) - 1), .int (nI J), .int (m 21 ((J * 6) + I))]) (rest := []) (r1 := some (.int ve1)) (m1 := m) rfl (Ee1.deep (by decide)) ?_
            refine mz_go 1 (c' := (if ve1 = 0 then 19 else 55, [some (.ref 20), some (.int (nI I)), some (.int (nI J)), some (.int (m 21 ((J * 6) + I)))], [], m)) rfl ?_
            refine mz_ifT q9 ?_
            refine mz_go 6 (c' := (25, [some (.ref 20), some (.int (nI I)), some (.int (nI J)), some (.int (m 21 ((J * 6) + I)))], [.int (m 21 ((J * 6) + I)), .int (nI J), .int ((nI I) + 1), .ref 20], m)) rfl ?_
            refine mz_do (R := mz_r13) (as := [.ref 20, .int ((nI I) + 1), .int (nI J), .int (m 21 ((J * 6) + I))]) (rest := []) (r1 := some (.int ve2)) (m1 := m) rfl (Ee2.deep (by decide)) ?_
            refine mz_go 1 (c' := (if ve2 = 0 then 31 else 55, [some (.ref 20), some (.int (nI I)), some (.int (nI J)), some (.int (m 21 ((J * 6) + I)))], [], m)) rfl ?_
            refine mz_ifT q10 ?_
            refine mz_go 5 (c' := (36, [some (.ref 20), some (.int (nI I)), some (.int (nI J)), some (.int (m 21 ((J * 6) + I)))], [.int ((nI J) - 1), .int (nI I), .ref 20], m)) rfl ?_
            rw [show nI J - 1 = -1 from by rw [show J = 0 by omega]; decide]
            refine mz_go 1 (c' := (37, [some (.ref 20), some (.int (nI I)), some (.int (nI J)), some (.int (m 21 ((J * 6) + I)))], [.int (m 21 ((J * 6) + I)), .int (-1), .int (nI I), .ref 20], m)) rfl ?_
            refine mz_do (R := mz_r13) (as := [.ref 20, .int (nI I), .int (-1), .int (m 21 ((J * 6) + I))]) (rest := []) (r1 := some (.int ve3)) (m1 := m) rfl (Ee3.deep (by decide)) ?_
            refine mz_go 1 (c' := (if ve3 = 0 then 43 else 55, [some (.ref 20), some (.int (nI I)), some (.int (nI J)), some (.int (m 21 ((J * 6) + I)))], [], m)) rfl ?_
            refine mz_ifF q12 ?_
            refine mz_go 2 (c' := (60, [some (.ref 20), some (.int (nI I)), some (.int (nI J)), some (.int (m 21 ((J * 6) + I)))], [.int 1], m)) rfl ?_
            exact mz_ret rfl
        · obtain ⟨ve3, Ee3, Pe3⟩ := vc_oth (m := m) hWW hHH h202 h203 (nI I) ((nI J) - 1) (m 21 ((J * 6) + I))
          by_cases q14 : ve3 = 0
          · obtain ⟨ve4, Ee4, Pe4⟩ := vc_oth (m := m) hWW hHH h202 h203 (nI I) ((nI J) + 1) (m 21 ((J * 6) + I))
            by_cases q15 : ve4 = 0
            · refine ⟨0, ⟨?_, rfl⟩, (by unfold vq_ed; rw [← Pe1, if_pos q9]; rw [← Pe2, if_pos q10]; rw [← Pe3, if_pos q14]; rw [← Pe4, if_pos q15])⟩
              refine mz_go 3 (c' := (3, [some (.ref 20), some (.int (nI I)), some (.int (nI J)), none], [.int (nI J), .int (nI I), .ref 20], m)) rfl ?_
              refine mz_do (R := mz_r7) (as := [.ref 20, .int (nI I), .int (nI J)]) (rest := []) (r1 := some (.int (m 21 ((J * 6) + I)))) (m1 := m) rfl ⟨?_, rfl⟩ ?_
              · refine mz_go 3 (c' := (3, [some (.ref 20), some (.int (nI I)), some (.int (nI J))], [.int (nI J), .int (nI I), .ref 20], m)) rfl ?_
                refine mz_do (R := mz_r4) (as := [.ref 20, .int (nI I), .int (nI J)]) (rest := []) (r1 := some (.int 1)) (m1 := m) rfl ⟨?_, rfl⟩ ?_
                · refine mz_go 2 (c' := (if (nI I) < 0 then 40 else 4, [some (.ref 20), some (.int (nI I)), some (.int (nI J))], [], m)) rfl ?_
                  refine mz_ifF (show ¬ ((nI I) < 0) from (sm_nltN rfl rfl (show 0 ≤ I by omega) (show I < 2 ^ 31 by omega))) ?_
                  refine mz_go 3 (c' := (9, [some (.ref 20), some (.int (nI I)), some (.int (nI J))], [.int (m 20 2), .int (nI I)], m)) rfl ?_
                  rw [h202]
                  refine mz_go 1 (c' := (if (nI WW) ≤ (nI I) then 40 else 12, [some (.ref 20), some (.int (nI I)), some (.int (nI J))], [], m)) rfl ?_
                  refine mz_ifF (show ¬ ((nI WW) ≤ (nI I)) from (sm_nleN rfl rfl (show I < WW by omega) (show WW < 2 ^ 31 by omega))) ?_
                  refine mz_go 3 (c' := (if 6 ≤ (nI I) then 40 else 18, [some (.ref 20), some (.int (nI I)), some (.int (nI J))], [], m)) rfl ?_
                  refine mz_ifF (show ¬ (6 ≤ (nI I)) from (sm_nleN rfl rfl (show I < 6 by omega) (show 6 < 2 ^ 31 by omega))) ?_
                  refine mz_go 2 (c' := (if (nI J) < 0 then 40 else 22, [some (.ref 20), some (.int (nI I)), some (.int (nI J))], [], m)) rfl ?_
                  refine mz_ifF (show ¬ ((nI J) < 0) from (sm_nltN rfl rfl (show 0 ≤ J by omega) (show J < 2 ^ 31 by omega))) ?_
                  refine mz_go 3 (c' := (27, [some (.ref 20), some (.int (nI I)), some (.int (nI J))], [.int (m 20 3), .int (nI J)], m)) rfl ?_
                  rw [h203]
                  refine mz_go 1 (c' := (if (nI HH) ≤ (nI J) then 40 else 30, [some (.ref 20), some (.int (nI I)), some (.int (nI J))], [], m)) rfl ?_
                  refine mz_ifF (show ¬ ((nI HH) ≤ (nI J)) from (sm_nleN rfl rfl (show J < HH by omega) (show HH < 2 ^ 31 by omega))) ?_
                  refine mz_go 3 (c' := (if 6 ≤ (nI J) then 40 else 36, [some (.ref 20), some (.int (nI I)), some (.int (nI J))], [], m)) rfl ?_
                  refine mz_ifF (show ¬ (6 ≤ (nI J)) from (sm_nleN rfl rfl (show J < 6 by omega) (show 6 < 2 ^ 31 by omega))) ?_
                  refine mz_go 2 (c' := (41, [some (.ref 20), some (.int (nI I)), some (.int (nI J))], [.int 1], m)) rfl ?_
                  exact mz_ret rfl
                refine mz_go 8 (c' := (19, [some (.ref 20), some (.int (nI I)), some (.int (nI J))], [.int (((nI J) * 6) + (nI I)), .ref 21], m)) rfl ?_
                refine mz_arr (c' := (20, [some (.ref 20), some (.int (nI I)), some (.int (nI J))], [.int (m 21 ((((nI J) * 6) + (nI I)).toNatClampNeg))], m)) rfl (show mz_in (((nI J) * 6) + (nI I)) 36 = true from sm_inN (sm_addN (sm_mulN rfl rfl) rfl) (show ((J * 6) + I) < 36 by omega) (by decide)) ?_
                rw [show (((nI J) * 6) + (nI I) : Int32).toNatClampNeg = ((J * 6) + I) from sm_clN (sm_addN (sm_mulN rfl rfl) rfl) (show ((J * 6) + I) < 2 ^ 31 by omega)]
                refine mz_go 1 (c' := (25, [some (.ref 20), some (.int (nI I)), some (.int (nI J))], [.int (m 21 ((J * 6) + I))], m)) rfl ?_
                exact mz_ret rfl
              refine mz_go 7 (c' := (13, [some (.ref 20), some (.int (nI I)), some (.int (nI J)), some (.int (m 21 ((J * 6) + I)))], [.int (m 21 ((J * 6) + I)), .int (nI J), .int ((nI I) - 1), .ref 20], m)) rfl ?_
              refine mz_do (R := mz_r13) (as := [.ref 20, .int ((nI I) - 1), .int (nI J), .int (m 21 ((J * 6) + I))]) (rest := []) (r1 := some (.int ve1)) (m1 := m) rfl (Ee1.deep (by decide)) ?_
              refine mz_go 1 (c' := (if ve1 = 0 then 19 else 55, [some (.ref 20), some (.int (nI I)), some (.int (nI J)), some (.int (m 21 ((J * 6) + I)))], [], m)) rfl ?_
              refine mz_ifT q9 ?_
              refine mz_go 6 (c' := (25, [some (.ref 20), some (.int (nI I)), some (.int (nI J)), some (.int (m 21 ((J * 6) + I)))], [.int (m 21 ((J * 6) + I)), .int (nI J), .int ((nI I) + 1), .ref 20], m)) rfl ?_
              refine mz_do (R := mz_r13) (as := [.ref 20, .int ((nI I) + 1), .int (nI J), .int (m 21 ((J * 6) + I))]) (rest := []) (r1 := some (.int ve2)) (m1 := m) rfl (Ee2.deep (by decide)) ?_
              refine mz_go 1 (c' := (if ve2 = 0 then 31 else 55, [some (.ref 20), some (.int (nI I)), some (.int (nI J)), some (.int (m 21 ((J * 6) + I)))], [], m)) rfl ?_
              refine mz_ifT q10 ?_
              refine mz_go 6 (c' := (37, [some (.ref 20), some (.int (nI I)), some (.int (nI J)), some (.int (m 21 ((J * 6) + I)))], [.int (m 21 ((J * 6) + I)), .int ((nI J) - 1), .int (nI I), .ref 20], m)) rfl ?_
              refine mz_do (R := mz_r13) (as := [.ref 20, .int (nI I), .int ((nI J) - 1), .int (m 21 ((J * 6) + I))]) (rest := []) (r1 := some (.int ve3)) (m1 := m) rfl (Ee3.deep (by decide)) ?_
              refine mz_go 1 (c' := (if ve3 = 0 then 43 else 55, [some (.ref 20), some (.int (nI I)), some (.int (nI J)), some (.int (m 21 ((J * 6) + I)))], [], m)) rfl ?_
              refine mz_ifT q14 ?_
              refine mz_go 6 (c' := (49, [some (.ref 20), some (.int (nI I)), some (.int (nI J)), some (.int (m 21 ((J * 6) + I)))], [.int (m 21 ((J * 6) + I)), .int ((nI J) + 1), .int (nI I), .ref 20], m)) rfl ?_
              refine mz_do (R := mz_r13) (as := [.ref 20, .int (nI I), .int ((nI J) + 1), .int (m 21 ((J * 6) + I))]) (rest := []) (r1 := some (.int ve4)) (m1 := m) rfl (Ee4.deep (by decide)) ?_
              refine mz_go 1 (c' := (if ve4 = 0 then 59 else 55, [some (.ref 20), some (.int (nI I)), some (.int (nI J)), some (.int (m 21 ((J * 6) + I)))], [], m)) rfl ?_
              refine mz_ifT q15 ?_
              refine mz_go 1 (c' := (60, [some (.ref 20), some (.int (nI I)), some (.int (nI J)), some (.int (m 21 ((J * 6) + I)))], [.int 0], m)) rfl ?_
              exact mz_ret rfl
            · refine ⟨1, ⟨?_, rfl⟩, (by unfold vq_ed; rw [← Pe1, if_pos q9]; rw [← Pe2, if_pos q10]; rw [← Pe3, if_pos q14]; rw [← Pe4, if_neg q15])⟩
              refine mz_go 3 (c' := (3, [some (.ref 20), some (.int (nI I)), some (.int (nI J)), none], [.int (nI J), .int (nI I), .ref 20], m)) rfl ?_
              refine mz_do (R := mz_r7) (as := [.ref 20, .int (nI I), .int (nI J)]) (rest := []) (r1 := some (.int (m 21 ((J * 6) + I)))) (m1 := m) rfl ⟨?_, rfl⟩ ?_
              · refine mz_go 3 (c' := (3, [some (.ref 20), some (.int (nI I)), some (.int (nI J))], [.int (nI J), .int (nI I), .ref 20], m)) rfl ?_
                refine mz_do (R := mz_r4) (as := [.ref 20, .int (nI I), .int (nI J)]) (rest := []) (r1 := some (.int 1)) (m1 := m) rfl ⟨?_, rfl⟩ ?_
                · refine mz_go 2 (c' := (if (nI I) < 0 then 40 else 4, [some (.ref 20), some (.int (nI I)), some (.int (nI J))], [], m)) rfl ?_
                  refine mz_ifF (show ¬ ((nI I) < 0) from (sm_nltN rfl rfl (show 0 ≤ I by omega) (show I < 2 ^ 31 by omega))) ?_
                  refine mz_go 3 (c' := (9, [some (.ref 20), some (.int (nI I)), some (.int (nI J))], [.int (m 20 2), .int (nI I)], m)) rfl ?_
                  rw [h202]
                  refine mz_go 1 (c' := (if (nI WW) ≤ (nI I) then 40 else 12, [some (.ref 20), some (.int (nI I)), some (.int (nI J))], [], m)) rfl ?_
                  refine mz_ifF (show ¬ ((nI WW) ≤ (nI I)) from (sm_nleN rfl rfl (show I < WW by omega) (show WW < 2 ^ 31 by omega))) ?_
                  refine mz_go 3 (c' := (if 6 ≤ (nI I) then 40 else 18, [some (.ref 20), some (.int (nI I)), some (.int (nI J))], [], m)) rfl ?_
                  refine mz_ifF (show ¬ (6 ≤ (nI I)) from (sm_nleN rfl rfl (show I < 6 by omega) (show 6 < 2 ^ 31 by omega))) ?_
                  refine mz_go 2 (c' := (if (nI J) < 0 then 40 else 22, [some (.ref 20), some (.int (nI I)), some (.int (nI J))], [], m)) rfl ?_
                  refine mz_ifF (show ¬ ((nI J) < 0) from (sm_nltN rfl rfl (show 0 ≤ J by omega) (show J < 2 ^ 31 by omega))) ?_
                  refine mz_go 3 (c' := (27, [some (.ref 20), some (.int (nI I)), some (.int (nI J))], [.int (m 20 3), .int (nI J)], m)) rfl ?_
                  rw [h203]
                  refine mz_go 1 (c' := (if (nI HH) ≤ (nI J) then 40 else 30, [some (.ref 20), some (.int (nI I)), some (.int (nI J))], [], m)) rfl ?_
                  refine mz_ifF (show ¬ ((nI HH) ≤ (nI J)) from (sm_nleN rfl rfl (show J < HH by omega) (show HH < 2 ^ 31 by omega))) ?_
                  refine mz_go 3 (c' := (if 6 ≤ (nI J) then 40 else 36, [some (.ref 20), some (.int (nI I)), some (.int (nI J))], [], m)) rfl ?_
                  refine mz_ifF (show ¬ (6 ≤ (nI J)) from (sm_nleN rfl rfl (show J < 6 by omega) (show 6 < 2 ^ 31 by omega))) ?_
                  refine mz_go 2 (c' := (41, [some (.ref 20), some (.int (nI I)), some (.int (nI J))], [.int 1], m)) rfl ?_
                  exact mz_ret rfl
                refine mz_go 8 (c' := (19, [some (.ref 20), some (.int (nI I)), some (.int (nI J))], [.int (((nI J) * 6) + (nI I)), .ref 21], m)) rfl ?_
                refine mz_arr (c' := (20, [some (.ref 20), some (.int (nI I)), some (.int (nI J))], [.int (m 21 ((((nI J) * 6) + (nI I)).toNatClampNeg))], m)) rfl (show mz_in (((nI J) * 6) + (nI I)) 36 = true from sm_inN (sm_addN (sm_mulN rfl rfl) rfl) (show ((J * 6) + I) < 36 by omega) (by decide)) ?_
                rw [show (((nI J) * 6) + (nI I) : Int32).toNatClampNeg = ((J * 6) + I) from sm_clN (sm_addN (sm_mulN rfl rfl) rfl) (show ((J * 6) + I) < 2 ^ 31 by omega)]
                refine mz_go 1 (c' := (25, [some (.ref 20), some (.int (nI I)), some (.int (nI J))], [.int (m 21 ((J * 6) + I))], m)) rfl ?_
                exact mz_ret rfl
              refine mz_go 7 (c' := (13, [some (.ref 20), some (.int (nI I)), some (.int (nI J)), some (.int (m 21 ((J * 6) + I)))], [.int (m 21 ((J * 6) + I)), .int (nI J), .int ((nI I) - 1), .ref 20], m)) rfl ?_
              refine mz_do (R := mz_r13) (as := [.ref 20, .int ((nI I) - 1), .int (nI J), .int (m 21 ((J * 6) + I))]) (rest := []) (r1 := some (.int ve1)) (m1 := m) rfl (Ee1.deep (by decide)) ?_
              refine mz_go 1 (c' := (if ve1 = 0 then 19 else 55, [some (.ref 20), some (.int (nI I)), some (.int (nI J)), some (.int (m 21 ((J * 6) + I)))], [], m)) rfl ?_
              refine mz_ifT q9 ?_
              refine mz_go 6 (c' := (25, [some (.ref 20), some (.int (nI I)), some (.int (nI J)), some (.int (m 21 ((J * 6) + I)))], [.int (m 21 ((J * 6) + I)), .int (nI J), .int ((nI I) + 1), .ref 20], m)) rfl ?_
              refine mz_do (R := mz_r13) (as := [.ref 20, .int ((nI I) + 1), .int (nI J), .int (m 21 ((J * 6) + I))]) (rest := []) (r1 := some (.int ve2)) (m1 := m) rfl (Ee2.deep (by decide)) ?_
              refine mz_go 1 (c' := (if ve2 = 0 then 31 else 55, [some (.ref 20), some (.int (nI I)), some (.int (nI J)), some (.int (m 21 ((J * 6) + I)))], [], m)) rfl ?_
              refine mz_ifT q10 ?_
              refine mz_go 6 (c' := (37, [some (.ref 20), some (.int (nI I)), some (.int (nI J)), some (.int (m 21 ((J * 6) + I)))], [.int (m 21 ((J * 6) + I)), .int ((nI J) - 1), .int (nI I), .ref 20], m)) rfl ?_
              refine mz_do (R := mz_r13) (as := [.ref 20, .int (nI I), .int ((nI J) - 1), .int (m 21 ((J * 6) + I))]) (rest := []) (r1 := some (.int ve3)) (m1 := m) rfl (Ee3.deep (by decide)) ?_
              refine mz_go 1 (c' := (if ve3 = 0 then 43 else 55, [some (.ref 20), some (.int (nI I)), some (.int (nI J)), some (.int (m 21 ((J * 6) + I)))], [], m)) rfl ?_
              refine mz_ifT q14 ?_
              refine mz_go 6 (c' := (49, [some (.ref 20), some (.int (nI I)), some (.int (nI J)), some (.int (m 21 ((J * 6) + I)))], [.int (m 21 ((J * 6) + I)), .int ((nI J) + 1), .int (nI I), .ref 20], m)) rfl ?_
              refine mz_do (R := mz_r13) (as := [.ref 20, .int (nI I), .int ((nI J) + 1), .int (m 21 ((J * 6) + I))]) (rest := []) (r1 := some (.int ve4)) (m1 := m) rfl (Ee4.deep (by decide)) ?_
              refine mz_go 1 (c' := (if ve4 = 0 then 59 else 55, [some (.ref 20), some (.int (nI I)), some (.int (nI J)), some (.int (m 21 ((J * 6) + I)))], [], m)) rfl ?_
              refine mz_ifF q15 ?_
              refine mz_go 2 (c' := (60, [some (.ref 20), some (.int (nI I)), some (.int (nI J)), some (.int (m 21 ((J * 6) + I)))], [.int 1], m)) rfl ?_
              exact mz_ret rfl
          · refine ⟨1, ⟨?_, rfl⟩, (by unfold vq_ed; rw [← Pe1, if_pos q9]; rw [← Pe2, if_pos q10]; rw [← Pe3, if_neg q14])⟩
            refine mz_go 3 (c' := (3, [some (.ref 20), some (.int (nI I)), some (.int (nI J)), none], [.int (nI J), .int (nI I), .ref 20], m)) rfl ?_
            refine mz_do (R := mz_r7) (as := [.ref 20, .int (nI I), .int (nI J)]) (rest := []) (r1 := some (.int (m 21 ((J * 6) + I)))) (m1 := m) rfl ⟨?_, rfl⟩ ?_
            · refine mz_go 3 (c' := (3, [some (.ref 20), some (.int (nI I)), some (.int (nI J))], [.int (nI J), .int (nI I), .ref 20], m)) rfl ?_
              refine mz_do (R := mz_r4) (as := [.ref 20, .int (nI I), .int (nI J)]) (rest := []) (r1 := some (.int 1)) (m1 := m) rfl ⟨?_, rfl⟩ ?_
              · refine mz_go 2 (c' := (if (nI I) < 0 then 40 else 4, [some (.ref 20), some (.int (nI I)), some (.int (nI J))], [], m)) rfl ?_
                refine mz_ifF (show ¬ ((nI I) < 0) from (sm_nltN rfl rfl (show 0 ≤ I by omega) (show I < 2 ^ 31 by omega))) ?_
                refine mz_go 3 (c' := (9, [some (.ref 20), some (.int (nI I)), some (.int (nI J))], [.int (m 20 2), .int (nI I)], m)) rfl ?_
                rw [h202]
                refine mz_go 1 (c' := (if (nI WW) ≤ (nI I) then 40 else 12, [some (.ref 20), some (.int (nI I)), some (.int (nI J))], [], m)) rfl ?_
                refine mz_ifF (show ¬ ((nI WW) ≤ (nI I)) from (sm_nleN rfl rfl (show I < WW by omega) (show WW < 2 ^ 31 by omega))) ?_
                refine mz_go 3 (c' := (if 6 ≤ (nI I) then 40 else 18, [some (.ref 20), some (.int (nI I)), some (.int (nI J))], [], m)) rfl ?_
                refine mz_ifF (show ¬ (6 ≤ (nI I)) from (sm_nleN rfl rfl (show I < 6 by omega) (show 6 < 2 ^ 31 by omega))) ?_
                refine mz_go 2 (c' := (if (nI J) < 0 then 40 else 22, [some (.ref 20), some (.int (nI I)), some (.int (nI J))], [], m)) rfl ?_
                refine mz_ifF (show ¬ ((nI J) < 0) from (sm_nltN rfl rfl (show 0 ≤ J by omega) (show J < 2 ^ 31 by omega))) ?_
                refine mz_go 3 (c' := (27, [some (.ref 20), some (.int (nI I)), some (.int (nI J))], [.int (m 20 3), .int (nI J)], m)) rfl ?_
                rw [h203]
                refine mz_go 1 (c' := (if (nI HH) ≤ (nI J) then 40 else 30, [some (.ref 20), some (.int (nI I)), some (.int (nI J))], [], m)) rfl ?_
                refine mz_ifF (show ¬ ((nI HH) ≤ (nI J)) from (sm_nleN rfl rfl (show J < HH by omega) (show HH < 2 ^ 31 by omega))) ?_
                refine mz_go 3 (c' := (if 6 ≤ (nI J) then 40 else 36, [some (.ref 20), some (.int (nI I)), some (.int (nI J))], [], m)) rfl ?_
                refine mz_ifF (show ¬ (6 ≤ (nI J)) from (sm_nleN rfl rfl (show J < 6 by omega) (show 6 < 2 ^ 31 by omega))) ?_
                refine mz_go 2 (c' := (41, [some (.ref 20), some (.int (nI I)), some (.int (nI J))], [.int 1], m)) rfl ?_
                exact mz_ret rfl
              refine mz_go 8 (c' := (19, [some (.ref 20), some (.int (nI I)), some (.int (nI J))], [.int (((nI J) * 6) + (nI I)), .ref 21], m)) rfl ?_
              refine mz_arr (c' := (20, [some (.ref 20), some (.int (nI I)), some (.int (nI J))], [.int (m 21 ((((nI J) * 6) + (nI I)).toNatClampNeg))], m)) rfl (show mz_in (((nI J) * 6) + (nI I)) 36 = true from sm_inN (sm_addN (sm_mulN rfl rfl) rfl) (show ((J * 6) + I) < 36 by omega) (by decide)) ?_
              rw [show (((nI J) * 6) + (nI I) : Int32).toNatClampNeg = ((J * 6) + I) from sm_clN (sm_addN (sm_mulN rfl rfl) rfl) (show ((J * 6) + I) < 2 ^ 31 by omega)]
              refine mz_go 1 (c' := (25, [some (.ref 20), some (.int (nI I)), some (.int (nI J))], [.int (m 21 ((J * 6) + I))], m)) rfl ?_
              exact mz_ret rfl
            refine mz_go 7 (c' := (13, [some (.ref 20), some (.int (nI I)), some (.int (nI J)), some (.int (m 21 ((J * 6) + I)))], [.int (m 21 ((J * 6) + I)), .int (nI J), .int ((nI I) - 1), .ref 20], m)) rfl ?_
            refine mz_do (R := mz_r13) (as := [.ref 20, .int ((nI I) - 1), .int (nI J), .int (m 21 ((J * 6) + I))]) (rest := []) (r1 := some (.int ve1)) (m1 := m) rfl (Ee1.deep (by decide)) ?_
            refine mz_go 1 (c' := (if ve1 = 0 then 19 else 55, [some (.ref 20), some (.int (nI I)), some (.int (nI J)), some (.int (m 21 ((J * 6) + I)))], [], m)) rfl ?_
            refine mz_ifT q9 ?_
            refine mz_go 6 (c' := (25, [some (.ref 20), some (.int (nI I)), some (.int (nI J)), some (.int (m 21 ((J * 6) + I)))], [.int (m 21 ((J * 6) + I)), .int (nI J), .int ((nI I) + 1), .ref 20], m)) rfl ?_
            refine mz_do (R := mz_r13) (as := [.ref 20, .int ((nI I) + 1), .int (nI J), .int (m 21 ((J * 6) + I))]) (rest := []) (r1 := some (.int ve2)) (m1 := m) rfl (Ee2.deep (by decide)) ?_
            refine mz_go 1 (c' := (if ve2 = 0 then 31 else 55, [some (.ref 20), some (.int (nI I)), some (.int (nI J)), some (.int (m 21 ((J * 6) + I)))], [], m)) rfl ?_
            refine mz_ifT q10 ?_
            refine mz_go 6 (c' := (37, [some (.ref 20), some (.int (nI I)), some (.int (nI J)), some (.int (m 21 ((J * 6) + I)))], [.int (m 21 ((J * 6) + I)), .int ((nI J) - 1), .int (nI I), .ref 20], m)) rfl ?_
            refine mz_do (R := mz_r13) (as := [.ref 20, .int (nI I), .int ((nI J) - 1), .int (m 21 ((J * 6) + I))]) (rest := []) (r1 := some (.int ve3)) (m1 := m) rfl (Ee3.deep (by decide)) ?_
            refine mz_go 1 (c' := (if ve3 = 0 then 43 else 55, [some (.ref 20), some (.int (nI I)), some (.int (nI J)), some (.int (m 21 ((J * 6) + I)))], [], m)) rfl ?_
            refine mz_ifF q14 ?_
            refine mz_go 2 (c' := (60, [some (.ref 20), some (.int (nI I)), some (.int (nI J)), some (.int (m 21 ((J * 6) + I)))], [.int 1], m)) rfl ?_
            exact mz_ret rfl
      · refine ⟨1, ⟨?_, rfl⟩, (by unfold vq_ed; rw [← Pe1, if_pos q9]; rw [← Pe2, if_neg q10])⟩
        refine mz_go 3 (c' := (3, [some (.ref 20), some (.int (nI I)), some (.int (nI J)), none], [.int (nI J), .int (nI I), .ref 20], m)) rfl ?_
        refine mz_do (R := mz_r7) (as := [.ref 20, .int (nI I), .int (nI J)]) (rest := []) (r1 := some (.int (m 21 ((J * 6) + I)))) (m1 := m) rfl ⟨?_, rfl⟩ ?_
        · refine mz_go 3 (c' := (3, [some (.ref 20), some (.int (nI I)), some (.int (nI J))], [.int (nI J), .int (nI I), .ref 20], m)) rfl ?_
          refine mz_do (R := mz_r4) (as := [.ref 20, .int (nI I), .int (nI J)]) (rest := []) (r1 := some (.int 1)) (m1 := m) rfl ⟨?_, rfl⟩ ?_
          · refine mz_go 2 (c' := (if (nI I) < 0 then 40 else 4, [some (.ref 20), some (.int (nI I)), some (.int (nI J))], [], m)) rfl ?_
            refine mz_ifF (show ¬ ((nI I) < 0) from (sm_nltN rfl rfl (show 0 ≤ I by omega) (show I < 2 ^ 31 by omega))) ?_
            refine mz_go 3 (c' := (9, [some (.ref 20), some (.int (nI I)), some (.int (nI J))], [.int (m 20 2), .int (nI I)], m)) rfl ?_
            rw [h202]
            refine mz_go 1 (c' := (if (nI WW) ≤ (nI I) then 40 else 12, [some (.ref 20), some (.int (nI I)), some (.int (nI J))], [], m)) rfl ?_
            refine mz_ifF (show ¬ ((nI WW) ≤ (nI I)) from (sm_nleN rfl rfl (show I < WW by omega) (show WW < 2 ^ 31 by omega))) ?_
            refine mz_go 3 (c' := (if 6 ≤ (nI I) then 40 else 18, [some (.ref 20), some (.int (nI I)), some (.int (nI J))], [], m)) rfl ?_
            refine mz_ifF (show ¬ (6 ≤ (nI I)) from (sm_nleN rfl rfl (show I < 6 by omega) (show 6 < 2 ^ 31 by omega))) ?_
            refine mz_go 2 (c' := (if (nI J) < 0 then 40 else 22, [some (.ref 20), some (.int (nI I)), some (.int (nI J))], [], m)) rfl ?_
            refine mz_ifF (show ¬ ((nI J) < 0) from (sm_nltN rfl rfl (show 0 ≤ J by omega) (show J < 2 ^ 31 by omega))) ?_
            refine mz_go 3 (c' := (27, [some (.ref 20), some (.int (nI I)), some (.int (nI J))], [.int (m 20 3), .int (nI J)], m)) rfl ?_
            rw [h203]
            refine mz_go 1 (c' := (if (nI HH) ≤ (nI J) then 40 else 30, [some (.ref 20), some (.int (nI I)), some (.int (nI J))], [], m)) rfl ?_
            refine mz_ifF (show ¬ ((nI HH) ≤ (nI J)) from (sm_nleN rfl rfl (show J < HH by omega) (show HH < 2 ^ 31 by omega))) ?_
            refine mz_go 3 (c' := (if 6 ≤ (nI J) then 40 else 36, [some (.ref 20), some (.int (nI I)), some (.int (nI J))], [], m)) rfl ?_
            refine mz_ifF (show ¬ (6 ≤ (nI J)) from (sm_nleN rfl rfl (show J < 6 by omega) (show 6 < 2 ^ 31 by omega))) ?_
            refine mz_go 2 (c' := (41, [some (.ref 20), some (.int (nI I)), some (.int (nI J))], [.int 1], m)) rfl ?_
            exact mz_ret rfl
          refine mz_go 8 (c' := (19, [some (.ref 20), some (.int (nI I)), some (.int (nI J))], [.int (((nI J) * 6) + (nI I)), .ref 21], m)) rfl ?_
          refine mz_arr (c' := (20, [some (.ref 20), some (.int (nI I)), some (.int (nI J))], [.int (m 21 ((((nI J) * 6) + (nI I)).toNatClampNeg))], m)) rfl (show mz_in (((nI J) * 6) + (nI I)) 36 = true from sm_inN (sm_addN (sm_mulN rfl rfl) rfl) (show ((J * 6) + I) < 36 by omega) (by decide)) ?_
          rw [show (((nI J) * 6) + (nI I) : Int32).toNatClampNeg = ((J * 6) + I) from sm_clN (sm_addN (sm_mulN rfl rfl) rfl) (show ((J * 6) + I) < 2 ^ 31 by omega)]
          refine mz_go 1 (c' := (25, [some (.ref 20), some (.int (nI I)), some (.int (nI J))], [.int (m 21 ((J * 6) + I))], m)) rfl ?_
          exact mz_ret rfl
        refine mz_go 7 (c' := (13, [some (.ref 20), some (.int (nI I)), some (.int (nI J)), some (.int (m 21 ((J * 6) + I)))], [.int (m 21 ((J * 6) + I)), .int (nI J), .int ((nI I) - 1), .ref 20], m)) rfl ?_
        refine mz_do (R := mz_r13) (as := [.ref 20, .int ((nI I) - 1), .int (nI J), .int (m 21 ((J * 6) + I))]) (rest := []) (r1 := some (.int ve1)) (m1 := m) rfl (Ee1.deep (by decide)) ?_
        refine mz_go 1 (c' := (if ve1 = 0 then 19 else 55, [some (.ref 20), some (.int (nI I)), some (.int (nI J)), some (.int (m 21 ((J * 6) + I)))], [], m)) rfl ?_
        refine mz_ifT q9 ?_
        refine mz_go 6 (c' := (25, [some (.ref 20), some (.int (nI I)), some (.int (nI J)), some (.int (m 21 ((J * 6) + I)))], [.int (m 21 ((J * 6) + I)), .int (nI J), .int ((nI I) + 1), .ref 20], m)) rfl ?_
        refine mz_do (R := mz_r13) (as := [.ref 20, .int ((nI I) + 1), .int (nI J), .int (m 21 ((J * 6) + I))]) (rest := []) (r1 := some (.int ve2)) (m1 := m) rfl (Ee2.deep (by decide)) ?_
        refine mz_go 1 (c' := (if ve2 = 0 then 31 else 55, [some (.ref 20), some (.int (nI I)), some (.int (nI J)), some (.int (m 21 ((J * 6) + I)))], [], m)) rfl ?_
        refine mz_ifF q10 ?_
        refine mz_go 2 (c' := (60, [some (.ref 20), some (.int (nI I)), some (.int (nI J)), some (.int (m 21 ((J * 6) + I)))], [.int 1], m)) rfl ?_
        exact mz_ret rfl
    · refine ⟨1, ⟨?_, rfl⟩, (by unfold vq_ed; rw [← Pe1, if_neg q9])⟩
      refine mz_go 3 (c' := (3, [some (.ref 20), some (.int (nI I)), some (.int (nI J)), none], [.int (nI J), .int (nI I), .ref 20], m)) rfl ?_
      refine mz_do (R := mz_r7) (as := [.ref 20, .int (nI I), .int (nI J)]) (rest := []) (r1 := some (.int (m 21 ((J * 6) + I)))) (m1 := m) rfl ⟨?_, rfl⟩ ?_
      · refine mz_go 3 (c' := (3, [some (.ref 20), some (.int (nI I)), some (.int (nI J))], [.int (nI J), .int (nI I), .ref 20], m)) rfl ?_
        refine mz_do (R := mz_r4) (as := [.ref 20, .int (nI I), .int (nI J)]) (rest := []) (r1 := some (.int 1)) (m1 := m) rfl ⟨?_, rfl⟩ ?_
        · refine mz_go 2 (c' := (if (nI I) < 0 then 40 else 4, [some (.ref 20), some (.int (nI I)), some (.int (nI J))], [], m)) rfl ?_
          refine mz_ifF (show ¬ ((nI I) < 0) from (sm_nltN rfl rfl (show 0 ≤ I by omega) (show I < 2 ^ 31 by omega))) ?_
          refine mz_go 3 (c' := (9, [some (.ref 20), some (.int (nI I)), some (.int (nI J))], [.int (m 20 2), .int (nI I)], m)) rfl ?_
          rw [h202]
          refine mz_go 1 (c' := (if (nI WW) ≤ (nI I) then 40 else 12, [some (.ref 20), some (.int (nI I)), some (.int (nI J))], [], m)) rfl ?_
          refine mz_ifF (show ¬ ((nI WW) ≤ (nI I)) from (sm_nleN rfl rfl (show I < WW by omega) (show WW < 2 ^ 31 by omega))) ?_
          refine mz_go 3 (c' := (if 6 ≤ (nI I) then 40 else 18, [some (.ref 20), some (.int (nI I)), some (.int (nI J))], [], m)) rfl ?_
          refine mz_ifF (show ¬ (6 ≤ (nI I)) from (sm_nleN rfl rfl (show I < 6 by omega) (show 6 < 2 ^ 31 by omega))) ?_
          refine mz_go 2 (c' := (if (nI J) < 0 then 40 else 22, [some (.ref 20), some (.int (nI I)), some (.int (nI J))], [], m)) rfl ?_
          refine mz_ifF (show ¬ ((nI J) < 0) from (sm_nltN rfl rfl (show 0 ≤ J by omega) (show J < 2 ^ 31 by omega))) ?_
          refine mz_go 3 (c' := (27, [some (.ref 20), some (.int (nI I)), some (.int (nI J))], [.int (m 20 3), .int (nI J)], m)) rfl ?_
          rw [h203]
          refine mz_go 1 (c' := (if (nI HH) ≤ (nI J) then 40 else 30, [some (.ref 20), some (.int (nI I)), some (.int (nI J))], [], m)) rfl ?_
          refine mz_ifF (show ¬ ((nI HH) ≤ (nI J)) from (sm_nleN rfl rfl (show J < HH by omega) (show HH < 2 ^ 31 by omega))) ?_
          refine mz_go 3 (c' := (if 6 ≤ (nI J) then 40 else 36, [some (.ref 20), some (.int (nI I)), some (.int (nI J))], [], m)) rfl ?_
          refine mz_ifF (show ¬ (6 ≤ (nI J)) from (sm_nleN rfl rfl (show J < 6 by omega) (show 6 < 2 ^ 31 by omega))) ?_
          refine mz_go 2 (c' := (41, [some (.ref 20), some (.int (nI I)), some (.int (nI J))], [.int 1], m)) rfl ?_
          exact mz_ret rfl
        refine mz_go 8 (c' := (19, [some (.ref 20), some (.int (nI I)), some (.int (nI J))], [.int (((nI J) * 6) + (nI I)), .ref 21], m)) rfl ?_
        refine mz_arr (c' := (20, [some (.ref 20), some (.int (nI I)), some (.int (nI J))], [.int (m 21 ((((nI J) * 6) + (nI I)).toNatClampNeg))], m)) rfl (show mz_in (((nI J) * 6) + (nI I)) 36 = true from sm_inN (sm_addN (sm_mulN rfl rfl) rfl) (show ((J * 6) + I) < 36 by omega) (by decide)) ?_
        rw [show (((nI J) * 6) + (nI I) : Int32).toNatClampNeg = ((J * 6) + I) from sm_clN (sm_addN (sm_mulN rfl rfl) rfl) (show ((J * 6) + I) < 2 ^ 31 by omega)]
        refine mz_go 1 (c' := (25, [some (.ref 20), some (.int (nI I)), some (.int (nI J))], [.int (m 21 ((J * 6) + I))], m)) rfl ?_
        exact mz_ret rfl
      refine mz_go 7 (c' := (13, [some (.ref 20), some (.int (nI I)), some (.int (nI J)), some (.int (m 21 ((J * 6) + I)))], [.int (m 21 ((J * 6) + I)), .int (nI J), .int ((nI I) - 1), .ref 20], m)) rfl ?_
      refine mz_do (R := mz_r13) (as := [.ref 20, .int ((nI I) - 1), .int (nI J), .int (m 21 ((J * 6) + I))]) (rest := []) (r1 := some (.int ve1)) (m1 := m) rfl (Ee1.deep (by decide)) ?_
      refine mz_go 1 (c' := (if ve1 = 0 then 19 else 55, [some (.ref 20), some (.int (nI I)), some (.int (nI J)), some (.int (m 21 ((J * 6) + I)))], [], m)) rfl ?_
      refine mz_ifF q9 ?_
      refine mz_go 2 (c' := (60, [some (.ref 20), some (.int (nI I)), some (.int (nI J)), some (.int (m 21 ((J * 6) + I)))], [.int 1], m)) rfl ?_
      exact mz_ret rfl
set_option maxHeartbeats 4000000 in
set_option maxRecDepth 100000 in
theorem vr_oth {m : mz_M} {WW HH : Nat} (hWW : WW ≤ 6) (hHH : HH ≤ 6) (hWH : WW = 0 ↔ HH = 0) (h6660 : m 66 60 = nI WW) (h6661 : m 66 61 = nI HH) (a b c : Int32) : ∃ v, mz_Me 8 mz_r195 [.ref 65, .int a, .int b, .int c] m (some (.int v)) m ∧ (v = vq_ot (fun i => m 66 (70 + i)) WW HH a b c) := by
  by_cases q1 : WW = 0
  · by_cases q2 : a < 0
    · refine ⟨0, ⟨?_, rfl⟩, (vq_o0 q1)⟩
      refine mz_go 3 (c' := (3, [some (.ref 65), some (.int a), some (.int b), some (.int c)], [.int b, .int a, .ref 65], m)) rfl ?_
      refine mz_do (R := mz_r187) (as := [.ref 65, .int a, .int b]) (rest := []) (r1 := some (.int 0)) (m1 := m) rfl ⟨?_, rfl⟩ ?_
      · refine mz_go 3 (c' := (3, [some (.ref 65), some (.int a), some (.int b)], [.ref 65, .int 0, .int a], m)) rfl ?_
        refine mz_do (R := mz_r183) (as := [.ref 65]) (rest := [.int 0, .int a]) (r1 := some (.int (nI WW))) (m1 := m) rfl ⟨?_, rfl⟩ ?_
        · refine mz_go 4 (c' := (7, [some (.ref 65)], [.int (m 66 60)], m)) rfl ?_
          rw [h6660]
          exact mz_ret rfl
        refine mz_go 2 (c' := (8, [some (.ref 65), some (.int a), some (.int b)], [.int ((nI WW) - 1), .int 0, .int a], m)) rfl ?_
        rw [show nI WW - 1 = -1 from by rw [show WW = 0 by omega]; decide]
        refine mz_do (R := mz_r128) (as := [.int a, .int 0, .int (-1)]) (rest := []) (r1 := some (.int 0)) (m1 := m) rfl ((ct_inL (m := m) (v := a) (a := 0) (b := (-1)) q2).deep (by decide)) ?_
        refine mz_go 2 (c' := (33, [some (.ref 65), some (.int a), some (.int b)], [.int 0], m)) rfl ?_
        exact mz_ret rfl
      refine mz_go 2 (c' := (24, [some (.ref 65), some (.int a), some (.int b), some (.int c)], [.int 0], m)) rfl ?_
      exact mz_ret rfl
    · refine ⟨0, ⟨?_, rfl⟩, (vq_o0 q1)⟩
      refine mz_go 3 (c' := (3, [some (.ref 65), some (.int a), some (.int b), some (.int c)], [.int b, .int a, .ref 65], m)) rfl ?_
      refine mz_do (R := mz_r187) (as := [.ref 65, .int a, .int b]) (rest := []) (r1 := some (.int 0)) (m1 := m) rfl ⟨?_, rfl⟩ ?_
      · refine mz_go 3 (c' := (3, [some (.ref 65), some (.int a), some (.int b)], [.ref 65, .int 0, .int a], m)) rfl ?_
        refine mz_do (R := mz_r183) (as := [.ref 65]) (rest := [.int 0, .int a]) (r1 := some (.int (nI WW))) (m1 := m) rfl ⟨?_, rfl⟩ ?_
        · refine mz_go 4 (c' := (7, [some (.ref 65)], [.int (m 66 60)], m)) rfl ?_
          rw [h6660]
          exact mz_ret rfl
        refine mz_go 2 (c' := (8, [some (.ref 65), some (.int a), some (.int b)], [.int ((nI WW) - 1), .int 0, .int a], m)) rfl ?_
        rw [show nI WW - 1 = -1 from by rw [show WW = 0 by omega]; decide]
        refine mz_do (R := mz_r128) (as := [.int a, .int 0, .int (-1)]) (rest := []) (r1 := some (.int 0)) (m1 := m) rfl ((ct_inG (m := m) (v := a) (a := 0) (b := (-1)) q2 (by have hl : (0 : Int) ≤ (a).toInt := Int32.le_iff_toInt_le.mp (Int32.not_lt.mp q2); exact Int32.lt_iff_toInt_lt.mpr (show (-1 : Int) < (a).toInt by omega))).deep (by decide)) ?_
        refine mz_go 2 (c' := (33, [some (.ref 65), some (.int a), some (.int b)], [.int 0], m)) rfl ?_
        exact mz_ret rfl
      refine mz_go 2 (c' := (24, [some (.ref 65), some (.int a), some (.int b), some (.int c)], [.int 0], m)) rfl ?_
      exact mz_ret rfl
  · by_cases q3 : a < 0
    · refine ⟨0, ⟨?_, rfl⟩, (vq_o1 q3)⟩
      refine mz_go 3 (c' := (3, [some (.ref 65), some (.int a), some (.int b), some (.int c)], [.int b, .int a, .ref 65], m)) rfl ?_
      refine mz_do (R := mz_r187) (as := [.ref 65, .int a, .int b]) (rest := []) (r1 := some (.int 0)) (m1 := m) rfl ⟨?_, rfl⟩ ?_
      · refine mz_go 3 (c' := (3, [some (.ref 65), some (.int a), some (.int b)], [.ref 65, .int 0, .int a], m)) rfl ?_
        refine mz_do (R := mz_r183) (as := [.ref 65]) (rest := [.int 0, .int a]) (r1 := some (.int (nI WW))) (m1 := m) rfl ⟨?_, rfl⟩ ?_
        · refine mz_go 4 (c' := (7, [some (.ref 65)], [.int (m 66 60)], m)) rfl ?_
          rw [h6660]
          exact mz_ret rfl
        refine mz_go 2 (c' := (8, [some (.ref 65), some (.int a), some (.int b)], [.int ((nI WW) - 1), .int 0, .int a], m)) rfl ?_
        refine mz_do (R := mz_r128) (as := [.int a, .int 0, .int ((nI WW) - 1)]) (rest := []) (r1 := some (.int 0)) (m1 := m) rfl ((ct_inL (m := m) (v := a) (a := 0) (b := (nI WW) - 1) q3).deep (by decide)) ?_
        refine mz_go 2 (c' := (33, [some (.ref 65), some (.int a), some (.int b)], [.int 0], m)) rfl ?_
        exact mz_ret rfl
      refine mz_go 2 (c' := (24, [some (.ref 65), some (.int a), some (.int b), some (.int c)], [.int 0], m)) rfl ?_
      exact mz_ret rfl
    · obtain ⟨ja, hja, rfl⟩ := nI_of q3
      by_cases q4 : (WW - 1) < ja
      · refine ⟨0, ⟨?_, rfl⟩, (vq_o2 hja (by omega))⟩
        refine mz_go 3 (c' := (3, [some (.ref 65), some (.int (nI ja)), some (.int b), some (.int c)], [.int b, .int (nI ja), .ref 65], m)) rfl ?_
        refine mz_do (R := mz_r187) (as := [.ref 65, .int (nI ja), .int b]) (rest := []) (r1 := some (.int 0)) (m1 := m) rfl ⟨?_, rfl⟩ ?_
        · refine mz_go 3 (c' := (3, [some (.ref 65), some (.int (nI ja)), some (.int b)], [.ref 65, .int 0, .int (nI ja)], m)) rfl ?_
          refine mz_do (R := mz_r183) (as := [.ref 65]) (rest := [.int 0, .int (nI ja)]) (r1 := some (.int (nI WW))) (m1 := m) rfl ⟨?_, rfl⟩ ?_
          · refine mz_go 4 (c' := (7, [some (.ref 65)], [.int (m 66 60)], m)) rfl ?_
            rw [h6660]
            exact mz_ret rfl
          refine mz_go 2 (c' := (8, [some (.ref 65), some (.int (nI ja)), some (.int b)], [.int ((nI WW) - 1), .int 0, .int (nI ja)], m)) rfl ?_
          refine mz_do (R := mz_r128) (as := [.int (nI ja), .int 0, .int ((nI WW) - 1)]) (rest := []) (r1 := some (.int 0)) (m1 := m) rfl ((ct_inG (m := m) (v := nI ja) (a := 0) (b := (nI WW) - 1) q3 (show (((nI WW) - 1) < (nI ja)) from (sm_ltN (sm_subN (a := WW) (b := 1) rfl rfl (by omega)) rfl (show (WW - 1) < ja by omega) (show ja < 2 ^ 31 by omega)))).deep (by decide)) ?_
          refine mz_go 2 (c' := (33, [some (.ref 65), some (.int (nI ja)), some (.int b)], [.int 0], m)) rfl ?_
          exact mz_ret rfl
        refine mz_go 2 (c' := (24, [some (.ref 65), some (.int (nI ja)), some (.int b), some (.int c)], [.int 0], m)) rfl ?_
        exact mz_ret rfl
      · by_cases q5 : b < 0
        · refine ⟨0, ⟨?_, rfl⟩, (vq_o3 q5)⟩
          refine mz_go 3 (c' := (3, [some (.ref 65), some (.int (nI ja)), some (.int b), some (.int c)], [.int b, .int (nI ja), .ref 65], m)) rfl ?_
          refine mz_do (R := mz_r187) (as := [.ref 65, .int (nI ja), .int b]) (rest := []) (r1 := some (.int 0)) (m1 := m) rfl ⟨?_, rfl⟩ ?_
          · refine mz_go 3 (c' := (3, [some (.ref 65), some (.int (nI ja)), some (.int b)], [.ref 65, .int 0, .int (nI ja)], m)) rfl ?_
            refine mz_do (R := mz_r183) (as := [.ref 65]) (rest := [.int 0, .int (nI ja)]) (r1 := some (.int (nI WW))) (m1 := m) rfl ⟨?_, rfl⟩ ?_
            · refine mz_go 4 (c' := (7, [some (.ref 65)], [.int (m 66 60)], m)) rfl ?_
              rw [h6660]
              exact mz_ret rfl
            refine mz_go 2 (c' := (8, [some (.ref 65), some (.int (nI ja)), some (.int b)], [.int ((nI WW) - 1), .int 0, .int (nI ja)], m)) rfl ?_
            refine mz_do (R := mz_r128) (as := [.int (nI ja), .int 0, .int ((nI WW) - 1)]) (rest := []) (r1 := some (.int 1)) (m1 := m) rfl ((ct_in1 (m := m) (v := nI ja) (a := 0) (b := (nI WW) - 1) q3 (show ¬ (((nI WW) - 1) < (nI ja)) from (sm_nltN (sm_subN (a := WW) (b := 1) rfl rfl (by omega)) rfl (show ja ≤ (WW - 1) by omega) (show (WW - 1) < 2 ^ 31 by omega)))).deep (by decide)) ?_
            refine mz_go 4 (c' := (17, [some (.ref 65), some (.int (nI ja)), some (.int b)], [.ref 65, .int 0, .int b], m)) rfl ?_
            refine mz_do (R := mz_r184) (as := [.ref 65]) (rest := [.int 0, .int b]) (r1 := some (.int (nI HH))) (m1 := m) rfl ⟨?_, rfl⟩ ?_
            · refine mz_go 4 (c' := (7, [some (.ref 65)], [.int (m 66 61)], m)) rfl ?_
              rw [h6661]
              exact mz_ret rfl
            refine mz_go 2 (c' := (22, [some (.ref 65), some (.int (nI ja)), some (.int b)], [.int ((nI HH) - 1), .int 0, .int b], m)) rfl ?_
            refine mz_do (R := mz_r128) (as := [.int b, .int 0, .int ((nI HH) - 1)]) (rest := []) (r1 := some (.int 0)) (m1 := m) rfl ((ct_inL (m := m) (v := b) (a := 0) (b := (nI HH) - 1) q5).deep (by decide)) ?_
            refine mz_go 2 (c' := (33, [some (.ref 65), some (.int (nI ja)), some (.int b)], [.int 0], m)) rfl ?_
            exact mz_ret rfl
          refine mz_go 2 (c' := (24, [some (.ref 65), some (.int (nI ja)), some (.int b), some (.int c)], [.int 0], m)) rfl ?_
          exact mz_ret rfl
        · obtain ⟨jb, hjb, rfl⟩ := nI_of q5
          by_cases q6 : (HH - 1) < jb
          · refine ⟨0, ⟨?_, rfl⟩, (vq_o4 hjb (by omega))⟩
            refine mz_go 3 (c' := (3, [some (.ref 65), some (.int (nI ja)), some (.int (nI jb)), some (.int c)], [.int (nI jb), .int (nI ja), .ref 65], m)) rfl ?_
            refine mz_do (R := mz_r187) (as := [.ref 65, .int (nI ja), .int (nI jb)]) (rest := []) (r1 := some (.int 0)) (m1 := m) rfl ⟨?_, rfl⟩ ?_
            · refine mz_go 3 (c' := (3, [some (.ref 65), some (.int (nI ja)), some (.int (nI jb))], [.ref 65, .int 0, .int (nI ja)], m)) rfl ?_
              refine mz_do (R := mz_r183) (as := [.ref 65]) (rest := [.int 0, .int (nI ja)]) (r1 := some (.int (nI WW))) (m1 := m) rfl ⟨?_, rfl⟩ ?_
              · refine mz_go 4 (c' := (7, [some (.ref 65)], [.int (m 66 60)], m)) rfl ?_
                rw [h6660]
                exact mz_ret rfl
              refine mz_go 2 (c' := (8, [some (.ref 65), some (.int (nI ja)), some (.int (nI jb))], [.int ((nI WW) - 1), .int 0, .int (nI ja)], m)) rfl ?_
              refine mz_do (R := mz_r128) (as := [.int (nI ja), .int 0, .int ((nI WW) - 1)]) (rest := []) (r1 := some (.int 1)) (m1 := m) rfl ((ct_in1 (m := m) (v := nI ja) (a := 0) (b := (nI WW) - 1) q3 (show ¬ (((nI WW) - 1) < (nI ja)) from (sm_nltN (sm_subN (a := WW) (b := 1) rfl rfl (by omega)) rfl (show ja ≤ (WW - 1) by omega) (show (WW - 1) < 2 ^ 31 by omega)))).deep (by decide)) ?_
              refine mz_go 4 (c' := (17, [some (.ref 65), some (.int (nI ja)), some (.int (nI jb))], [.ref 65, .int 0, .int (nI jb)], m)) rfl ?_
              refine mz_do (R := mz_r184) (as := [.ref 65]) (rest := [.int 0, .int (nI jb)]) (r1 := some (.int (nI HH))) (m1 := m) rfl ⟨?_, rfl⟩ ?_
              · refine mz_go 4 (c' := (7, [some (.ref 65)], [.int (m 66 61)], m)) rfl ?_
                rw [h6661]
                exact mz_ret rfl
              refine mz_go 2 (c' := (22, [some (.ref 65), some (.int (nI ja)), some (.int (nI jb))], [.int ((nI HH) - 1), .int 0, .int (nI jb)], m)) rfl ?_
              refine mz_do (R := mz_r128) (as := [.int (nI jb), .int 0, .int ((nI HH) - 1)]) (rest := []) (r1 := some (.int 0)) (m1 := m) rfl ((ct_inG (m := m) (v := nI jb) (a := 0) (b := (nI HH) - 1) q5 (show (((nI HH) - 1) < (nI jb)) from (sm_ltN (sm_subN (a := HH) (b := 1) rfl rfl (by omega)) rfl (show (HH - 1) < jb by omega) (show jb < 2 ^ 31 by omega)))).deep (by decide)) ?_
              refine mz_go 2 (c' := (33, [some (.ref 65), some (.int (nI ja)), some (.int (nI jb))], [.int 0], m)) rfl ?_
              exact mz_ret rfl
            refine mz_go 2 (c' := (24, [some (.ref 65), some (.int (nI ja)), some (.int (nI jb)), some (.int c)], [.int 0], m)) rfl ?_
            exact mz_ret rfl
          · by_cases q7 : (m 66 ((70 + (6 * jb)) + ja)) = c
            · refine ⟨0, ⟨?_, rfl⟩, (vq_o5 (f := (fun i => m 66 (70 + i))) (by omega) (by omega) hWW hHH (show (fun i => m 66 (70 + i)) (jb * 6 + ja) = c from (congrArg (m 66) (show 70 + (jb * 6 + ja) = (70 + (6 * jb)) + ja by omega)).trans q7))⟩
              refine mz_go 3 (c' := (3, [some (.ref 65), some (.int (nI ja)), some (.int (nI jb)), some (.int c)], [.int (nI jb), .int (nI ja), .ref 65], m)) rfl ?_
              refine mz_do (R := mz_r187) (as := [.ref 65, .int (nI ja), .int (nI jb)]) (rest := []) (r1 := some (.int 1)) (m1 := m) rfl ⟨?_, rfl⟩ ?_
              · refine mz_go 3 (c' := (3, [some (.ref 65), some (.int (nI ja)), some (.int (nI jb))], [.ref 65, .int 0, .int (nI ja)], m)) rfl ?_
                refine mz_do (R := mz_r183) (as := [.ref 65]) (rest := [.int 0, .int (nI ja)]) (r1 := some (.int (nI WW))) (m1 := m) rfl ⟨?_, rfl⟩ ?_
                · refine mz_go 4 (c' := (7, [some (.ref 65)], [.int (m 66 60)], m)) rfl ?_
                  rw [h6660]
                  exact mz_ret rfl
                refine mz_go 2 (c' := (8, [some (.ref 65), some (.int (nI ja)), some (.int (nI jb))], [.int ((nI WW) - 1), .int 0, .int (nI ja)], m)) rfl ?_
                refine mz_do (R := mz_r128) (as := [.int (nI ja), .int 0, .int ((nI WW) - 1)]) (rest := []) (r1 := some (.int 1)) (m1 := m) rfl ((ct_in1 (m := m) (v := nI ja) (a := 0) (b := (nI WW) - 1) q3 (show ¬ (((nI WW) - 1) < (nI ja)) from (sm_nltN (sm_subN (a := WW) (b := 1) rfl rfl (by omega)) rfl (show ja ≤ (WW - 1) by omega) (show (WW - 1) < 2 ^ 31 by omega)))).deep (by decide)) ?_
                refine mz_go 4 (c' := (17, [some (.ref 65), some (.int (nI ja)), some (.int (nI jb))], [.ref 65, .int 0, .int (nI jb)], m)) rfl ?_
                refine mz_do (R := mz_r184) (as := [.ref 65]) (rest := [.int 0, .int (nI jb)]) (r1 := some (.int (nI HH))) (m1 := m) rfl ⟨?_, rfl⟩ ?_
                · refine mz_go 4 (c' := (7, [some (.ref 65)], [.int (m 66 61)], m)) rfl ?_
                  rw [h6661]
                  exact mz_ret rfl
                refine mz_go 2 (c' := (22, [some (.ref 65), some (.int (nI ja)), some (.int (nI jb))], [.int ((nI HH) - 1), .int 0, .int (nI jb)], m)) rfl ?_
                refine mz_do (R := mz_r128) (as := [.int (nI jb), .int 0, .int ((nI HH) - 1)]) (rest := []) (r1 := some (.int 1)) (m1 := m) rfl ((ct_in1 (m := m) (v := nI jb) (a := 0) (b := (nI HH) - 1) q5 (show ¬ (((nI HH) - 1) < (nI jb)) from (sm_nltN (sm_subN (a := HH) (b := 1) rfl rfl (by omega)) rfl (show jb ≤ (HH - 1) by omega) (show (HH - 1) < 2 ^ 31 by omega)))).deep (by decide)) ?_
                refine mz_go 3 (c' := (33, [some (.ref 65), some (.int (nI ja)), some (.int (nI jb))], [.int 1], m)) rfl ?_
                exact mz_ret rfl
              refine mz_go 4 (c' := (12, [some (.ref 65), some (.int (nI ja)), some (.int (nI jb)), some (.int c)], [.int (nI jb), .int (nI ja), .ref 65], m)) rfl ?_
              refine mz_do (R := mz_r186) (as := [.ref 65, .int (nI ja), .int (nI jb)]) (rest := []) (r1 := some (.int (m 66 ((70 + (6 * jb)) + ja)))) (m1 := m) rfl ((vr_col (m := m) (A := ja) (B := jb) (by omega) (by omega) (a := nI ja) (b := nI jb) rfl rfl).deep (by decide)) ?_
              refine mz_go 2 (c' := (if (m 66 ((70 + (6 * jb)) + ja)) = c then 23 else 19, [some (.ref 65), some (.int (nI ja)), some (.int (nI jb)), some (.int c)], [], m)) rfl ?_
              refine mz_ifT q7 ?_
              refine mz_go 1 (c' := (24, [some (.ref 65), some (.int (nI ja)), some (.int (nI jb)), some (.int c)], [.int 0], m)) rfl ?_
              exact mz_ret rfl
            · refine ⟨1, ⟨?_, rfl⟩, (vq_o6 (f := (fun i => m 66 (70 + i))) (by omega) (by omega) hWW hHH (fun z => q7 ((congrArg (m 66) (show 70 + (jb * 6 + ja) = (70 + (6 * jb)) + ja by omega)).symm.trans z)))⟩
              refine mz_go 3 (c' := (3, [some (.ref 65), some (.int (nI ja)), some (.int (nI jb)), some (.int c)], [.int (nI jb), .int (nI ja), .ref 65], m)) rfl ?_
              refine mz_do (R := mz_r187) (as := [.ref 65, .int (nI ja), .int (nI jb)]) (rest := []) (r1 := some (.int 1)) (m1 := m) rfl ⟨?_, rfl⟩ ?_
              · refine mz_go 3 (c' := (3, [some (.ref 65), some (.int (nI ja)), some (.int (nI jb))], [.ref 65, .int 0, .int (nI ja)], m)) rfl ?_
                refine mz_do (R := mz_r183) (as := [.ref 65]) (rest := [.int 0, .int (nI ja)]) (r1 := some (.int (nI WW))) (m1 := m) rfl ⟨?_, rfl⟩ ?_
                · refine mz_go 4 (c' := (7, [some (.ref 65)], [.int (m 66 60)], m)) rfl ?_
                  rw [h6660]
                  exact mz_ret rfl
                refine mz_go 2 (c' := (8, [some (.ref 65), some (.int (nI ja)), some (.int (nI jb))], [.int ((nI WW) - 1), .int 0, .int (nI ja)], m)) rfl ?_
                refine mz_do (R := mz_r128) (as := [.int (nI ja), .int 0, .int ((nI WW) - 1)]) (rest := []) (r1 := some (.int 1)) (m1 := m) rfl ((ct_in1 (m := m) (v := nI ja) (a := 0) (b := (nI WW) - 1) q3 (show ¬ (((nI WW) - 1) < (nI ja)) from (sm_nltN (sm_subN (a := WW) (b := 1) rfl rfl (by omega)) rfl (show ja ≤ (WW - 1) by omega) (show (WW - 1) < 2 ^ 31 by omega)))).deep (by decide)) ?_
                refine mz_go 4 (c' := (17, [some (.ref 65), some (.int (nI ja)), some (.int (nI jb))], [.ref 65, .int 0, .int (nI jb)], m)) rfl ?_
                refine mz_do (R := mz_r184) (as := [.ref 65]) (rest := [.int 0, .int (nI jb)]) (r1 := some (.int (nI HH))) (m1 := m) rfl ⟨?_, rfl⟩ ?_
                · refine mz_go 4 (c' := (7, [some (.ref 65)], [.int (m 66 61)], m)) rfl ?_
                  rw [h6661]
                  exact mz_ret rfl
                refine mz_go 2 (c' := (22, [some (.ref 65), some (.int (nI ja)), some (.int (nI jb))], [.int ((nI HH) - 1), .int 0, .int (nI jb)], m)) rfl ?_
                refine mz_do (R := mz_r128) (as := [.int (nI jb), .int 0, .int ((nI HH) - 1)]) (rest := []) (r1 := some (.int 1)) (m1 := m) rfl ((ct_in1 (m := m) (v := nI jb) (a := 0) (b := (nI HH) - 1) q5 (show ¬ (((nI HH) - 1) < (nI jb)) from (sm_nltN (sm_subN (a := HH) (b := 1) rfl rfl (by omega)) rfl (show jb ≤ (HH - 1) by omega) (show (HH - 1) < 2 ^ 31 by omega)))).deep (by decide)) ?_
                refine mz_go 3 (c' := (33, [some (.ref 65), some (.int (nI ja)), some (.int (nI jb))], [.int 1], m)) rfl ?_
                exact mz_ret rfl
              refine mz_go 4 (c' := (12, [some (.ref 65), some (.int (nI ja)), some (.int (nI jb)), some (.int c)], [.int (nI jb), .int (nI ja), .ref 65], m)) rfl ?_
              refine mz_do (R := mz_r186) (as := [.ref 65, .int (nI ja), .int (nI jb)]) (rest := []) (r1 := some (.int (m 66 ((70 + (6 * jb)) + ja)))) (m1 := m) rfl ((vr_col (m := m) (A := ja) (B := jb) (by omega) (by omega) (a := nI ja) (b := nI jb) rfl rfl).deep (by decide)) ?_
              refine mz_go 2 (c' := (if (m 66 ((70 + (6 * jb)) + ja)) = c then 23 else 19, [some (.ref 65), some (.int (nI ja)), some (.int (nI jb)), some (.int c)], [], m)) rfl ?_
              refine mz_ifF q7 ?_
              refine mz_go 2 (c' := (24, [some (.ref 65), some (.int (nI ja)), some (.int (nI jb)), some (.int c)], [.int 1], m)) rfl ?_
              exact mz_ret rfl
set_option maxHeartbeats 4000000 in
set_option maxRecDepth 100000 in
theorem vr_edg {m : mz_M} {WW HH : Nat} (hWW : WW ≤ 6) (hHH : HH ≤ 6) (hWH : WW = 0 ↔ HH = 0) (h6660 : m 66 60 = nI WW) (h6661 : m 66 61 = nI HH) {I J : Nat} (hI : I < WW) (hJ : J < HH) : ∃ v, mz_Me 10 mz_r196 [.ref 65, .int (nI I), .int (nI J)] m (some (.int v)) m ∧ (v = vq_ed (fun i => m 66 (70 + i)) WW HH I J (m 66 ((70 + (6 * J)) + I))) := by
  by_cases q1 : I = 0
  · obtain ⟨ve1, Ee1, Pe1⟩ := vr_oth (m := m) hWW hHH hWH h6660 h6661 (-1) (nI J) (m 66 ((70 + (6 * J)) + I))
    by_cases q2 : ve1 = 0
    · obtain ⟨ve2, Ee2, Pe2⟩ := vr_oth (m := m) hWW hHH hWH h6660 h6661 ((nI I) + 1) (nI J) (m 66 ((70 + (6 * J)) + I))
      by_cases q3 : ve2 = 0
      · by_cases q4 : J = 0
        · obtain ⟨ve3, Ee3, Pe3⟩ := vr_oth (m := m) hWW hHH hWH h6660 h6661 (nI I) (-1) (m 66 ((70 + (6 * J)) + I))
          by_cases q5 : ve3 = 0
          · obtain ⟨ve4, Ee4, Pe4⟩ := vr_oth (m := m) hWW hHH hWH h6660 h6661 (nI I) ((nI J) + 1) (m 66 ((70 + (6 * J)) + I))
            by_cases q6 : ve4 = 0
            · refine ⟨0, ⟨?_, rfl⟩, (by unfold vq_ed; rw [vq_m1 q1]; rw [← Pe1, if_pos q2]; rw [← Pe2, if_pos q3]; rw [vq_m1 q4]; rw [← Pe3, if_pos q5]; rw [← Pe4, if_pos q6])⟩
              refine mz_go 3 (c' := (3, [some (.ref 65), some (.int (nI I)), some (.int (nI J)), none], [.int (nI J), .int (nI I), .ref 65], m)) rfl ?_
              refine mz_do (R := mz_r186) (as := [.ref 65, .int (nI I), .int (nI J)]) (rest := []) (r1 := some (.int (m 66 ((70 + (6 * J)) + I)))) (m1 := m) rfl ((vr_col (m := m) (A := I) (B := J) (by omega) (by omega) (a := nI I) (b := nI J) rfl rfl).deep (by decide)) ?_
              refine mz_go 5 (c' := (11, [some (.ref 65), some (.int (nI I)), some (.int (nI J)), some (.int (m 66 ((70 + (6 * J)) + I)))], [.int ((nI I) - 1), .ref 65], m)) rfl ?_
              rw [show nI I - 1 = -1 from by rw [show I = 0 by omega]; decide]
              refine mz_go 2 (c' := (13, [some (.ref 65), some (.int (nI I)), some (.int (nI J)), some (.int (m 66 ((70 + (6 * J)) + I)))], [.int (m 66 ((70 + (6 * J)) + I)), .int (nI J), .int (-1), .ref 65], m)) rfl ?_
              refine mz_do (R := mz_r195) (as := [.ref 65, .int (-1), .int (nI J), .int (m 66 ((70 + (6 * J)) + I))]) (rest := []) (r1 := some (.int ve1)) (m1 := m) rfl (Ee1.deep (by decide)) ?_
              refine mz_go 1 (c' := (if ve1 = 0 then 19 else 55, [some (.ref 65), some (.int (nI I)), some (.int (nI J)), some (.int (m 66 ((70 + (6 * J)) + I)))], [], m)) rfl ?_
              refine mz_ifT q2 ?_
              refine mz_go 6 (c' := (25, [some (.ref 65), some (.int (nI I)), some (.int (nI J)), some (.int (m 66 ((70 + (6 * J)) + I)))], [.int (m 66 ((70 + (6 * J)) + I)), .int (nI J), .int ((nI I) + 1), .ref 65], m)) rfl ?_
              refine mz_do (R := mz_r195) (as := [.ref 65, .int ((nI I) + 1), .int (nI J), .int (m 66 ((70 + (6 * J)) + I))]) (rest := []) (r1 := some (.int ve2)) (m1 := m) rfl (Ee2.deep (by decide)) ?_
              refine mz_go 1 (c' := (if ve2 = 0 then 31 else 55, [some (.ref 65), some (.int (nI I)), some (.int (nI J)), some (.int (m 66 ((70 + (6 * J)) + I)))], [], m)) rfl ?_
              refine mz_ifT q3 ?_
              refine mz_go 5 (c' := (36, [some (.ref 65), some (.int (nI I)), some (.int (nI J)), some (.int (m 66 ((70 + (6 * J)) + I)))], [.int ((nI J) - 1), .int (nI I), .ref 65], m)) rfl ?_
              rw [show nI J - 1 = -1 from by rw [show J = 0 by omega]; decide]
              refine mz_go 1 (c' := (37, [some (.ref 65), some (.int (nI I)), some (.int (nI J)), some (.int (m 66 ((70 + (6 * J)) + I)))], [.int (m 66 ((70 + (6 * J)) + I)), .int (-1), .int (nI I), .ref 65], m)) rfl ?_
              refine mz_do (R := mz_r195) (as := [.ref 65, .int (nI I), .int (-1), .int (m 66 ((70 + (6 * J)) + I))]) (rest := []) (r1 := some (.int ve3)) (m1 := m) rfl (Ee3.deep (by decide)) ?_
              refine mz_go 1 (c' := (if ve3 = 0 then 43 else 55, [some (.ref 65), some (.int (nI I)), some (.int (nI J)), some (.int (m 66 ((70 + (6 * J)) + I)))], [], m)) rfl ?_
              refine mz_ifT q5 ?_
              refine mz_go 6 (c' := (49, [some (.ref 65), some (.int (nI I)), some (.int (nI J)), some (.int (m 66 ((70 + (6 * J)) + I)))], [.int (m 66 ((70 + (6 * J)) + I)), .int ((nI J) + 1), .int (nI I), .ref 65], m)) rfl ?_
              refine mz_do (R := mz_r195) (as := [.ref 65, .int (nI I), .int ((nI J) + 1), .int (m 66 ((70 + (6 * J)) + I))]) (rest := []) (r1 := some (.int ve4)) (m1 := m) rfl (Ee4.deep (by decide)) ?_
              refine mz_go 1 (c' := (if ve4 = 0 then 59 else 55, [some (.ref 65), some (.int (nI I)), some (.int (nI J)), some (.int (m 66 ((70 + (6 * J)) + I)))], [], m)) rfl ?_
              refine mz_ifT q6 ?_
              refine mz_go 1 (c' := (60, [some (.ref 65), some (.int (nI I)), some (.int (nI J)), some (.int (m 66 ((70 + (6 * J)) + I)))], [.int 0], m)) rfl ?_
              exact mz_ret rfl
            · refine ⟨1, ⟨?_, rfl⟩, (by unfold vq_ed; rw [vq_m1 q1]; rw [← Pe1, if_pos q2]; rw [← Pe2, if_pos q3]; rw [vq_m1 q4]; rw [← Pe3, if_pos q5]; rw [← Pe4, if_neg q6])⟩
              refine mz_go 3 (c' := (3, [some (.ref 65), some (.int (nI I)), some (.int (nI J)), none], [.int (nI J), .int (nI I), .ref 65], m)) rfl ?_
              refine mz_do (R := mz_r186) (as := [.ref 65, .int (nI I), .int (nI J)]) (rest := []) (r1 := some (.int (m 66 ((70 + (6 * J)) + I)))) (m1 := m) rfl ((vr_col (m := m) (A := I) (B := J) (by omega) (by omega) (a := nI I) (b := nI J) rfl rfl).deep (by decide)) ?_
              refine mz_go 5 (c' := (11, [some (.ref 65), some (.int (nI I)), some (.int (nI J)), some (.int (m 66 ((70 + (6 * J)) + I)))], [.int ((nI I) - 1), .ref 65], m)) rfl ?_
              rw [show nI I - 1 = -1 from by rw [show I = 0 by omega]; decide]
              refine mz_go 2 (c' := (13, [some (.ref 65), some (.int (nI I)), some (.int (nI J)), some (.int (m 66 ((70 + (6 * J)) + I)))], [.int (m 66 ((70 + (6 * J)) + I)), .int (nI J), .int (-1), .ref 65], m)) rfl ?_
              refine mz_do (R := mz_r195) (as := [.ref 65, .int (-1), .int (nI J), .int (m 66 ((70 + (6 * J)) + I))]) (rest := []) (r1 := some (.int ve1)) (m1 := m) rfl (Ee1.deep (by decide)) ?_
              refine mz_go 1 (c' := (if ve1 = 0 then 19 else 55, [some (.ref 65), some (.int (nI I)), some (.int (nI J)), some (.int (m 66 ((70 + (6 * J)) + I)))], [], m)) rfl ?_
              refine mz_ifT q2 ?_
              refine mz_go 6 (c' := (25, [some (.ref 65), some (.int (nI I)), some (.int (nI J)), some (.int (m 66 ((70 + (6 * J)) + I)))], [.int (m 66 ((70 + (6 * J)) + I)), .int (nI J), .int ((nI I) + 1), .ref 65], m)) rfl ?_
              refine mz_do (R := mz_r195) (as := [.ref 65, .int ((nI I) + 1), .int (nI J), .int (m 66 ((70 + (6 * J)) + I))]) (rest := []) (r1 := some (.int ve2)) (m1 := m) rfl (Ee2.deep (by decide)) ?_
              refine mz_go 1 (c' := (if ve2 = 0 then 31 else 55, [some (.ref 65), some (.int (nI I)), some (.int (nI J)), some (.int (m 66 ((70 + (6 * J)) + I)))], [], m)) rfl ?_
              refine mz_ifT q3 ?_
              refine mz_go 5 (c' := (36, [some (.ref 65), some (.int (nI I)), some (.int (nI J)), some (.int (m 66 ((70 + (6 * J)) + I)))], [.int ((nI J) - 1), .int (nI I), .ref 65], m)) rfl ?_
              rw [show nI J - 1 = -1 from by rw [show J = 0 by omega]; decide]
              refine mz_go 1 (c' := (37, [some (.ref 65), some (.int (nI I)), some (.int (nI J)), some (.int (m 66 ((70 + (6 * J)) + I)))], [.int (m 66 ((70 + (6 * J)) + I)), .int (-1), .int (nI I), .ref 65], m)) rfl ?_
              refine mz_do (R := mz_r195) (as := [.ref 65, .int (nI I), .int (-1), .int (m 66 ((70 + (6 * J)) + I))]) (rest := []) (r1 := some (.int ve3)) (m1 := m) rfl (Ee3.deep (by decide)) ?_
              refine mz_go 1 (c' := (if ve3 = 0 then 43 else 55, [some (.ref 65), some (.int (nI I)), some (.int (nI J)), some (.int (m 66 ((70 + (6 * J)) + I)))], [], m)) rfl ?_
              refine mz_ifT q5 ?_
              refine mz_go 6 (c' := (49, [some (.ref 65), some (.int (nI I)), some (.int (nI J)), some (.int (m 66 ((70 + (6 * J)) + I)))], [.int (m 66 ((70 + (6 * J)) + I)), .int ((nI J) + 1), .int (nI I), .ref 65], m)) rfl ?_
              refine mz_do (R := mz_r195) (as := [.ref 65, .int (nI I), .int ((nI J) + 1), .int (m 66 ((70 + (6 * J)) + I))]) (rest := []) (r1 := some (.int ve4)) (m1 := m) rfl (Ee4.deep (by decide)) ?_
              refine mz_go 1 (c' := (if ve4 = 0 then 59 else 55, [some (.ref 65), some (.int (nI I)), some (.int (nI J)), some (.int (m 66 ((70 + (6 * J)) + I)))], [], m)) rfl ?_
              refine mz_ifF q6 ?_
              refine mz_go 2 (c' := (60, [some (.ref 65), some (.int (nI I)), some (.int (nI J)), some (.int (m 66 ((70 + (6 * J)) + I)))], [.int 1], m)) rfl ?_
              exact mz_ret rfl
          · refine ⟨1, ⟨?_, rfl⟩, (by unfold vq_ed; rw [vq_m1 q1]; rw [← Pe1, if_pos q2]; rw [← Pe2, if_pos q3]; rw [vq_m1 q4]; rw [← Pe3, if_neg q5])⟩
            refine mz_go 3 (c' := (3, [some (.ref 65), some (.int (nI I)), some (.int (nI J)), none], [.int (nI J), .int (nI I), .ref 65], m)) rfl ?_
            refine mz_do (R := mz_r186) (as := [.ref 65, .int (nI I), .int (nI J)]) (rest := []) (r1 := some (.int (m 66 ((70 + (6 * J)) + I)))) (m1 := m) rfl ((vr_col (m := m) (A := I) (B := J) (by omega) (by omega) (a := nI I) (b := nI J) rfl rfl).deep (by decide)) ?_
            refine mz_go 5 (c' := (11, [some (.ref 65), some (.int (nI I)), some (.int (nI J)), some (.int (m 66 ((70 + (6 * J)) + I)))], [.int ((nI I) - 1), .ref 65], m)) rfl ?_
            rw [show nI I - 1 = -1 from by rw [show I = 0 by omega]; decide]
            refine mz_go 2 (c' := (13, [some (.ref 65), some (.int (nI I)), some (.int (nI J)), some (.int (m 66 ((70 + (6 * J)) + I)))], [.int (m 66 ((70 + (6 * J)) + I)), .int (nI J), .int (-1), .ref 65], m)) rfl ?_
            refine mz_do (R := mz_r195) (as := [.ref 65, .int (-1), .int (nI J), .int (m 66 ((70 + (6 * J)) + I))]) (rest := []) (r1 := some (.int ve1)) (m1 := m) rfl (Ee1.deep (by decide)) ?_
            refine mz_go 1 (c' := (if ve1 = 0 then 19 else 55, [some (.ref 65), some (.int (nI I)), some (.int (nI J)), some (.int (m 66 ((70 + (6 * J)) + I)))], [], m)) rfl ?_
            refine mz_ifT q2 ?_
            refine mz_go 6 (c' := (25, [some (.ref 65), some (.int (nI I)), some (.int (nI J)), some (.int (m 66 ((70 + (6 * J)) + I)))], [.int (m 66 ((70 + (6 * J)) + I)), .int (nI J), .int ((nI I) + 1), .ref 65], m)) rfl ?_
            refine mz_do (R := mz_r195) (as := [.ref 65, .int ((nI I) + 1), .int (nI J), .int (m 66 ((70 + (6 * J)) + I))]) (rest := []) (r1 := some (.int ve2)) (m1 := m) rfl (Ee2.deep (by decide)) ?_
            refine mz_go 1 (c' := (if ve2 = 0 then 31 else 55, [some (.ref 65), some (.int (nI I)), some (.int (nI J)), some (.int (m 66 ((70 + (6 * J)) + I)))], [], m)) rfl ?_
            refine mz_ifT q3 ?_
            refine mz_go 5 (c' := (36, [some (.ref 65), some (.int (nI I)), some (.int (nI J)), some (.int (m 66 ((70 + (6 * J)) + I)))], [.int ((nI J) - 1), .int (nI I), .ref 65], m)) rfl ?_
            rw [show nI J - 1 = -1 from by rw [show J = 0 by omega]; decide]
            refine mz_go 1 (c' := (37, [some (.ref 65), some (.int (nI I)), some (.int (nI J)), some (.int (m 66 ((70 + (6 * J)) + I)))], [.int (m 66 ((70 + (6 * J)) + I)), .int (-1), .int (nI I), .ref 65], m)) rfl ?_
            refine mz_do (R := mz_r195) (as := [.ref 65, .int (nI I), .int (-1), .int (m 66 ((70 + (6 * J)) + I))]) (rest := []) (r1 := some (.int ve3)) (m1 := m) rfl (Ee3.deep (by decide)) ?_
            refine mz_go 1 (c' := (if ve3 = 0 then 43 else 55, [some (.ref 65), some (.int (nI I)), some (.int (nI J)), some (.int (m 66 ((70 + (6 * J)) + I)))], [], m)) rfl ?_
            refine mz_ifF q5 ?_
            refine mz_go 2 (c' := (60, [some (.ref 65), some (.int (nI I)), some (.int (nI J)), some (.int (m 66 ((70 + (6 * J)) + I)))], [.int 1], m)) rfl ?_
            exact mz_ret rfl
        · obtain ⟨ve3, Ee3, Pe3⟩ := vr_oth (m := m) hWW hHH hWH h6660 h6661 (nI I) ((nI J) - 1) (m 66 ((70 + (6 * J)) + I))
          by_cases q7 : ve3 = 0
          · obtain ⟨ve4, Ee4, Pe4⟩ := vr_oth (m := m) hWW hHH hWH h6660 h6661 (nI I) ((nI J) + 1) (m 66 ((70 + (6 * J)) + I))
            by_cases q8 : ve4 = 0
            · refine ⟨0, ⟨?_, rfl⟩, (by unfold vq_ed; rw [vq_m1 q1]; rw [← Pe1, if_pos q2]; rw [← Pe2, if_pos q3]; rw [← Pe3, if_pos q7]; rw [← Pe4, if_pos q8])⟩
              refine mz_go 3 (c' := (3, [some (.ref 65), some (.int (nI I)), some (.int (nI J)), none], [.int (nI J), .int (nI I), .ref 65], m)) rfl ?_
              refine mz_do (R := mz_r186) (as := [.ref 65, .int (nI I), .int (nI J)]) (rest := []) (r1 := some (.int (m 66 ((70 + (6 * J)) + I)))) (m1 := m) rfl ((vr_col (m := m) (A := I) (B := J) (by omega) (by omega) (a := nI I) (b := nI J) rfl rfl).deep (by decide)) ?_
              refine mz_go 5 (c' := (11, [some (.ref 65), some (.int (nI I)), some (.int (nI J)), some (.int (m 66 ((70 + (6 * J)) + I)))], [.int ((nI I) - 1), .ref 65], m)) rfl ?_
              rw [show nI I - 1 = -1 from by rw [show I = 0 by omega]; decide]
              refine mz_go 2 (c' := (13, [some (.ref 65), some (.int (nI I)), some (.int (nI J)), some (.int (m 66 ((70 + (6 * J)) + I)))], [.int (m 66 ((70 + (6 * J)) + I)), .int (nI J), .int (-1), .ref 65], m)) rfl ?_
              refine mz_do (R := mz_r195) (as := [.ref 65, .int (-1), .int (nI J), .int (m 66 ((70 + (6 * J)) + I))]) (rest := []) (r1 := some (.int ve1)) (m1 := m) rfl (Ee1.deep (by decide)) ?_
              refine mz_go 1 (c' := (if ve1 = 0 then 19 else 55, [some (.ref 65), some (.int (nI I)), some (.int (nI J)), some (.int (m 66 ((70 + (6 * J)) + I)))], [], m)) rfl ?_
              refine mz_ifT q2 ?_
              refine mz_go 6 (c' := (25, [some (.ref 65), some (.int (nI I)), some (.int (nI J)), some (.int (m 66 ((70 + (6 * J)) + I)))], [.int (m 66 ((70 + (6 * J)) + I)), .int (nI J), .int ((nI I) + 1), .ref 65], m)) rfl ?_
              refine mz_do (R := mz_r195) (as := [.ref 65, .int ((nI I) + 1), .int (nI J), .int (m 66 ((70 + (6 * J)) + I))]) (rest := []) (r1 := some (.int ve2)) (m1 := m) rfl (Ee2.deep (by decide)) ?_
              refine mz_go 1 (c' := (if ve2 = 0 then 31 else 55, [some (.ref 65), some (.int (nI I)), some (.int (nI J)), some (.int (m 66 ((70 + (6 * J)) + I)))], [], m)) rfl ?_
              refine mz_ifT q3 ?_
              refine mz_go 6 (c' := (37, [some (.ref 65), some (.int (nI I)), some (.int (nI J)), some (.int (m 66 ((70 + (6 * J)) + I)))], [.int (m 66 ((70 + (6 * J)) + I)), .int ((nI J) - 1), .int (nI I), .ref 65], m)) rfl ?_
              refine mz_do (R := mz_r195) (as := [.ref 65, .int (nI I), .int ((nI J) - 1), .int (m 66 ((70 + (6 * J)) + I))]) (rest := []) (r1 := some (.int ve3)) (m1 := m) rfl (Ee3.deep (by decide)) ?_
              refine mz_go 1 (c' := (if ve3 = 0 then 43 else 55, [some (.ref 65), some (.int (nI I)), some (.int (nI J)), some (.int (m 66 ((70 + (6 * J)) + I)))], [], m)) rfl ?_
              refine mz_ifT q7 ?_
              refine mz_go 6 (c' := (49, [some (.ref 65), some (.int (nI I)), some (.int (nI J)), some (.int (m 66 ((70 + (6 * J)) + I)))], [.int (m 66 ((70 + (6 * J)) + I)), .int ((nI J) + 1), .int (nI I), .ref 65], m)) rfl ?_
              refine mz_do (R := mz_r195) (as := [.ref 65, .int (nI I), .int ((nI J) + 1), .int (m 66 ((70 + (6 * J)) + I))]) (rest := []) (r1 := some (.int ve4)) (m1 := m) rfl (Ee4.deep (by decide)) ?_
              refine mz_go 1 (c' := (if ve4 = 0 then 59 else 55, [some (.ref 65), some (.int (nI I)), some (.int (nI J)), some (.int (m 66 ((70 + (6 * J)) + I)))], [], m)) rfl ?_
              refine mz_ifT q8 ?_
              refine mz_go 1 (c' := (60, [some (.ref 65), some (.int (nI I)), some (.int (nI J)), some (.int (m 66 ((70 + (6 * J)) + I)))], [.int 0], m)) rfl ?_
              exact mz_ret rfl
            · refine ⟨1, ⟨?_, rfl⟩, (by unfold vq_ed; rw [vq_m1 q1]; rw [← Pe1, if_pos q2]; rw [← Pe2, if_pos q3]; rw [← Pe3, if_pos q7]; rw [← Pe4, if_neg q8])⟩
              refine mz_go 3 (c' := (3, [some (.ref 65), some (.int (nI I)), some (.int (nI J)), none], [.int (nI J), .int (nI I), .ref 65], m)) rfl ?_
              refine mz_do (R := mz_r186) (as := [.ref 65, .int (nI I), .int (nI J)]) (rest := []) (r1 := some (.int (m 66 ((70 + (6 * J)) + I)))) (m1 := m) rfl ((vr_col (m := m) (A := I) (B := J) (by omega) (by omega) (a := nI I) (b := nI J) rfl rfl).deep (by decide)) ?_
              refine mz_go 5 (c' := (11, [some (.ref 65), some (.int (nI I)), some (.int (nI J)), some (.int (m 66 ((70 + (6 * J)) + I)))], [.int ((nI I) - 1), .ref 65], m)) rfl ?_
              rw [show nI I - 1 = -1 from by rw [show I = 0 by omega]; decide]
              refine mz_go 2 (c' := (13, [some (.ref 65), some (.int (nI I)), some (.int (nI J)), some (.int (m 66 ((70 + (6 * J)) + I)))], [.int (m 66 ((70 + (6 * J)) + I)), .int (nI J), .int (-1), .ref 65], m)) rfl ?_
              refine mz_do (R := mz_r195) (as := [.ref 65, .int (-1), .int (nI J), .int (m 66 ((70 + (6 * J)) + I))]) (rest := []) (r1 := some (.int ve1)) (m1 := m) rfl (Ee1.deep (by decide)) ?_
              refine mz_go 1 (c' := (if ve1 = 0 then 19 else 55, [some (.ref 65), some (.int (nI I)), some (.int (nI J)), some (.int (m 66 ((70 + (6 * J)) + I)))], [], m)) rfl ?_
              refine mz_ifT q2 ?_
              refine mz_go 6 (c' := (25, [some (.ref 65), some (.int (nI I)), some (.int (nI J)), some (.int (m 66 ((70 + (6 * J)) + I)))], [.int (m 66 ((70 + (6 * J)) + I)), .int (nI J), .int ((nI I) + 1), .ref 65], m)) rfl ?_
              refine mz_do (R := mz_r195) (as := [.ref 65, .int ((nI I) + 1), .int (nI J), .int (m 66 ((70 + (6 * J)) + I))]) (rest := []) (r1 := some (.int ve2)) (m1 := m) rfl (Ee2.deep (by decide)) ?_
              refine mz_go 1 (c' := (if ve2 = 0 then 31 else 55, [some (.ref 65), some (.int (nI I)), some (.int (nI J)), some (.int (m 66 ((70 + (6 * J)) + I)))], [], m)) rfl ?_
              refine mz_ifT q3 ?_
              refine mz_go 6 (c' := (37, [some (.ref 65), some (.int (nI I)), some (.int (nI J)), some (.int (m 66 ((70 + (6 * J)) + I)))], [.int (m 66 ((70 + (6 * J)) + I)), .int ((nI J) - 1), .int (nI I), .ref 65], m)) rfl ?_
              refine mz_do (R := mz_r195) (as := [.ref 65, .int (nI I), .int ((nI J) - 1), .int (m 66 ((70 + (6 * J)) + I))]) (rest := []) (r1 := some (.int ve3)) (m1 := m) rfl (Ee3.deep (by decide)) ?_
              refine mz_go 1 (c' := (if ve3 = 0 then 43 else 55, [some (.ref 65), some (.int (nI I)), some (.int (nI J)), some (.int (m 66 ((70 + (6 * J)) + I)))], [], m)) rfl ?_
              refine mz_ifT q7 ?_
              refine mz_go 6 (c' := (49, [some (.ref 65), some (.int (nI I)), some (.int (nI J)), some (.int (m 66 ((70 + (6 * J)) + I)))], [.int (m 66 ((70 + (6 * J)) + I)), .int ((nI J) + 1), .int (nI I), .ref 65], m)) rfl ?_
              refine mz_do (R := mz_r195) (as := [.ref 65, .int (nI I), .int ((nI J) + 1), .int (m 66 ((70 + (6 * J)) + I))]) (rest := []) (r1 := some (.int ve4)) (m1 := m) rfl (Ee4.deep (by decide)) ?_
              refine mz_go 1 (c' := (if ve4 = 0 then 59 else 55, [some (.ref 65), some (.int (nI I)), some (.int (nI J)), some (.int (m 66 ((70 + (6 * J)) + I)))], [], m)) rfl ?_
              refine mz_ifF q8 ?_
              refine mz_go 2 (c' := (60, [some (.ref 65), some (.int (nI I)), some (.int (nI J)), some (.int (m 66 ((70 + (6 * J)) + I)))], [.int 1], m)) rfl ?_
              exact mz_ret rfl
          · refine ⟨1, ⟨?_, rfl⟩, (by unfold vq_ed; rw [vq_m1 q1]; rw [← Pe1, if_pos q2]; rw [← Pe2, if_pos q3]; rw [← Pe3, if_neg q7])⟩
            refine mz_go 3 (c' := (3, [some (.ref 65), some (.int (nI I)), some (.int (nI J)), none], [.int (nI J), .int (nI I), .ref 65], m)) rfl ?_
            refine mz_do (R := mz_r186) (as := [.ref 65, .int (nI I), .int (nI J)]) (rest := []) (r1 := some (.int (m 66 ((70 + (6 * J)) + I)))) (m1 := m) rfl ((vr_col (m := m) (A := I) (B := J) (by omega) (by omega) (a := nI I) (b := nI J) rfl rfl).deep (by decide)) ?_
            refine mz_go 5 (c' := (11, [some (.ref 65), some (.int (nI I)), some (.int (nI J)), some (.int (m 66 ((70 + (6 * J)) + I)))], [.int ((nI I) - 1), .ref 65], m)) rfl ?_
            rw [show nI I - 1 = -1 from by rw [show I = 0 by omega]; decide]
            refine mz_go 2 (c' := (13, [some (.ref 65), some (.int (nI I)), some (.int (nI J)), some (.int (m 66 ((70 + (6 * J)) + I)))], [.int (m 66 ((70 + (6 * J)) + I)), .int (nI J), .int (-1), .ref 65], m)) rfl ?_
            refine mz_do (R := mz_r195) (as := [.ref 65, .int (-1), .int (nI J), .int (m 66 ((70 + (6 * J)) + I))]) (rest := []) (r1 := some (.int ve1)) (m1 := m) rfl (Ee1.deep (by decide)) ?_
            refine mz_go 1 (c' := (if ve1 = 0 then 19 else 55, [some (.ref 65), some (.int (nI I)), some (.int (nI J)), some (.int (m 66 ((70 + (6 * J)) + I)))], [], m)) rfl ?_
            refine mz_ifT q2 ?_
            refine mz_go 6 (c' := (25, [some (.ref 65), some (.int (nI I)), some (.int (nI J)), some (.int (m 66 ((70 + (6 * J)) + I)))], [.int (m 66 ((70 + (6 * J)) + I)), .int (nI J), .int ((nI I) + 1), .ref 65], m)) rfl ?_
            refine mz_do (R := mz_r195) (as := [.ref 65, .int ((nI I) + 1), .int (nI J), .int (m 66 ((70 + (6 * J)) + I))]) (rest := []) (r1 := some (.int ve2)) (m1 := m) rfl (Ee2.deep (by decide)) ?_
            refine mz_go 1 (c' := (if ve2 = 0 then 31 else 55, [some (.ref 65), some (.int (nI I)), some (.int (nI J)), some (.int (m 66 ((70 + (6 * J)) + I)))], [], m)) rfl ?_
            refine mz_ifT q3 ?_
            refine mz_go 6 (c' := (37, [some (.ref 65), some (.int (nI I)), some (.int (nI J)), some (.int (m 66 ((70 + (6 * J)) + I)))], [.int (m 66 ((70 + (6 * J)) + I)), .int ((nI J) - 1), .int (nI I), .ref 65], m)) rfl ?_
            refine mz_do (R := mz_r195) (as := [.ref 65, .int (nI I), .int ((nI J) - 1), .int (m 66 ((70 + (6 * J)) + I))]) (rest := []) (r1 := some (.int ve3)) (m1 := m) rfl (Ee3.deep (by decide)) ?_
            refine mz_go 1 (c' := (if ve3 = 0 then 43 else 55, [some (.ref 65), some (.int (nI I)), some (.int (nI J)), some (.int (m 66 ((70 + (6 * J)) + I)))], [], m)) rfl ?_
            refine mz_ifF q7 ?_
            refine mz_go 2 (c' := (60, [some (.ref 65), some (.int (nI I)), some (.int (nI J)), some (.int (m 66 ((70 + (6 * J)) + I)))], [.int 1], m)) rfl ?_
            exact mz_ret rfl
      · refine ⟨1, ⟨?_, rfl⟩, (by unfold vq_ed; rw [vq_m1 q1]; rw [← Pe1, if_pos q2]; rw [← Pe2, if_neg q3])⟩
        refine mz_go 3 (c' := (3, [some (.ref 65), some (.int (nI I)), some (.int (nI J)), none], [.int (nI J), .int (nI I), .ref 65], m)) rfl ?_
        refine mz_do (R := mz_r186) (as := [.ref 65, .int (nI I), .int (nI J)]) (rest := []) (r1 := some (.int (m 66 ((70 + (6 * J)) + I)))) (m1 := m) rfl ((vr_col (m := m) (A := I) (B := J) (by omega) (by omega) (a := nI I) (b := nI J) rfl rfl).deep (by decide)) ?_
        refine mz_go 5 (c' := (11, [some (.ref 65), some (.int (nI I)), some (.int (nI J)), some (.int (m 66 ((70 + (6 * J)) + I)))], [.int ((nI I) - 1), .ref 65], m)) rfl ?_
        rw [show nI I - 1 = -1 from by rw [show I = 0 by omega]; decide]
        refine mz_go 2 (c' := (13, [some (.ref 65), some (.int (nI I)), some (.int (nI J)), some (.int (m 66 ((70 + (6 * J)) + I)))], [.int (m 66 ((70 + (6 * J)) + I)), .int (nI J), .int (-1), .ref 65], m)) rfl ?_
        refine mz_do (R := mz_r195) (as := [.ref 65, .int (-1), .int (nI J), .int (m 66 ((70 + (6 * J)) + I))]) (rest := []) (r1 := some (.int ve1)) (m1 := m) rfl (Ee1.deep (by decide)) ?_
        refine mz_go 1 (c' := (if ve1 = 0 then 19 else 55, [some (.ref 65), some (.int (nI I)), some (.int (nI J)), some (.int (m 66 ((70 + (6 * J)) + I)))], [], m)) rfl ?_
        refine mz_ifT q2 ?_
        refine mz_go 6 (c' := (25, [some (.ref 65), some (.int (nI I)), some (.int (nI J)), some (.int (m 66 ((70 + (6 * J)) + I)))], [.int (m 66 ((70 + (6 * J)) + I)), .int (nI J), .int ((nI I) + 1), .ref 65], m)) rfl ?_
        refine mz_do (R := mz_r195) (as := [.ref 65, .int ((nI I) + 1), .int (nI J), .int (m 66 ((70 + (6 * J)) + I))]) (rest := []) (r1 := some (.int ve2)) (m1 := m) rfl (Ee2.deep (by decide)) ?_
        refine mz_go 1 (c' := (if ve2 = 0 then 31 else 55, [some (.ref 65), some (.int (nI I)), some (.int (nI J)), some (.int (m 66 ((70 + (6 * J)) + I)))], [], m)) rfl ?_
        refine mz_ifF q3 ?_
        refine mz_go 2 (c' := (60, [some (.ref 65), some (.int (nI I)), some (.int (nI J)), some (.int (m 66 ((70 + (6 * J)) + I)))], [.int 1], m)) rfl ?_
        exact mz_ret rfl
    · refine ⟨1, ⟨?_, rfl⟩, (by unfold vq_ed; rw [vq_m1 q1]; rw [← Pe1, if_neg q2])⟩
      refine mz_go 3 (c' := (3, [some (.ref 65), some (.int (nI I)), some (.int (nI J)), none], [.int (nI J), .int (nI I), .ref 65], m)) rfl ?_
      refine mz_do (R := mz_r186) (as := [.ref 65, .int (nI I), .int (nI J)]) (rest := []) (r1 := some (.int (m 66 ((70 + (6 * J)) + I)))) (m1 := m) rfl ((vr_col (m := m) (A := I) (B := J) (by omega) (by omega) (a := nI I) (b := nI J) rfl rfl).deep (by decide)) ?_
      refine mz_go 5 (c' := (11, [some (.ref 65), some (.int (nI I)), some (.int (nI J)), some (.int (m 66 ((70 + (6 * J)) + I)))], [.int ((nI I) - 1), .ref 65], m)) rfl ?_
      rw [show nI I - 1 = -1 from by rw [show I = 0 by omega]; decide]
      refine mz_go 2 (c' := (13, [some (.ref 65), some (.int (nI I)), some (.int (nI J)), some (.int (m 66 ((70 + (6 * J)) + I)))], [.int (m 66 ((70 + (6 * J)) + I)), .int (nI J), .int (-1), .ref 65], m)) rfl ?_
      refine mz_do (R := mz_r195) (as := [.ref 65, .int (-1), .int (nI J), .int (m 66 ((70 + (6 * J)) + I))]) (rest := []) (r1 := some (.int ve1)) (m1 := m) rfl (Ee1.deep (by decide)) ?_
      refine mz_go 1 (c' := (if ve1 = 0 then 19 else 55, [some (.ref 65), some (.int (nI I)), some (.int (nI J)), some (.int (m 66 ((70 + (6 * J)) + I)))], [], m)) rfl ?_
      refine mz_ifF q2 ?_
      refine mz_go 2 (c' := (60, [some (.ref 65), some (.int (nI I)), some (.int (nI J)), some (.int (m 66 ((70 + (6 * J)) + I)))], [.int 1], m)) rfl ?_
      exact mz_ret rfl
  · obtain ⟨ve1, Ee1, Pe1⟩ := vr_oth (m := m) hWW hHH hWH h6660 h6661 ((nI I) - 1) (nI J) (m 66 ((70 + (6 * J)) + I))
    by_cases q9 : ve1 = 0
    · obtain ⟨ve2, Ee2, Pe2⟩ := vr_oth (m := m) hWW hHH hWH h6660 h6661 ((nI I) + 1) (nI J) (m 66 ((70 + (6 * J)) + I))
      by_cases q10 : ve2 = 0
      · by_cases q11 : J = 0
        · obtain ⟨ve3, Ee3, Pe3⟩ := vr_oth (m := m) hWW hHH hWH h6660 h6661 (nI I) (-1) (m 66 ((70 + (6 * J)) + I))
          by_cases q12 : ve3 = 0
          · obtain ⟨ve4, Ee4, Pe4⟩ := vr_oth (m := m) hWW hHH hWH h6660 h6661 (nI I) ((nI J) + 1) (m 66 ((70 + (6 * J)) + I))
            by_cases q13 : ve4 = 0
            · refine ⟨0, ⟨?_, rfl⟩, (by unfold vq_ed; rw [← Pe1, if_pos q9]; rw [← Pe2, if_pos q10]; rw [vq_m1 q11]; rw [← Pe3, if_pos q12]; rw [← Pe4, if_pos q13])⟩
              refine mz_go 3 (c' := (3, [some (.ref 65), some (.int (nI I)), some (.int (nI J)), none], [.int (nI J), .int (nI I), .ref 65], m)) rfl ?_
              refine mz_do (R := mz_r186) (as := [.ref 65, .int (nI I), .int (nI J)]) (rest := []) (r1 := some (.int (m 66 ((70 + (6 * J)) + I)))) (m1 := m) rfl ((vr_col (m := m) (A := I) (B := J) (by omega) (by omega) (a := nI I) (b := nI J) rfl rfl).deep (by decide)) ?_
              refine mz_go 7 (c' := (13, [some (.ref 65), some (.int (nI I)), some (.int (nI J)), some (.int (m 66 ((70 + (6 * J)) + I)))], [.int (m 66 ((70 + (6 * J)) + I)), .int (nI J), .int ((nI I) - 1), .ref 65], m)) rfl ?_
              refine mz_do (R := mz_r195) (as := [.ref 65, .int ((nI I) - 1), .int (nI J), .int (m 66 ((70 + (6 * J)) + I))]) (rest := []) (r1 := some (.int ve1)) (m1 := m) rfl (Ee1.deep (by decide)) ?_
              refine mz_go 1 (c' := (if ve1 = 0 then 19 else 55, [some (.ref 65), some (.int (nI I)), some (.int (nI J)), some (.int (m 66 ((70 + (6 * J)) + I)))], [], m)) rfl ?_
              refine mz_ifT q9 ?_
              refine mz_go 6 (c' := (25, [some (.ref 65), some (.int (nI I)), some (.int (nI J)), some (.int (m 66 ((70 + (6 * J)) + I)))], [.int (m 66 ((70 + (6 * J)) + I)), .int (nI J), .int ((nI I) + 1), .ref 65], m)) rfl ?_
              refine mz_do (R := mz_r195) (as := [.ref 65, .int ((nI I) + 1), .int (nI J), .int (m 66 ((70 + (6 * J)) + I))]) (rest := []) (r1 := some (.int ve2)) (m1 := m) rfl (Ee2.deep (by decide)) ?_
              refine mz_go 1 (c' := (if ve2 = 0 then 31 else 55, [some (.ref 65), some (.int (nI I)), some (.int (nI J)), some (.int (m 66 ((70 + (6 * J)) + I)))], [], m)) rfl ?_
              refine mz_ifT q10 ?_
              refine mz_go 5 (c' := (36, [some (.ref 65), some (.int (nI I)), some (.int (nI J)), some (.int (m 66 ((70 + (6 * J)) + I)))], [.int ((nI J) - 1), .int (nI I), .ref 65], m)) rfl ?_
              rw [show nI J - 1 = -1 from by rw [show J = 0 by omega]; decide]
              refine mz_go 1 (c' := (37, [some (.ref 65), some (.int (nI I)), some (.int (nI J)), some (.int (m 66 ((70 + (6 * J)) + I)))], [.int (m 66 ((70 + (6 * J)) + I)), .int (-1), .int (nI I), .ref 65], m)) rfl ?_
              refine mz_do (R := mz_r195) (as := [.ref 65, .int (nI I), .int (-1), .int (m 66 ((70 + (6 * J)) + I))]) (rest := []) (r1 := some (.int ve3)) (m1 := m) rfl (Ee3.deep (by decide)) ?_
              refine mz_go 1 (c' := (if ve3 = 0 then 43 else 55, [some (.ref 65), some (.int (nI I)), some (.int (nI J)), some (.int (m 66 ((70 + (6 * J)) + I)))], [], m)) rfl ?_
              refine mz_ifT q12 ?_
              refine mz_go 6 (c' := (49, [some (.ref 65), some (.int (nI I)), some (.int (nI J)), some (.int (m 66 ((70 + (6 * J)) + I)))], [.int (m 66 ((70 + (6 * J)) + I)), .int ((nI J) + 1), .int (nI I), .ref 65], m)) rfl ?_
              refine mz_do (R := mz_r195) (as := [.ref 65, .int (nI I), .int ((nI J) + 1), .int (m 66 ((70 + (6 * J)) + I))]) (rest := []) (r1 := some (.int ve4)) (m1 := m) rfl (Ee4.deep (by decide)) ?_
              refine mz_go 1 (c' := (if ve4 = 0 then 59 else 55, [some (.ref 65), some (.int (nI I)), some (.int (nI J)), some (.int (m 66 ((70 + (6 * J)) + I)))], [], m)) rfl ?_
              refine mz_ifT q13 ?_
              refine mz_go 1 (c' := (60, [some (.ref 65), some (.int (nI I)), some (.int (nI J)), some (.int (m 66 ((70 + (6 * J)) + I)))], [.int 0], m)) rfl ?_
              exact mz_ret rfl
            · refine ⟨1, ⟨?_, rfl⟩, (by unfold vq_ed; rw [← Pe1, if_pos q9]; rw [← Pe2, if_pos q10]; rw [vq_m1 q11]; rw [← Pe3, if_pos q12]; rw [← Pe4, if_neg q13])⟩
              refine mz_go 3 (c' := (3, [some (.ref 65), some (.int (nI I)), some (.int (nI J)), none], [.int (nI J), .int (nI I), .ref 65], m)) rfl ?_
              refine mz_do (R := mz_r186) (as := [.ref 65, .int (nI I), .int (nI J)]) (rest := []) (r1 := some (.int (m 66 ((70 + (6 * J)) + I)))) (m1 := m) rfl ((vr_col (m := m) (A := I) (B := J) (by omega) (by omega) (a := nI I) (b := nI J) rfl rfl).deep (by decide)) ?_
              refine mz_go 7 (c' := (13, [some (.ref 65), some (.int (nI I)), some (.int (nI J)), some (.int (m 66 ((70 + (6 * J)) + I)))], [.int (m 66 ((70 + (6 * J)) + I)), .int (nI J), .int ((nI I) - 1), .ref 65], m)) rfl ?_
              refine mz_do (R := mz_r195) (as := [.ref 65, .int ((nI I) - 1), .int (nI J), .int (m 66 ((70 + (6 * J)) + I))]) (rest := []) (r1 := some (.int ve1)) (m1 := m) rfl (Ee1.deep (by decide)) ?_
              refine mz_go 1 (c' := (if ve1 = 0 then 19 else 55, [some (.ref 65), some (.int (nI I)), some (.int (nI J)), some (.int (m 66 ((70 + (6 * J)) + I)))], [], m)) rfl ?_
              refine mz_ifT q9 ?_
              refine mz_go 6 (c' := (25, [some (.ref 65), some (.int (nI I)), some (.int (nI J)), some (.int (m 66 ((70 + (6 * J)) + I)))], [.int (m 66 ((70 + (6 * J)) + I)), .int (nI J), .int ((nI I) + 1), .ref 65], m)) rfl ?_
              refine mz_do (R := mz_r195) (as := [.ref 65, .int ((nI I) + 1), .int (nI J), .int (m 66 ((70 + (6 * J)) + I))]) (rest := []) (r1 := some (.int ve2)) (m1 := m) rfl (Ee2.deep (by decide)) ?_
              refine mz_go 1 (c' := (if ve2 = 0 then 31 else 55, [some (.ref 65), some (.int (nI I)), some (.int (nI J)), some (.int (m 66 ((70 + (6 * J)) + I)))], [], m)) rfl ?_
              refine mz_ifT q10 ?_
              refine mz_go 5 (c' := (36, [some (.ref 65), some (.int (nI I)), some (.int (nI J)), some (.int (m 66 ((70 + (6 * J)) + I)))], [.int ((nI J) - 1), .int (nI I), .ref 65], m)) rfl ?_
              rw [show nI J - 1 = -1 from by rw [show J = 0 by omega]; decide]
              refine mz_go 1 (c' := (37, [some (.ref 65), some (.int (nI I)), some (.int (nI J)), some (.int (m 66 ((70 + (6 * J)) + I)))], [.int (m 66 ((70 + (6 * J)) + I)), .int (-1), .int (nI I), .ref 65], m)) rfl ?_
              refine mz_do (R := mz_r195) (as := [.ref 65, .int (nI I), .int (-1), .int (m 66 ((70 + (6 * J)) + I))]) (rest := []) (r1 := some (.int ve3)) (m1 := m) rfl (Ee3.deep (by decide)) ?_
              refine mz_go 1 (c' := (if ve3 = 0 then 43 else 55, [some (.ref 65), some (.int (nI I)), some (.int (nI J)), some (.int (m 66 ((70 + (6 * J)) + I)))], [], m)) rfl ?_
              refine mz_ifT q12 ?_
              refine mz_go 6 (c' := (49, [some (.ref 65), some (.int (nI I)), some (.int (nI J)), some (.int (m 66 ((70 + (6 * J)) + I)))], [.int (m 66 ((70 + (6 * J)) + I)), .int ((nI J) + 1), .int (nI I), .ref 65], m)) rfl ?_
              refine mz_do (R := mz_r195) (as := [.ref 65, .int (nI I), .int ((nI J) + 1), .int (m 66 ((70 + (6 * J)) + I))]) (rest := []) (r1 := some (.int ve4)) (m1 := m) rfl (Ee4.deep (by decide)) ?_
              refine mz_go 1 (c' := (if ve4 = 0 then 59 else 55, [some (.ref 65), some (.int (nI I)), some (.int (nI J)), some (.int (m 66 ((70 + (6 * J)) + I)))], [], m)) rfl ?_
              refine mz_ifF q13 ?_
              refine mz_go 2 (c' := (60, [some (.ref 65), some (.int (nI I)), some (.int (nI J)), some (.int (m 66 ((70 + (6 * J)) + I)))], [.int 1], m)) rfl ?_
              exact mz_ret rfl
          · refine ⟨1, ⟨?_, rfl⟩, (by unfold vq_ed; rw [← Pe1, if_pos q9]; rw [← Pe2, if_pos q10]; rw [vq_m1 q11]; rw [← Pe3, if_neg q12])⟩
            refine mz_go 3 (c' := (3, [some (.ref 65), some (.int (nI I)), some (.int (nI J)), none], [.int (nI J), .int (nI I), .ref 65], m)) rfl ?_
            refine mz_do (R := mz_r186) (as := [.ref 65, .int (nI I), .int (nI J)]) (rest := []) (r1 := some (.int (m 66 ((70 + (6 * J)) + I)))) (m1 := m) rfl ((vr_col (m := m) (A := I) (B := J) (by omega) (by omega) (a := nI I) (b := nI J) rfl rfl).deep (by decide)) ?_
            refine mz_go 7 (c' := (13, [some (.ref 65), some (.int (nI I)), some (.int (nI J)), some (.int (m 66 ((70 + (6 * J)) + I)))], [.int (m 66 ((70 + (6 * J)) + I)), .int (nI J), .int ((nI I) - 1), .ref 65], m)) rfl ?_
            refine mz_do (R := mz_r195) (as := [.ref 65, .int ((nI I) - 1), .int (nI J), .int (m 66 ((70 + (6 * J)) + I))]) (rest := []) (r1 := some (.int ve1)) (m1 := m) rfl (Ee1.deep (by decide)) ?_
            refine mz_go 1 (c' := (if ve1 = 0 then 19 else 55, [some (.ref 65), some (.int (nI I)), some (.int (nI J)), some (.int (m 66 ((70 + (6 * J)) + I)))], [], m)) rfl ?_
            refine mz_ifT q9 ?_
            refine mz_go 6 (c' := (25, [some (.ref 65), some (.int (nI I)), some (.int (nI J)), some (.int (m 66 ((70 + (6 * J)) + I)))], [.int (m 66 ((70 + (6 * J)) + I)), .int (nI J), .int ((nI I) + 1), .ref 65], m)) rfl ?_
            refine mz_do (R := mz_r195) (as := [.ref 65, .int ((nI I) + 1), .int (nI J), .int (m 66 ((70 + (6 * J)) + I))]) (rest := []) (r1 := some (.int ve2)) (m1 := m) rfl (Ee2.deep (by decide)) ?_
            refine mz_go 1 (c' := (if ve2 = 0 then 31 else 55, [some (.ref 65), some (.int (nI I)), some (.int (nI J)), some (.int (m 66 ((70 + (6 * J)) + I)))], [], m)) rfl ?_
            refine mz_ifT q10 ?_
            refine mz_go 5 (c' := (36, [some (.ref 65), some (.int (nI I)), some (.int (nI J)), some (.int (m 66 ((70 + (6 * J)) + I)))], [.int ((nI J) - 1), .int (nI I), .ref 65], m)) rfl ?_
            rw [show nI J - 1 = -1 from by rw [show J = 0 by omega]; decide]
            refine mz_go 1 (c' := (37, [some (.ref 65), some (.int (nI I)), some (.int (nI J)), some (.int (m 66 ((70 + (6 * J)) + I)))], [.int (m 66 ((70 + (6 * J)) + I)), .int (-1), .int (nI I), .ref 65], m)) rfl ?_
            refine mz_do (R := mz_r195) (as := [.ref 65, .int (nI I), .int (-1), .int (m 66 ((70 + (6 * J)) + I))]) (rest := []) (r1 := some (.int ve3)) (m1 := m) rfl (Ee3.deep (by decide)) ?_
            refine mz_go 1 (c' := (if ve3 = 0 then 43 else 55, [some (.ref 65), some (.int (nI I)), some (.int (nI J)), some (.int (m 66 ((70 + (6 * J)) + I)))], [], m)) rfl ?_
            refine mz_ifF q12 ?_
            refine mz_go 2 (c' := (60, [some (.ref 65), some (.int (nI I)), some (.int (nI J)), some (.int (m 66 ((70 + (6 * J)) + I)))], [.int 1], m)) rfl ?_
            exact mz_ret rfl
        · obtain ⟨ve3, Ee3, Pe3⟩ := vr_oth (m := m) hWW hHH hWH h6660 h6661 (nI I) ((nI J) - 1) (m 66 ((70 + (6 * J)) + I))
          by_cases q14 : ve3 = 0
          · obtain ⟨ve4, Ee4, Pe4⟩ := vr_oth (m := m) hWW hHH hWH h6660 h6661 (nI I) ((nI J) + 1) (m 66 ((70 + (6 * J)) + I))
            by_cases q15 : ve4 = 0
            · refine ⟨0, ⟨?_, rfl⟩, (by unfold vq_ed; rw [← Pe1, if_pos q9]; rw [← Pe2, if_pos q10]; rw [← Pe3, if_pos q14]; rw [← Pe4, if_pos q15])⟩
              refine mz_go 3 (c' := (3, [some (.ref 65), some (.int (nI I)), some (.int (nI J)), none], [.int (nI J), .int (nI I), .ref 65], m)) rfl ?_
              refine mz_do (R := mz_r186) (as := [.ref 65, .int (nI I), .int (nI J)]) (rest := []) (r1 := some (.int (m 66 ((70 + (6 * J)) + I)))) (m1 := m) rfl ((vr_col (m := m) (A := I) (B := J) (by omega) (by omega) (a := nI I) (b := nI J) rfl rfl).deep (by decide)) ?_
              refine mz_go 7 (c' := (13, [some (.ref 65), some (.int (nI I)), some (.int (nI J)), some (.int (m 66 ((70 + (6 * J)) + I)))], [.int (m 66 ((70 + (6 * J)) + I)), .int (nI J), .int ((nI I) - 1), .ref 65], m)) rfl ?_
              refine mz_do (R := mz_r195) (as := [.ref 65, .int ((nI I) - 1), .int (nI J), .int (m 66 ((70 + (6 * J)) + I))]) (rest := []) (r1 := some (.int ve1)) (m1 := m) rfl (Ee1.deep (by decide)) ?_
              refine mz_go 1 (c' := (if ve1 = 0 then 19 else 55, [some (.ref 65), some (.int (nI I)), some (.int (nI J)), some (.int (m 66 ((70 + (6 * J)) + I)))], [], m)) rfl ?_
              refine mz_ifT q9 ?_
              refine mz_go 6 (c' := (25, [some (.ref 65), some (.int (nI I)), some (.int (nI J)), some (.int (m 66 ((70 + (6 * J)) + I)))], [.int (m 66 ((70 + (6 * J)) + I)), .int (nI J), .int ((nI I) + 1), .ref 65], m)) rfl ?_
              refine mz_do (R := mz_r195) (as := [.ref 65, .int ((nI I) + 1), .int (nI J), .int (m 66 ((70 + (6 * J)) + I))]) (rest := []) (r1 := some (.int ve2)) (m1 := m) rfl (Ee2.deep (by decide)) ?_
              refine mz_go 1 (c' := (if ve2 = 0 then 31 else 55, [some (.ref 65), some (.int (nI I)), some (.int (nI J)), some (.int (m 66 ((70 + (6 * J)) + I)))], [], m)) rfl ?_
              refine mz_ifT q10 ?_
              refine mz_go 6 (c' := (37, [some (.ref 65), some (.int (nI I)), some (.int (nI J)), some (.int (m 66 ((70 + (6 * J)) + I)))], [.int (m 66 ((70 + (6 * J)) + I)), .int ((nI J) - 1), .int (nI I), .ref 65], m)) rfl ?_
              refine mz_do (R := mz_r195) (as := [.ref 65, .int (nI I), .int ((nI J) - 1), .int (m 66 ((70 + (6 * J)) + I))]) (rest := []) (r1 := some (.int ve3)) (m1 := m) rfl (Ee3.deep (by decide)) ?_
              refine mz_go 1 (c' := (if ve3 = 0 then 43 else 55, [some (.ref 65), some (.int (nI I)), some (.int (nI J)), some (.int (m 66 ((70 + (6 * J)) + I)))], [], m)) rfl ?_
              refine mz_ifT q14 ?_
              refine mz_go 6 (c' := (49, [some (.ref 65), some (.int (nI I)), some (.int (nI J)), some (.int (m 66 ((70 + (6 * J)) + I)))], [.int (m 66 ((70 + (6 * J)) + I)), .int ((nI J) + 1), .int (nI I), .ref 65], m)) rfl ?_
              refine mz_do (R := mz_r195) (as := [.ref 65, .int (nI I), .int ((nI J) + 1), .int (m 66 ((70 + (6 * J)) + I))]) (rest := []) (r1 := some (.int ve4)) (m1 := m) rfl (Ee4.deep (by decide)) ?_
              refine mz_go 1 (c' := (if ve4 = 0 then 59 else 55, [some (.ref 65), some (.int (nI I)), some (.int (nI J)), some (.int (m 66 ((70 + (6 * J)) + I)))], [], m)) rfl ?_
              refine mz_ifT q15 ?_
              refine mz_go 1 (c' := (60, [some (.ref 65), some (.int (nI I)), some (.int (nI J)), some (.int (m 66 ((70 + (6 * J)) + I)))], [.int 0], m)) rfl ?_
              exact mz_ret rfl
            · refine ⟨1, ⟨?_, rfl⟩, (by unfold vq_ed; rw [← Pe1, if_pos q9]; rw [← Pe2, if_pos q10]; rw [← Pe3, if_pos q14]; rw [← Pe4, if_neg q15])⟩
              refine mz_go 3 (c' := (3, [some (.ref 65), some (.int (nI I)), some (.int (nI J)), none], [.int (nI J), .int (nI I), .ref 65], m)) rfl ?_
              refine mz_do (R := mz_r186) (as := [.ref 65, .int (nI I), .int (nI J)]) (rest := []) (r1 := some (.int (m 66 ((70 + (6 * J)) + I)))) (m1 := m) rfl ((vr_col (m := m) (A := I) (B := J) (by omega) (by omega) (a := nI I) (b := nI J) rfl rfl).deep (by decide)) ?_
              refine mz_go 7 (c' := (13, [some (.ref 65), some (.int (nI I)), some (.int (nI J)), some (.int (m 66 ((70 + (6 * J)) + I)))], [.int (m 66 ((70 + (6 * J)) + I)), .int (nI J), .int ((nI I) - 1), .ref 65], m)) rfl ?_
              refine mz_do (R := mz_r195) (as := [.ref 65, .int ((nI I) - 1), .int (nI J), .int (m 66 ((70 + (6 * J)) + I))]) (rest := []) (r1 := some (.int ve1)) (m1 := m) rfl (Ee1.deep (by decide)) ?_
              refine mz_go 1 (c' := (if ve1 = 0 then 19 else 55, [some (.ref 65), some (.int (nI I)), some (.int (nI J)), some (.int (m 66 ((70 + (6 * J)) + I)))], [], m)) rfl ?_
              refine mz_ifT q9 ?_
              refine mz_go 6 (c' := (25, [some (.ref 65), some (.int (nI I)), some (.int (nI J)), some (.int (m 66 ((70 + (6 * J)) + I)))], [.int (m 66 ((70 + (6 * J)) + I)), .int (nI J), .int ((nI I) + 1), .ref 65], m)) rfl ?_
              refine mz_do (R := mz_r195) (as := [.ref 65, .int ((nI I) + 1), .int (nI J), .int (m 66 ((70 + (6 * J)) + I))]) (rest := []) (r1 := some (.int ve2)) (m1 := m) rfl (Ee2.deep (by decide)) ?_
              refine mz_go 1 (c' := (if ve2 = 0 then 31 else 55, [some (.ref 65), some (.int (nI I)), some (.int (nI J)), some (.int (m 66 ((70 + (6 * J)) + I)))], [], m)) rfl ?_
              refine mz_ifT q10 ?_
              refine mz_go 6 (c' := (37, [some (.ref 65), some (.int (nI I)), some (.int (nI J)), some (.int (m 66 ((70 + (6 * J)) + I)))], [.int (m 66 ((70 + (6 * J)) + I)), .int ((nI J) - 1), .int (nI I), .ref 65], m)) rfl ?_
              refine mz_do (R := mz_r195) (as := [.ref 65, .int (nI I), .int ((nI J) - 1), .int (m 66 ((70 + (6 * J)) + I))]) (rest := []) (r1 := some (.int ve3)) (m1 := m) rfl (Ee3.deep (by decide)) ?_
              refine mz_go 1 (c' := (if ve3 = 0 then 43 else 55, [some (.ref 65), some (.int (nI I)), some (.int (nI J)), some (.int (m 66 ((70 + (6 * J)) + I)))], [], m)) rfl ?_
              refine mz_ifT q14 ?_
              refine mz_go 6 (c' := (49, [some (.ref 65), some (.int (nI I)), some (.int (nI J)), some (.int (m 66 ((70 + (6 * J)) + I)))], [.int (m 66 ((70 + (6 * J)) + I)), .int ((nI J) + 1), .int (nI I), .ref 65], m)) rfl ?_
              refine mz_do (R := mz_r195) (as := [.ref 65, .int (nI I), .int ((nI J) + 1), .int (m 66 ((70 + (6 * J)) + I))]) (rest := []) (r1 := some (.int ve4)) (m1 := m) rfl (Ee4.deep (by decide)) ?_
              refine mz_go 1 (c' := (if ve4 = 0 then 59 else 55, [some (.ref 65), some (.int (nI I)), some (.int (nI J)), some (.int (m 66 ((70 + (6 * J)) + I)))], [], m)) rfl ?_
              refine mz_ifF q15 ?_
              refine mz_go 2 (c' := (60, [some (.ref 65), some (.int (nI I)), some (.int (nI J)), some (.int (m 66 ((70 + (6 * J)) + I)))], [.int 1], m)) rfl ?_
              exact mz_ret rfl
          · refine ⟨1, ⟨?_, rfl⟩, (by unfold vq_ed; rw [← Pe1, if_pos q9]; rw [← Pe2, if_pos q10]; rw [← Pe3, if_neg q14])⟩
            refine mz_go 3 (c' := (3, [some (.ref 65), some (.int (nI I)), some (.int (nI J)), none], [.int (nI J), .int (nI I), .ref 65], m)) rfl ?_
            refine mz_do (R := mz_r186) (as := [.ref 65, .int (nI I), .int (nI J)]) (rest := []) (r1 := some (.int (m 66 ((70 + (6 * J)) + I)))) (m1 := m) rfl ((vr_col (m := m) (A := I) (B := J) (by omega) (by omega) (a := nI I) (b := nI J) rfl rfl).deep (by decide)) ?_
            refine mz_go 7 (c' := (13, [some (.ref 65), some (.int (nI I)), some (.int (nI J)), some (.int (m 66 ((70 + (6 * J)) + I)))], [.int (m 66 ((70 + (6 * J)) + I)), .int (nI J), .int ((nI I) - 1), .ref 65], m)) rfl ?_
            refine mz_do (R := mz_r195) (as := [.ref 65, .int ((nI I) - 1), .int (nI J), .int (m 66 ((70 + (6 * J)) + I))]) (rest := []) (r1 := some (.int ve1)) (m1 := m) rfl (Ee1.deep (by decide)) ?_
            refine mz_go 1 (c' := (if ve1 = 0 then 19 else 55, [some (.ref 65), some (.int (nI I)), some (.int (nI J)), some (.int (m 66 ((70 + (6 * J)) + I)))], [], m)) rfl ?_
            refine mz_ifT q9 ?_
            refine mz_go 6 (c' := (25, [some (.ref 65), some (.int (nI I)), some (.int (nI J)), some (.int (m 66 ((70 + (6 * J)) + I)))], [.int (m 66 ((70 + (6 * J)) + I)), .int (nI J), .int ((nI I) + 1), .ref 65], m)) rfl ?_
            refine mz_do (R := mz_r195) (as := [.ref 65, .int ((nI I) + 1), .int (nI J), .int (m 66 ((70 + (6 * J)) + I))]) (rest := []) (r1 := some (.int ve2)) (m1 := m) rfl (Ee2.deep (by decide)) ?_
            refine mz_go 1 (c' := (if ve2 = 0 then 31 else 55, [some (.ref 65), some (.int (nI I)), some (.int (nI J)), some (.int (m 66 ((70 + (6 * J)) + I)))], [], m)) rfl ?_
            refine mz_ifT q10 ?_
            refine mz_go 6 (c' := (37, [some (.ref 65), some (.int (nI I)), some (.int (nI J)), some (.int (m 66 ((70 + (6 * J)) + I)))], [.int (m 66 ((70 + (6 * J)) + I)), .int ((nI J) - 1), .int (nI I), .ref 65], m)) rfl ?_
            refine mz_do (R := mz_r195) (as := [.ref 65, .int (nI I), .int ((nI J) - 1), .int (m 66 ((70 + (6 * J)) + I))]) (rest := []) (r1 := some (.int ve3)) (m1 := m) rfl (Ee3.deep (by decide)) ?_
            refine mz_go 1 (c' := (if ve3 = 0 then 43 else 55, [some (.ref 65), some (.int (nI I)), some (.int (nI J)), some (.int (m 66 ((70 + (6 * J)) + I)))], [], m)) rfl ?_
            refine mz_ifF q14 ?_
            refine mz_go 2 (c' := (60, [some (.ref 65), some (.int (nI I)), some (.int (nI J)), some (.int (m 66 ((70 + (6 * J)) + I)))], [.int 1], m)) rfl ?_
            exact mz_ret rfl
      · refine ⟨1, ⟨?_, rfl⟩, (by unfold vq_ed; rw [← Pe1, if_pos q9]; rw [← Pe2, if_neg q10])⟩
        refine mz_go 3 (c' := (3, [some (.ref 65), some (.int (nI I)), some (.int (nI J)), none], [.int (nI J), .int (nI I), .ref 65], m)) rfl ?_
        refine mz_do (R := mz_r186) (as := [.ref 65, .int (nI I), .int (nI J)]) (rest := []) (r1 := some (.int (m 66 ((70 + (6 * J)) + I)))) (m1 := m) rfl ((vr_col (m := m) (A := I) (B := J) (by omega) (by omega) (a := nI I) (b := nI J) rfl rfl).deep (by decide)) ?_
        refine mz_go 7 (c' := (13, [some (.ref 65), some (.int (nI I)), some (.int (nI J)), some (.int (m 66 ((70 + (6 * J)) + I)))], [.int (m 66 ((70 + (6 * J)) + I)), .int (nI J), .int ((nI I) - 1), .ref 65], m)) rfl ?_
        refine mz_do (R := mz_r195) (as := [.ref 65, .int ((nI I) - 1), .int (nI J), .int (m 66 ((70 + (6 * J)) + I))]) (rest := []) (r1 := some (.int ve1)) (m1 := m) rfl (Ee1.deep (by decide)) ?_
        refine mz_go 1 (c' := (if ve1 = 0 then 19 else 55, [some (.ref 65), some (.int (nI I)), some (.int (nI J)), some (.int (m 66 ((70 + (6 * J)) + I)))], [], m)) rfl ?_
        refine mz_ifT q9 ?_
        refine mz_go 6 (c' := (25, [some (.ref 65), some (.int (nI I)), some (.int (nI J)), some (.int (m 66 ((70 + (6 * J)) + I)))], [.int (m 66 ((70 + (6 * J)) + I)), .int (nI J), .int ((nI I) + 1), .ref 65], m)) rfl ?_
        refine mz_do (R := mz_r195) (as := [.ref 65, .int ((nI I) + 1), .int (nI J), .int (m 66 ((70 + (6 * J)) + I))]) (rest := []) (r1 := some (.int ve2)) (m1 := m) rfl (Ee2.deep (by decide)) ?_
        refine mz_go 1 (c' := (if ve2 = 0 then 31 else 55, [some (.ref 65), some (.int (nI I)), some (.int (nI J)), some (.int (m 66 ((70 + (6 * J)) + I)))], [], m)) rfl ?_
        refine mz_ifF q10 ?_
        refine mz_go 2 (c' := (60, [some (.ref 65), some (.int (nI I)), some (.int (nI J)), some (.int (m 66 ((70 + (6 * J)) + I)))], [.int 1], m)) rfl ?_
        exact mz_ret rfl
    · refine ⟨1, ⟨?_, rfl⟩, (by unfold vq_ed; rw [← Pe1, if_neg q9])⟩
      refine mz_go 3 (c' := (3, [some (.ref 65), some (.int (nI I)), some (.int (nI J)), none], [.int (nI J), .int (nI I), .ref 65], m)) rfl ?_
      refine mz_do (R := mz_r186) (as := [.ref 65, .int (nI I), .int (nI J)]) (rest := []) (r1 := some (.int (m 66 ((70 + (6 * J)) + I)))) (m1 := m) rfl ((vr_col (m := m) (A := I) (B := J) (by omega) (by omega) (a := nI I) (b := nI J) rfl rfl).deep (by decide)) ?_
      refine mz_go 7 (c' := (13, [some (.ref 65), some (.int (nI I)), some (.int (nI J)), some (.int (m 66 ((70 + (6 * J)) + I)))], [.int (m 66 ((70 + (6 * J)) + I)), .int (nI J), .int ((nI I) - 1), .ref 65], m)) rfl ?_
      refine mz_do (R := mz_r195) (as := [.ref 65, .int ((nI I) - 1), .int (nI J), .int (m 66 ((70 + (6 * J)) + I))]) (rest := []) (r1 := some (.int ve1)) (m1 := m) rfl (Ee1.deep (by decide)) ?_
      refine mz_go 1 (c' := (if ve1 = 0 then 19 else 55, [some (.ref 65), some (.int (nI I)), some (.int (nI J)), some (.int (m 66 ((70 + (6 * J)) + I)))], [], m)) rfl ?_
      refine mz_ifF q9 ?_
      refine mz_go 2 (c' := (60, [some (.ref 65), some (.int (nI I)), some (.int (nI J)), some (.int (m 66 ((70 + (6 * J)) + I)))], [.int 1], m)) rfl ?_
      exact mz_ret rfl
set_option maxHeartbeats 4000000 in
set_option maxRecDepth 100000 in
theorem ve_cedg {m : mz_M} {WW HH : Nat} (hWW : WW ≤ 6) (hHH : HH ≤ 6) (h202 : m 20 2 = nI WW) (h203 : m 20 3 = nI HH) {I J : Nat} (hI : I < WW) (hJ : J < HH) : mz_Me 10 mz_r12 [.ref 20, .int (nI I), .int (nI J)] m (some (.int (vq_ed (m 21) WW HH I J (m 21 ((J * 6) + I))))) m := by
  obtain ⟨v, E, e⟩ := vc_edg hWW hHH h202 h203 hI hJ
  rw [e] at E
  exact E
set_option maxHeartbeats 4000000 in
set_option maxRecDepth 100000 in
theorem ve_redg {w : mz_M} {m : mz_M} {WW HH : Nat} (hWW : WW ≤ 6) (hHH : HH ≤ 6) (hWH : WW = 0 ↔ HH = 0) (h6660 : m 66 60 = nI WW) (h6661 : m 66 61 = nI HH) {I J : Nat} (hI : I < WW) (hJ : J < HH) (h : ∀ i, i < 36 → m 66 (70 + i) = w 21 i) : mz_Me 10 mz_r196 [.ref 65, .int (nI I), .int (nI J)] m (some (.int (vq_ed (w 21) WW HH I J (w 21 ((J * 6) + I))))) m := by
  obtain ⟨v, E, e⟩ := vr_edg hWW hHH hWH h6660 h6661 hI hJ
  have e2 : m 66 ((70 + (6 * J)) + I) = w 21 ((J * 6) + I) := (congrArg (m 66) (show (70 + (6 * J)) + I = 70 + ((J * 6) + I) by omega)).trans (h _ (by omega))
  rw [e, e2, vq_ed_eq (f := (fun i => m 66 (70 + i))) (g := w 21) hWW hHH h] at E
  exact E
theorem vr_colw {w m : mz_M} (hbc : ∀ i, i < 36 → m 66 (70 + i) = w 21 i) {A B : Nat} (hA : A < 6) (hB : B < 6) {a b : Int32} (ea : a = nI A) (eb : b = nI B) : mz_Me 3 mz_r186 [.ref 65, .int a, .int b] m (some (.int (w 21 ((B * 6) + A)))) m := by
  rw [← hbc ((B * 6) + A) (by omega), show 70 + ((B * 6) + A) = (70 + (6 * B)) + A by omega]
  exact vr_col hA hB ea eb
set_option maxHeartbeats 4000000 in
set_option maxRecDepth 100000 in
theorem vc_colv {w : mz_M} {WW HH : Nat} (hWW : WW ≤ 6) (hHH : HH ≤ 6) (h202 : w 20 2 = nI WW) (h203 : w 20 3 = nI HH) {I J : Nat} (hI : I < WW) (hJ : J < HH) {i j : Int32} (ei : i = nI I) (ej : j = nI J) : mz_Me 5 mz_r7 [.ref 20, .int i, .int j] w (some (.int (w 21 ((J * 6) + I)))) w := by
  subst ei
  subst ej
  refine ⟨?_, rfl⟩
  refine mz_go 3 (c' := (3, [some (.ref 20), some (.int (nI I)), some (.int (nI J))], [.int (nI J), .int (nI I), .ref 20], w)) rfl ?_
  refine mz_do (R := mz_r4) (as := [.ref 20, .int (nI I), .int (nI J)]) (rest := []) (r1 := some (.int 1)) (m1 := w) rfl ⟨?_, rfl⟩ ?_
  · refine mz_go 2 (c' := (if (nI I) < 0 then 40 else 4, [some (.ref 20), some (.int (nI I)), some (.int (nI J))], [], w)) rfl ?_
    refine mz_ifF (show ¬ ((nI I) < 0) from (sm_nltN rfl rfl (show 0 ≤ I by omega) (show I < 2 ^ 31 by omega))) ?_
    refine mz_go 3 (c' := (9, [some (.ref 20), some (.int (nI I)), some (.int (nI J))], [.int (w 20 2), .int (nI I)], w)) rfl ?_
    rw [h202]
    refine mz_go 1 (c' := (if (nI WW) ≤ (nI I) then 40 else 12, [some (.ref 20), some (.int (nI I)), some (.int (nI J))], [], w)) rfl ?_
    refine mz_ifF (show ¬ ((nI WW) ≤ (nI I)) from (sm_nleN rfl rfl (show I < WW by omega) (show WW < 2 ^ 31 by omega))) ?_
    refine mz_go 3 (c' := (if 6 ≤ (nI I) then 40 else 18, [some (.ref 20), some (.int (nI I)), some (.int (nI J))], [], w)) rfl ?_
    refine mz_ifF (show ¬ (6 ≤ (nI I)) from (sm_nleN rfl rfl (show I < 6 by omega) (show 6 < 2 ^ 31 by omega))) ?_
    refine mz_go 2 (c' := (if (nI J) < 0 then 40 else 22, [some (.ref 20), some (.int (nI I)), some (.int (nI J))], [], w)) rfl ?_
    refine mz_ifF (show ¬ ((nI J) < 0) from (sm_nltN rfl rfl (show 0 ≤ J by omega) (show J < 2 ^ 31 by omega))) ?_
    refine mz_go 3 (c' := (27, [some (.ref 20), some (.int (nI I)), some (.int (nI J))], [.int (w 20 3), .int (nI J)], w)) rfl ?_
    rw [h203]
    refine mz_go 1 (c' := (if (nI HH) ≤ (nI J) then 40 else 30, [some (.ref 20), some (.int (nI I)), some (.int (nI J))], [], w)) rfl ?_
    refine mz_ifF (show ¬ ((nI HH) ≤ (nI J)) from (sm_nleN rfl rfl (show J < HH by omega) (show HH < 2 ^ 31 by omega))) ?_
    refine mz_go 3 (c' := (if 6 ≤ (nI J) then 40 else 36, [some (.ref 20), some (.int (nI I)), some (.int (nI J))], [], w)) rfl ?_
    refine mz_ifF (show ¬ (6 ≤ (nI J)) from (sm_nleN rfl rfl (show J < 6 by omega) (show 6 < 2 ^ 31 by omega))) ?_
    refine mz_go 2 (c' := (41, [some (.ref 20), some (.int (nI I)), some (.int (nI J))], [.int 1], w)) rfl ?_
    exact mz_ret rfl
  refine mz_go 8 (c' := (19, [some (.ref 20), some (.int (nI I)), some (.int (nI J))], [.int (((nI J) * 6) + (nI I)), .ref 21], w)) rfl ?_
  refine mz_arr (c' := (20, [some (.ref 20), some (.int (nI I)), some (.int (nI J))], [.int (w 21 ((((nI J) * 6) + (nI I)).toNatClampNeg))], w)) rfl (show mz_in (((nI J) * 6) + (nI I)) 36 = true from sm_inN (sm_addN (sm_mulN rfl rfl) rfl) (show ((J * 6) + I) < 36 by omega) (by decide)) ?_
  rw [show (((nI J) * 6) + (nI I) : Int32).toNatClampNeg = ((J * 6) + I) from sm_clN (sm_addN (sm_mulN rfl rfl) rfl) (show ((J * 6) + I) < 2 ^ 31 by omega)]
  refine mz_go 1 (c' := (25, [some (.ref 20), some (.int (nI I)), some (.int (nI J))], [.int (w 21 ((J * 6) + I))], w)) rfl ?_
  exact mz_ret rfl
set_option maxHeartbeats 4000000 in
set_option maxRecDepth 100000 in
theorem vs_ev16 {m : mz_M} {T2 : Nat} (hT2 : m 16 2 = nI T2) (hV2 : T2 = 0 ∨ sm_wf T2 5 (m 17) (m 18)) (nm : Nat → Int32) (hn : ∀ j, j < 5 → m 51 j = nm j) : ∃ g, mz_Me 10 mz_r57 [.ref 16, .ref 51, .ref 52] m (some (.int (vq_ew T2 (m 17) (m 18) nm))) (mz_set m 52 g) := by
  rcases hV2 with rfl | h
  · refine ⟨m 52, ?_⟩
    rw [vq_ew0 rfl, sm_id]
    refine ⟨?_, rfl⟩
    refine mz_go 7 (c' := (11, [some (.ref 16), some (.ref 51), some (.ref 52), some (.int (-1)), some (.int 0), none, none], [.int (m 16 2), .int 0], m)) rfl ?_
    rw [hT2]
    refine mz_go 1 (c' := (if (nI 0) ≤ 0 then 158 else 14, [some (.ref 16), some (.ref 51), some (.ref 52), some (.int (-1)), some (.int 0), none, none], [], m)) rfl ?_
    refine mz_ifT (show ((nI 0) ≤ 0) from (sm_leN rfl rfl (show 0 ≤ 0 by omega) (show 0 < 2 ^ 31 by omega))) ?_
    refine mz_go 3 (c' := (169, [some (.ref 16), some (.ref 51), some (.ref 52), some (.int (-1)), some (.int 0), none, none], [.int 0], m)) rfl ?_
    exact mz_ret rfl
  · by_cases h0 : T2 = 0
    · subst h0
      refine ⟨m 52, ?_⟩
      rw [vq_ew0 rfl, sm_id]
      refine ⟨?_, rfl⟩
      refine mz_go 7 (c' := (11, [some (.ref 16), some (.ref 51), some (.ref 52), some (.int (-1)), some (.int 0), none, none], [.int (m 16 2), .int 0], m)) rfl ?_
      rw [hT2]
      refine mz_go 1 (c' := (if (nI 0) ≤ 0 then 158 else 14, [some (.ref 16), some (.ref 51), some (.ref 52), some (.int (-1)), some (.int 0), none, none], [], m)) rfl ?_
      refine mz_ifT (show ((nI 0) ≤ 0) from (sm_leN rfl rfl (show 0 ≤ 0 by omega) (show 0 < 2 ^ 31 by omega))) ?_
      refine mz_go 3 (c' := (169, [some (.ref 16), some (.ref 51), some (.ref 52), some (.int (-1)), some (.int 0), none, none], [.int 0], m)) rfl ?_
      exact mz_ret rfl
    · obtain ⟨g, E⟩ := cs_ev16 (m := m) hT2 h (by decide)
      rw [sm_ev_nm h (by decide) hn] at E
      rw [vq_ew1 h0]
      exact ⟨g, E⟩
set_option maxHeartbeats 4000000 in
set_option maxRecDepth 100000 in
theorem vc_wof {w : mz_M} {WW HH : Nat} (hWW : WW ≤ 6) (hHH : HH ≤ 6) (h202 : w 20 2 = nI WW) (h203 : w 20 3 = nI HH) {T2 : Nat} (hT2 : w 16 2 = nI T2) (hV2 : T2 = 0 ∨ sm_wf T2 5 (w 17) (w 18)) {I J : Nat} (hI : I < WW) (hJ : J < HH) {i j : Int32} (ei : i = nI I) (ej : j = nI J) (r51 r52 : Nat → Int32) : ∃ s51 s52 : Nat → Int32, mz_Me 70 mz_r44 [.ref 49, .int i, .int j] (mz_set (mz_set w 51 r51) 52 r52) (some (.int (vq_wt w T2 WW HH I J))) (mz_set (mz_set w 51 s51) 52 s52) := by
  subst ei
  subst ej
  by_cases q1 : (vq_ed (w 21) WW HH I J (w 21 ((J * 6) + I))) = 0
  · obtain ⟨ge1, Ee1⟩ := vs_ev16 (m := mz_up (mz_up (mz_up (mz_up (mz_up (mz_set (mz_set w 51 r51) 52 r52) 51 0 (w 21 ((J * 6) + I))) 51 1 (w 22 ((J * 6) + I))) 51 2 ((w 20 0) + ((nI I) * (w 20 4)))) 51 3 ((w 20 1) + ((nI J) * (w 20 4)))) 51 4 0) hT2 hV2 (sm_nm (w 21 ((J * 6) + I)) (w 22 ((J * 6) + I)) ((w 20 0) + ((nI I) * (w 20 4))) ((w 20 1) + ((nI J) * (w 20 4))) 0) (fun j hj => by
      rcases (show j = 0 ∨ j = 1 ∨ j = 2 ∨ j = 3 ∨ j = 4 by omega) with rfl | rfl | rfl | rfl | rfl <;> rfl)
    have hm : mz_set (mz_up (mz_up (mz_up (mz_up (mz_up (mz_set (mz_set w 51 r51) 52 r52) 51 0 (w 21 ((J * 6) + I))) 51 1 (w 22 ((J * 6) + I))) 51 2 ((w 20 0) + ((nI I) * (w 20 4)))) 51 3 ((w 20 1) + ((nI J) * (w 20 4)))) 51 4 0) 52 ge1 = mz_set (mz_set w 51 ((mz_set (mz_up (mz_up (mz_up (mz_up (mz_up (mz_set (mz_set w 51 r51) 52 r52) 51 0 (w 21 ((J * 6) + I))) 51 1 (w 22 ((J * 6) + I))) 51 2 ((w 20 0) + ((nI I) * (w 20 4)))) 51 3 ((w 20 1) + ((nI J) * (w 20 4)))) 51 4 0) 52 ge1) 51)) 52 ((mz_set (mz_up (mz_up (mz_up (mz_up (mz_up (mz_set (mz_set w 51 r51) 52 r52) 51 0 (w 21 ((J * 6) + I))) 51 1 (w 22 ((J * 6) + I))) 51 2 ((w 20 0) + ((nI I) * (w 20 4)))) 51 3 ((w 20 1) + ((nI J) * (w 20 4)))) 51 4 0) 52 ge1) 52) := sm_of2 (fun i h1 h2 => by simp only [mz_set_ne h1, mz_set_ne h2, mz_up_ne h1])
    refine ⟨((mz_set (mz_up (mz_up (mz_up (mz_up (mz_up (mz_set (mz_set w 51 r51) 52 r52) 51 0 (w 21 ((J * 6) + I))) 51 1 (w 22 ((J * 6) + I))) 51 2 ((w 20 0) + ((nI I) * (w 20 4)))) 51 3 ((w 20 1) + ((nI J) * (w 20 4)))) 51 4 0) 52 ge1) 51), ((mz_set (mz_up (mz_up (mz_up (mz_up (mz_up (mz_set (mz_set w 51 r51) 52 r52) 51 0 (w 21 ((J * 6) + I))) 51 1 (w 22 ((J * 6) + I))) 51 2 ((w 20 0) + ((nI I) * (w 20 4)))) 51 3 ((w 20 1) + ((nI J) * (w 20 4)))) 51 4 0) 52 ge1) 52), ?_⟩
    rw [show vq_wt w T2 WW HH I J = vq_ew T2 (w 17) (w 18) (sm_nm (w 21 ((J * 6) + I)) (w 22 ((J * 6) + I)) ((w 20 0) + ((nI I) * (w 20 4))) ((w 20 1) + ((nI J) * (w 20 4))) 0) from vq_wt0 q1, ← hm]
    refine ⟨?_, rfl⟩
    refine mz_go 10 (c' := (16, [some (.ref 49), some (.int (nI I)), some (.int (nI J)), some (.ref 20)], [.int (nI J), .int (nI I), .ref 20, .int 0, .ref 51], mz_set (mz_set w 51 r51) 52 r52)) rfl ?_
    refine mz_do (R := mz_r7) (as := [.ref 20, .int (nI I), .int (nI J)]) (rest := [.int 0, .ref 51]) (r1 := some (.int (w 21 ((J * 6) + I)))) (m1 := mz_set (mz_set w 51 r51) 52 r52) rfl ((vc_colv (w := mz_set (mz_set w 51 r51) 52 r52) hWW hHH h202 h203 (I := I) (J := J) (by omega) (by omega) (i := nI I) (j := nI J) rfl rfl).deep (by decide)) ?_
    refine mz_go 7 (c' := (28, [some (.ref 49), some (.int (nI I)), some (.int (nI J)), some (.ref 20)], [.int (nI J), .int (nI I), .ref 20, .int 1, .ref 51], mz_up (mz_set (mz_set w 51 r51) 52 r52) 51 0 (w 21 ((J * 6) + I)))) rfl ?_
    refine mz_do (R := mz_r8) (as := [.ref 20, .int (nI I), .int (nI J)]) (rest := [.int 1, .ref 51]) (r1 := some (.int (w 22 ((J * 6) + I)))) (m1 := mz_up (mz_set (mz_set w 51 r51) 52 r52) 51 0 (w 21 ((J * 6) + I))) rfl ⟨?_, rfl⟩ ?_
    · refine mz_go 3 (c' := (3, [some (.ref 20), some (.int (nI I)), some (.int (nI J))], [.int (nI J), .int (nI I), .ref 20], mz_up (mz_set (mz_set w 51 r51) 52 r52) 51 0 (w 21 ((J * 6) + I)))) rfl ?_
      refine mz_do (R := mz_r4) (as := [.ref 20, .int (nI I), .int (nI J)]) (rest := []) (r1 := some (.int 1)) (m1 := mz_up (mz_set (mz_set w 51 r51) 52 r52) 51 0 (w 21 ((J * 6) + I))) rfl ⟨?_, rfl⟩ ?_
      · refine mz_go 2 (c' := (if (nI I) < 0 then 40 else 4, [some (.ref 20), some (.int (nI I)), some (.int (nI J))], [], mz_up (mz_set (mz_set w 51 r51) 52 r52) 51 0 (w 21 ((J * 6) + I)))) rfl ?_
        refine mz_ifF (show ¬ ((nI I) < 0) from (sm_nltN rfl rfl (show 0 ≤ I by omega) (show I < 2 ^ 31 by omega))) ?_
        refine mz_go 3 (c' := (9, [some (.ref 20), some (.int (nI I)), some (.int (nI J))], [.int (w 20 2), .int (nI I)], mz_up (mz_set (mz_set w 51 r51) 52 r52) 51 0 (w 21 ((J * 6) + I)))) rfl ?_
        rw [h202]
        refine mz_go 1 (c' := (if (nI WW) ≤ (nI I) then 40 else 12, [some (.ref 20), some (.int (nI I)), some (.int (nI J))], [], mz_up (mz_set (mz_set w 51 r51) 52 r52) 51 0 (w 21 ((J * 6) + I)))) rfl ?_
        refine mz_ifF (show ¬ ((nI WW) ≤ (nI I)) from (sm_nleN rfl rfl (show I < WW by omega) (show WW < 2 ^ 31 by omega))) ?_
        refine mz_go 3 (c' := (if 6 ≤ (nI I) then 40 else 18, [some (.ref 20), some (.int (nI I)), some (.int (nI J))], [], mz_up (mz_set (mz_set w 51 r51) 52 r52) 51 0 (w 21 ((J * 6) + I)))) rfl ?_
        refine mz_ifF (show ¬ (6 ≤ (nI I)) from (sm_nleN rfl rfl (show I < 6 by omega) (show 6 < 2 ^ 31 by omega))) ?_
        refine mz_go 2 (c' := (if (nI J) < 0 then 40 else 22, [some (.ref 20), some (.int (nI I)), some (.int (nI J))], [], mz_up (mz_set (mz_set w 51 r51) 52 r52) 51 0 (w 21 ((J * 6) + I)))) rfl ?_
        refine mz_ifF (show ¬ ((nI J) < 0) from (sm_nltN rfl rfl (show 0 ≤ J by omega) (show J < 2 ^ 31 by omega))) ?_
        refine mz_go 3 (c' := (27, [some (.ref 20), some (.int (nI I)), some (.int (nI J))], [.int (w 20 3), .int (nI J)], mz_up (mz_set (mz_set w 51 r51) 52 r52) 51 0 (w 21 ((J * 6) + I)))) rfl ?_
        rw [h203]
        refine mz_go 1 (c' := (if (nI HH) ≤ (nI J) then 40 else 30, [some (.ref 20), some (.int (nI I)), some (.int (nI J))], [], mz_up (mz_set (mz_set w 51 r51) 52 r52) 51 0 (w 21 ((J * 6) + I)))) rfl ?_
        refine mz_ifF (show ¬ ((nI HH) ≤ (nI J)) from (sm_nleN rfl rfl (show J < HH by omega) (show HH < 2 ^ 31 by omega))) ?_
        refine mz_go 3 (c' := (if 6 ≤ (nI J) then 40 else 36, [some (.ref 20), some (.int (nI I)), some (.int (nI J))], [], mz_up (mz_set (mz_set w 51 r51) 52 r52) 51 0 (w 21 ((J * 6) + I)))) rfl ?_
        refine mz_ifF (show ¬ (6 ≤ (nI J)) from (sm_nleN rfl rfl (show J < 6 by omega) (show 6 < 2 ^ 31 by omega))) ?_
        refine mz_go 2 (c' := (41, [some (.ref 20), some (.int (nI I)), some (.int (nI J))], [.int 1], mz_up (mz_set (mz_set w 51 r51) 52 r52) 51 0 (w 21 ((J * 6) + I)))) rfl ?_
        exact mz_ret rfl
      refine mz_go 8 (c' := (19, [some (.ref 20), some (.int (nI I)), some (.int (nI J))], [.int (((nI J) * 6) + (nI I)), .ref 22], mz_up (mz_set (mz_set w 51 r51) 52 r52) 51 0 (w 21 ((J * 6) + I)))) rfl ?_
      refine mz_arr (c' := (20, [some (.ref 20), some (.int (nI I)), some (.int (nI J))], [.int (w 22 ((((nI J) * 6) + (nI I)).toNatClampNeg))], mz_up (mz_set (mz_set w 51 r51) 52 r52) 51 0 (w 21 ((J * 6) + I)))) rfl (show mz_in (((nI J) * 6) + (nI I)) 36 = true from sm_inN (sm_addN (sm_mulN rfl rfl) rfl) (show ((J * 6) + I) < 36 by omega) (by decide)) ?_
      rw [show (((nI J) * 6) + (nI I) : Int32).toNatClampNeg = ((J * 6) + I) from sm_clN (sm_addN (sm_mulN rfl rfl) rfl) (show ((J * 6) + I) < 2 ^ 31 by omega)]
      refine mz_go 1 (c' := (24, [some (.ref 20), some (.int (nI I)), some (.int (nI J))], [.int (w 22 ((J * 6) + I))], mz_up (mz_set (mz_set w 51 r51) 52 r52) 51 0 (w 21 ((J * 6) + I)))) rfl ?_
      exact mz_ret rfl
    refine mz_go 24 (c' := (67, [some (.ref 49), some (.int (nI I)), some (.int (nI J)), some (.ref 20)], [.ref 49], mz_up (mz_up (mz_up (mz_up (mz_set (mz_set w 51 r51) 52 r52) 51 0 (w 21 ((J * 6) + I))) 51 1 (w 22 ((J * 6) + I))) 51 2 ((w 20 0) + ((nI I) * (w 20 4)))) 51 3 ((w 20 1) + ((nI J) * (w 20 4))))) rfl ?_
    refine mz_go 5 (c' := (74, [some (.ref 49), some (.int (nI I)), some (.int (nI J)), some (.ref 20)], [.int (nI J), .int (nI I), .ref 20, .int 4, .ref 51], mz_up (mz_up (mz_up (mz_up (mz_set (mz_set w 51 r51) 52 r52) 51 0 (w 21 ((J * 6) + I))) 51 1 (w 22 ((J * 6) + I))) 51 2 ((w 20 0) + ((nI I) * (w 20 4)))) 51 3 ((w 20 1) + ((nI J) * (w 20 4))))) rfl ?_
    refine mz_do (R := mz_r12) (as := [.ref 20, .int (nI I), .int (nI J)]) (rest := [.int 4, .ref 51]) (r1 := some (.int (vq_ed (w 21) WW HH I J (w 21 ((J * 6) + I))))) (m1 := mz_up (mz_up (mz_up (mz_up (mz_set (mz_set w 51 r51) 52 r52) 51 0 (w 21 ((J * 6) + I))) 51 1 (w 22 ((J * 6) + I))) 51 2 ((w 20 0) + ((nI I) * (w 20 4)))) 51 3 ((w 20 1) + ((nI J) * (w 20 4)))) rfl ((ve_cedg (m := mz_up (mz_up (mz_up (mz_up (mz_set (mz_set w 51 r51) 52 r52) 51 0 (w 21 ((J * 6) + I))) 51 1 (w 22 ((J * 6) + I))) 51 2 ((w 20 0) + ((nI I) * (w 20 4)))) 51 3 ((w 20 1) + ((nI J) * (w 20 4)))) hWW hHH h202 h203 (I := I) (J := J) (by omega) (by omega)).deep (by decide)) ?_
    refine mz_go 1 (c' := (if (vq_ed (w 21) WW HH I J (w 21 ((J * 6) + I))) = 0 then 84 else 80, [some (.ref 49), some (.int (nI I)), some (.int (nI J)), some (.ref 20)], [.int 4, .ref 51], mz_up (mz_up (mz_up (mz_up (mz_set (mz_set w 51 r51) 52 r52) 51 0 (w 21 ((J * 6) + I))) 51 1 (w 22 ((J * 6) + I))) 51 2 ((w 20 0) + ((nI I) * (w 20 4)))) 51 3 ((w 20 1) + ((nI J) * (w 20 4))))) rfl ?_
    refine mz_ifT q1 ?_
    refine mz_go 9 (c' := (101, [some (.ref 49), some (.int (nI I)), some (.int (nI J)), some (.ref 20)], [.ref 52, .ref 51, .ref 16], mz_up (mz_up (mz_up (mz_up (mz_up (mz_set (mz_set w 51 r51) 52 r52) 51 0 (w 21 ((J * 6) + I))) 51 1 (w 22 ((J * 6) + I))) 51 2 ((w 20 0) + ((nI I) * (w 20 4)))) 51 3 ((w 20 1) + ((nI J) * (w 20 4)))) 51 4 0)) rfl ?_
    refine mz_do (R := mz_r57) (as := [.ref 16, .ref 51, .ref 52]) (rest := []) (r1 := some (.int (vq_ew T2 (w 17) (w 18) (sm_nm (w 21 ((J * 6) + I)) (w 22 ((J * 6) + I)) ((w 20 0) + ((nI I) * (w 20 4))) ((w 20 1) + ((nI J) * (w 20 4))) 0)))) (m1 := mz_set (mz_up (mz_up (mz_up (mz_up (mz_up (mz_set (mz_set w 51 r51) 52 r52) 51 0 (w 21 ((J * 6) + I))) 51 1 (w 22 ((J * 6) + I))) 51 2 ((w 20 0) + ((nI I) * (w 20 4)))) 51 3 ((w 20 1) + ((nI J) * (w 20 4)))) 51 4 0) 52 ge1) rfl (Ee1.deep (by decide)) ?_
    exact mz_ret rfl
  · obtain ⟨ge1, Ee1⟩ := vs_ev16 (m := mz_up (mz_up (mz_up (mz_up (mz_up (mz_set (mz_set w 51 r51) 52 r52) 51 0 (w 21 ((J * 6) + I))) 51 1 (w 22 ((J * 6) + I))) 51 2 ((w 20 0) + ((nI I) * (w 20 4)))) 51 3 ((w 20 1) + ((nI J) * (w 20 4)))) 51 4 1) hT2 hV2 (sm_nm (w 21 ((J * 6) + I)) (w 22 ((J * 6) + I)) ((w 20 0) + ((nI I) * (w 20 4))) ((w 20 1) + ((nI J) * (w 20 4))) 1) (fun j hj => by
      rcases (show j = 0 ∨ j = 1 ∨ j = 2 ∨ j = 3 ∨ j = 4 by omega) with rfl | rfl | rfl | rfl | rfl <;> rfl)
    have hm : mz_set (mz_up (mz_up (mz_up (mz_up (mz_up (mz_set (mz_set w 51 r51) 52 r52) 51 0 (w 21 ((J * 6) + I))) 51 1 (w 22 ((J * 6) + I))) 51 2 ((w 20 0) + ((nI I) * (w 20 4)))) 51 3 ((w 20 1) + ((nI J) * (w 20 4)))) 51 4 1) 52 ge1 = mz_set (mz_set w 51 ((mz_set (mz_up (mz_up (mz_up (mz_up (mz_up (mz_set (mz_set w 51 r51) 52 r52) 51 0 (w 21 ((J * 6) + I))) 51 1 (w 22 ((J * 6) + I))) 51 2 ((w 20 0) + ((nI I) * (w 20 4)))) 51 3 ((w 20 1) + ((nI J) * (w 20 4)))) 51 4 1) 52 ge1) 51)) 52 ((mz_set (mz_up (mz_up (mz_up (mz_up (mz_up (mz_set (mz_set w 51 r51) 52 r52) 51 0 (w 21 ((J * 6) + I))) 51 1 (w 22 ((J * 6) + I))) 51 2 ((w 20 0) + ((nI I) * (w 20 4)))) 51 3 ((w 20 1) + ((nI J) * (w 20 4)))) 51 4 1) 52 ge1) 52) := sm_of2 (fun i h1 h2 => by simp only [mz_set_ne h1, mz_set_ne h2, mz_up_ne h1])
    refine ⟨((mz_set (mz_up (mz_up (mz_up (mz_up (mz_up (mz_set (mz_set w 51 r51) 52 r52) 51 0 (w 21 ((J * 6) + I))) 51 1 (w 22 ((J * 6) + I))) 51 2 ((w 20 0) + ((nI I) * (w 20 4)))) 51 3 ((w 20 1) + ((nI J) * (w 20 4)))) 51 4 1) 52 ge1) 51), ((mz_set (mz_up (mz_up (mz_up (mz_up (mz_up (mz_set (mz_set w 51 r51) 52 r52) 51 0 (w 21 ((J * 6) + I))) 51 1 (w 22 ((J * 6) + I))) 51 2 ((w 20 0) + ((nI I) * (w 20 4)))) 51 3 ((w 20 1) + ((nI J) * (w 20 4)))) 51 4 1) 52 ge1) 52), ?_⟩
    rw [show vq_wt w T2 WW HH I J = vq_ew T2 (w 17) (w 18) (sm_nm (w 21 ((J * 6) + I)) (w 22 ((J * 6) + I)) ((w 20 0) + ((nI I) * (w 20 4))) ((w 20 1) + ((nI J) * (w 20 4))) 1) from vq_wt1 q1, ← hm]
    refine ⟨?_, rfl⟩
    refine mz_go 10 (c' := (16, [some (.ref 49), some (.int (nI I)), some (.int (nI J)), some (.ref 20)], [.int (nI J), .int (nI I), .ref 20, .int 0, .ref 51], mz_set (mz_set w 51 r51) 52 r52)) rfl ?_
    refine mz_do (R := mz_r7) (as := [.ref 20, .int (nI I), .int (nI J)]) (rest := [.int 0, .ref 51]) (r1 := some (.int (w 21 ((J * 6) + I)))) (m1 := mz_set (mz_set w 51 r51) 52 r52) rfl ((vc_colv (w := mz_set (mz_set w 51 r51) 52 r52) hWW hHH h202 h203 (I := I) (J := J) (by omega) (by omega) (i := nI I) (j := nI J) rfl rfl).deep (by decide)) ?_
    refine mz_go 7 (c' := (28, [some (.ref 49), some (.int (nI I)), some (.int (nI J)), some (.ref 20)], [.int (nI J), .int (nI I), .ref 20, .int 1, .ref 51], mz_up (mz_set (mz_set w 51 r51) 52 r52) 51 0 (w 21 ((J * 6) + I)))) rfl ?_
    refine mz_do (R := mz_r8) (as := [.ref 20, .int (nI I), .int (nI J)]) (rest := [.int 1, .ref 51]) (r1 := some (.int (w 22 ((J * 6) + I)))) (m1 := mz_up (mz_set (mz_set w 51 r51) 52 r52) 51 0 (w 21 ((J * 6) + I))) rfl ⟨?_, rfl⟩ ?_
    · refine mz_go 3 (c' := (3, [some (.ref 20), some (.int (nI I)), some (.int (nI J))], [.int (nI J), .int (nI I), .ref 20], mz_up (mz_set (mz_set w 51 r51) 52 r52) 51 0 (w 21 ((J * 6) + I)))) rfl ?_
      refine mz_do (R := mz_r4) (as := [.ref 20, .int (nI I), .int (nI J)]) (rest := []) (r1 := some (.int 1)) (m1 := mz_up (mz_set (mz_set w 51 r51) 52 r52) 51 0 (w 21 ((J * 6) + I))) rfl ⟨?_, rfl⟩ ?_
      · refine mz_go 2 (c' := (if (nI I) < 0 then 40 else 4, [some (.ref 20), some (.int (nI I)), some (.int (nI J))], [], mz_up (mz_set (mz_set w 51 r51) 52 r52) 51 0 (w 21 ((J * 6) + I)))) rfl ?_
        refine mz_ifF (show ¬ ((nI I) < 0) from (sm_nltN rfl rfl (show 0 ≤ I by omega) (show I < 2 ^ 31 by omega))) ?_
        refine mz_go 3 (c' := (9, [some (.ref 20), some (.int (nI I)), some (.int (nI J))], [.int (w 20 2), .int (nI I)], mz_up (mz_set (mz_set w 51 r51) 52 r52) 51 0 (w 21 ((J * 6) + I)))) rfl ?_
        rw [h202]
        refine mz_go 1 (c' := (if (nI WW) ≤ (nI I) then 40 else 12, [some (.ref 20), some (.int (nI I)), some (.int (nI J))], [], mz_up (mz_set (mz_set w 51 r51) 52 r52) 51 0 (w 21 ((J * 6) + I)))) rfl ?_
        refine mz_ifF (show ¬ ((nI WW) ≤ (nI I)) from (sm_nleN rfl rfl (show I < WW by omega) (show WW < 2 ^ 31 by omega))) ?_
        refine mz_go 3 (c' := (if 6 ≤ (nI I) then 40 else 18, [some (.ref 20), some (.int (nI I)), some (.int (nI J))], [], mz_up (mz_set (mz_set w 51 r51) 52 r52) 51 0 (w 21 ((J * 6) + I)))) rfl ?_
        refine mz_ifF (show ¬ (6 ≤ (nI I)) from (sm_nleN rfl rfl (show I < 6 by omega) (show 6 < 2 ^ 31 by omega))) ?_
        refine mz_go 2 (c' := (if (nI J) < 0 then 40 else 22, [some (.ref 20), some (.int (nI I)), some (.int (nI J))], [], mz_up (mz_set (mz_set w 51 r51) 52 r52) 51 0 (w 21 ((J * 6) + I)))) rfl ?_
        refine mz_ifF (show ¬ ((nI J) < 0) from (sm_nltN rfl rfl (show 0 ≤ J by omega) (show J < 2 ^ 31 by omega))) ?_
        refine mz_go 3 (c' := (27, [some (.ref 20), some (.int (nI I)), some (.int (nI J))], [.int (w 20 3), .int (nI J)], mz_up (mz_set (mz_set w 51 r51) 52 r52) 51 0 (w 21 ((J * 6) + I)))) rfl ?_
        rw [h203]
        refine mz_go 1 (c' := (if (nI HH) ≤ (nI J) then 40 else 30, [some (.ref 20), some (.int (nI I)), some (.int (nI J))], [], mz_up (mz_set (mz_set w 51 r51) 52 r52) 51 0 (w 21 ((J * 6) + I)))) rfl ?_
        refine mz_ifF (show ¬ ((nI HH) ≤ (nI J)) from (sm_nleN rfl rfl (show J < HH by omega) (show HH < 2 ^ 31 by omega))) ?_
        refine mz_go 3 (c' := (if 6 ≤ (nI J) then 40 else 36, [some (.ref 20), some (.int (nI I)), some (.int (nI J))], [], mz_up (mz_set (mz_set w 51 r51) 52 r52) 51 0 (w 21 ((J * 6) + I)))) rfl ?_
        refine mz_ifF (show ¬ (6 ≤ (nI J)) from (sm_nleN rfl rfl (show J < 6 by omega) (show 6 < 2 ^ 31 by omega))) ?_
        refine mz_go 2 (c' := (41, [some (.ref 20), some (.int (nI I)), some (.int (nI J))], [.int 1], mz_up (mz_set (mz_set w 51 r51) 52 r52) 51 0 (w 21 ((J * 6) + I)))) rfl ?_
        exact mz_ret rfl
      refine mz_go 8 (c' := (19, [some (.ref 20), some (.int (nI I)), some (.int (nI J))], [.int (((nI J) * 6) + (nI I)), .ref 22], mz_up (mz_set (mz_set w 51 r51) 52 r52) 51 0 (w 21 ((J * 6) + I)))) rfl ?_
      refine mz_arr (c' := (20, [some (.ref 20), some (.int (nI I)), some (.int (nI J))], [.int (w 22 ((((nI J) * 6) + (nI I)).toNatClampNeg))], mz_up (mz_set (mz_set w 51 r51) 52 r52) 51 0 (w 21 ((J * 6) + I)))) rfl (show mz_in (((nI J) * 6) + (nI I)) 36 = true from sm_inN (sm_addN (sm_mulN rfl rfl) rfl) (show ((J * 6) + I) < 36 by omega) (by decide)) ?_
      rw [show (((nI J) * 6) + (nI I) : Int32).toNatClampNeg = ((J * 6) + I) from sm_clN (sm_addN (sm_mulN rfl rfl) rfl) (show ((J * 6) + I) < 2 ^ 31 by omega)]
      refine mz_go 1 (c' := (24, [some (.ref 20), some (.int (nI I)), some (.int (nI J))], [.int (w 22 ((J * 6) + I))], mz_up (mz_set (mz_set w 51 r51) 52 r52) 51 0 (w 21 ((J * 6) + I)))) rfl ?_
      exact mz_ret rfl
    refine mz_go 24 (c' := (67, [some (.ref 49), some (.int (nI I)), some (.int (nI J)), some (.ref 20)], [.ref 49], mz_up (mz_up (mz_up (mz_up (mz_set (mz_set w 51 r51) 52 r52) 51 0 (w 21 ((J * 6) + I))) 51 1 (w 22 ((J * 6) + I))) 51 2 ((w 20 0) + ((nI I) * (w 20 4)))) 51 3 ((w 20 1) + ((nI J) * (w 20 4))))) rfl ?_
    refine mz_go 5 (c' := (74, [some (.ref 49), some (.int (nI I)), some (.int (nI J)), some (.ref 20)], [.int (nI J), .int (nI I), .ref 20, .int 4, .ref 51], mz_up (mz_up (mz_up (mz_up (mz_set (mz_set w 51 r51) 52 r52) 51 0 (w 21 ((J * 6) + I))) 51 1 (w 22 ((J * 6) + I))) 51 2 ((w 20 0) + ((nI I) * (w 20 4)))) 51 3 ((w 20 1) + ((nI J) * (w 20 4))))) rfl ?_
    refine mz_do (R := mz_r12) (as := [.ref 20, .int (nI I), .int (nI J)]) (rest := [.int 4, .ref 51]) (r1 := some (.int (vq_ed (w 21) WW HH I J (w 21 ((J * 6) + I))))) (m1 := mz_up (mz_up (mz_up (mz_up (mz_set (mz_set w 51 r51) 52 r52) 51 0 (w 21 ((J * 6) + I))) 51 1 (w 22 ((J * 6) + I))) 51 2 ((w 20 0) + ((nI I) * (w 20 4)))) 51 3 ((w 20 1) + ((nI J) * (w 20 4)))) rfl ((ve_cedg (m := mz_up (mz_up (mz_up (mz_up (mz_set (mz_set w 51 r51) 52 r52) 51 0 (w 21 ((J * 6) + I))) 51 1 (w 22 ((J * 6) + I))) 51 2 ((w 20 0) + ((nI I) * (w 20 4)))) 51 3 ((w 20 1) + ((nI J) * (w 20 4)))) hWW hHH h202 h203 (I := I) (J := J) (by omega) (by omega)).deep (by decide)) ?_
    refine mz_go 1 (c' := (if (vq_ed (w 21) WW HH I J (w 21 ((J * 6) + I))) = 0 then 84 else 80, [some (.ref 49), some (.int (nI I)), some (.int (nI J)), some (.ref 20)], [.int 4, .ref 51], mz_up (mz_up (mz_up (mz_up (mz_set (mz_set w 51 r51) 52 r52) 51 0 (w 21 ((J * 6) + I))) 51 1 (w 22 ((J * 6) + I))) 51 2 ((w 20 0) + ((nI I) * (w 20 4)))) 51 3 ((w 20 1) + ((nI J) * (w 20 4))))) rfl ?_
    refine mz_ifF q1 ?_
    refine mz_go 10 (c' := (101, [some (.ref 49), some (.int (nI I)), some (.int (nI J)), some (.ref 20)], [.ref 52, .ref 51, .ref 16], mz_up (mz_up (mz_up (mz_up (mz_up (mz_set (mz_set w 51 r51) 52 r52) 51 0 (w 21 ((J * 6) + I))) 51 1 (w 22 ((J * 6) + I))) 51 2 ((w 20 0) + ((nI I) * (w 20 4)))) 51 3 ((w 20 1) + ((nI J) * (w 20 4)))) 51 4 1)) rfl ?_
    refine mz_do (R := mz_r57) (as := [.ref 16, .ref 51, .ref 52]) (rest := []) (r1 := some (.int (vq_ew T2 (w 17) (w 18) (sm_nm (w 21 ((J * 6) + I)) (w 22 ((J * 6) + I)) ((w 20 0) + ((nI I) * (w 20 4))) ((w 20 1) + ((nI J) * (w 20 4))) 1)))) (m1 := mz_set (mz_up (mz_up (mz_up (mz_up (mz_up (mz_set (mz_set w 51 r51) 52 r52) 51 0 (w 21 ((J * 6) + I))) 51 1 (w 22 ((J * 6) + I))) 51 2 ((w 20 0) + ((nI I) * (w 20 4)))) 51 3 ((w 20 1) + ((nI J) * (w 20 4)))) 51 4 1) 52 ge1) rfl (Ee1.deep (by decide)) ?_
    exact mz_ret rfl
set_option maxHeartbeats 4000000 in
set_option maxRecDepth 100000 in
theorem vc_wai {w : mz_M} {WW HH : Nat} (hWW : WW ≤ 6) (hHH : HH ≤ 6) (h202 : w 20 2 = nI WW) (h203 : w 20 3 = nI HH) {T2 : Nat} (hT2 : w 16 2 = nI T2) (hV2 : T2 = 0 ∨ sm_wf T2 5 (w 17) (w 18)) {J : Nat} (hJ : J < HH) {xa : Int32} : ∀ j k : Nat, k + j = WW → ∀ (a0 a1 : Int32) (o0 : Option Value) (r51 r52 : Nat → Int32), ∃ (p0 : Option Value), ∃ (s51 : Nat → Int32), ∃ (s52 : Nat → Int32), ∀ r, mz_Ex 100 mz_k93 (111, [some (.ref 0), some (.int xa), some (.ref 20), some (.int ((vq_fn (fun i s => vq_su (vq_wt w T2 WW HH i J) ((10 * nI i) + nI J) s) j k (a0, a1)).1)), some (.int ((vq_fn (fun i s => vq_su (vq_wt w T2 WW HH i J) ((10 * nI i) + nI J) s) j k (a0, a1)).2)), some (.int (nI J)), some (.int (nI WW)), p0], [], mz_set (mz_set w 51 s51) 52 s52) r → mz_Ex 100 mz_k93 (64, [some (.ref 0), some (.int xa), some (.ref 20), some (.int a0), some (.int a1), some (.int (nI J)), some (.int (nI k)), o0], [], mz_set (mz_set w 51 r51) 52 r52) r := by
  intro j
  induction j with
  | zero =>
    intro k hk a0 a1 o0 r51 r52
    rw [show k = WW by omega]
    exact ⟨o0, r51, r52, fun r hr => by
      refine mz_go 3 (c' := (70, [some (.ref 0), some (.int xa), some (.ref 20), some (.int a0), some (.int a1), some (.int (nI J)), some (.int (nI WW)), o0], [.int (w 20 2), .int (nI WW)], mz_set (mz_set w 51 r51) 52 r52)) rfl ?_
      rw [h202]
      refine mz_go 1 (c' := (if (nI WW) ≤ (nI WW) then 111 else 73, [some (.ref 0), some (.int xa), some (.ref 20), some (.int a0), some (.int a1), some (.int (nI J)), some (.int (nI WW)), o0], [], mz_set (mz_set w 51 r51) 52 r52)) rfl ?_
      refine mz_ifT (show ((nI WW) ≤ (nI WW)) from (sm_leN rfl rfl (show WW ≤ WW by omega) (show WW < 2 ^ 31 by omega))) ?_
      exact hr⟩
  | succ j ih =>
    intro k hk a0 a1 o0 r51 r52
    obtain ⟨s51e1, s52e1, Ee1⟩ := vc_wof hWW hHH h202 h203 hT2 hV2 (I := k) (J := J) (by omega) (by omega) (i := nI k) (j := nI J) rfl rfl r51 r52
    by_cases q1 : (vq_wt w T2 WW HH k J) ≤ a0
    · obtain ⟨p0, s51, s52, Er⟩ := ih (k + 1) (by omega) a0 a1 (some (.int (vq_wt w T2 WW HH k J))) s51e1 s52e1
      refine ⟨p0, s51, s52, fun r hr0 => ?_⟩
      have hst : vq_fn (fun i s => vq_su (vq_wt w T2 WW HH i J) ((10 * nI i) + nI J) s) (j + 1) k (a0, a1) = vq_fn (fun i s => vq_su (vq_wt w T2 WW HH i J) ((10 * nI i) + nI J) s) j (k + 1) (a0, a1) := vq_fn_in (vq_su0 (Int32.not_lt.mpr q1))
      rw [hst] at hr0
      have hr := Er r hr0
      rw [nI_succ k] at hr
      refine mz_go 3 (c' := (70, [some (.ref 0), some (.int xa), some (.ref 20), some (.int a0), some (.int a1), some (.int (nI J)), some (.int (nI k)), o0], [.int (w 20 2), .int (nI k)], mz_set (mz_set w 51 r51) 52 r52)) rfl ?_
      rw [h202]
      refine mz_go 1 (c' := (if (nI WW) ≤ (nI k) then 111 else 73, [some (.ref 0), some (.int xa), some (.ref 20), some (.int a0), some (.int a1), some (.int (nI J)), some (.int (nI k)), o0], [], mz_set (mz_set w 51 r51) 52 r52)) rfl ?_
      refine mz_ifF (show ¬ ((nI WW) ≤ (nI k)) from (sm_nleN rfl rfl (show k < WW by omega) (show WW < 2 ^ 31 by omega))) ?_
      refine mz_go 4 (c' := (81, [some (.ref 0), some (.int xa), some (.ref 20), some (.int a0), some (.int a1), some (.int (nI J)), some (.int (nI k)), o0], [.int (nI J), .int (nI k), .ref 49], mz_set (mz_set w 51 r51) 52 r52)) rfl ?_
      refine mz_do (R := mz_r44) (as := [.ref 49, .int (nI k), .int (nI J)]) (rest := []) (r1 := some (.int (vq_wt w T2 WW HH k J))) (m1 := mz_set (mz_set w 51 s51e1) 52 s52e1) rfl (Ee1.deep (by decide)) ?_
      refine mz_go 4 (c' := (if (vq_wt w T2 WW HH k J) ≤ a0 then 105 else 92, [some (.ref 0), some (.int xa), some (.ref 20), some (.int a0), some (.int a1), some (.int (nI J)), some (.int (nI k)), some (.int (vq_wt w T2 WW HH k J))], [], mz_set (mz_set w 51 s51e1) 52 s52e1)) rfl ?_
      refine mz_ifT q1 ?_
      refine mz_go 2 (c' := (64, [some (.ref 0), some (.int xa), some (.ref 20), some (.int a0), some (.int a1), some (.int (nI J)), some (.int ((nI k) + 1)), some (.int (vq_wt w T2 WW HH k J))], [], mz_set (mz_set w 51 s51e1) 52 s52e1)) rfl ?_
      exact hr
    · obtain ⟨p0, s51, s52, Er⟩ := ih (k + 1) (by omega) (vq_wt w T2 WW HH k J) ((10 * (nI k)) + (nI J)) (some (.int (vq_wt w T2 WW HH k J))) s51e1 s52e1
      refine ⟨p0, s51, s52, fun r hr0 => ?_⟩
      have hst : vq_fn (fun i s => vq_su (vq_wt w T2 WW HH i J) ((10 * nI i) + nI J) s) (j + 1) k (a0, a1) = vq_fn (fun i s => vq_su (vq_wt w T2 WW HH i J) ((10 * nI i) + nI J) s) j (k + 1) ((vq_wt w T2 WW HH k J), ((10 * (nI k)) + (nI J))) := vq_fn_in (vq_su1 (Int32.not_le.mp q1))
      rw [hst] at hr0
      have hr := Er r hr0
      rw [nI_succ k] at hr
      refine mz_go 3 (c' := (70, [some (.ref 0), some (.int xa), some (.ref 20), some (.int a0), some (.int a1), some (.int (nI J)), some (.int (nI k)), o0], [.int (w 20 2), .int (nI k)], mz_set (mz_set w 51 r51) 52 r52)) rfl ?_
      rw [h202]
      refine mz_go 1 (c' := (if (nI WW) ≤ (nI k) then 111 else 73, [some (.ref 0), some (.int xa), some (.ref 20), some (.int a0), some (.int a1), some (.int (nI J)), some (.int (nI k)), o0], [], mz_set (mz_set w 51 r51) 52 r52)) rfl ?_
      refine mz_ifF (show ¬ ((nI WW) ≤ (nI k)) from (sm_nleN rfl rfl (show k < WW by omega) (show WW < 2 ^ 31 by omega))) ?_
      refine mz_go 4 (c' := (81, [some (.ref 0), some (.int xa), some (.ref 20), some (.int a0), some (.int a1), some (.int (nI J)), some (.int (nI k)), o0], [.int (nI J), .int (nI k), .ref 49], mz_set (mz_set w 51 r51) 52 r52)) rfl ?_
      refine mz_do (R := mz_r44) (as := [.ref 49, .int (nI k), .int (nI J)]) (rest := []) (r1 := some (.int (vq_wt w T2 WW HH k J))) (m1 := mz_set (mz_set w 51 s51e1) 52 s52e1) rfl (Ee1.deep (by decide)) ?_
      refine mz_go 4 (c' := (if (vq_wt w T2 WW HH k J) ≤ a0 then 105 else 92, [some (.ref 0), some (.int xa), some (.ref 20), some (.int a0), some (.int a1), some (.int (nI J)), some (.int (nI k)), some (.int (vq_wt w T2 WW HH k J))], [], mz_set (mz_set w 51 s51e1) 52 s52e1)) rfl ?_
      refine mz_ifF q1 ?_
      refine mz_go 10 (c' := (64, [some (.ref 0), some (.int xa), some (.ref 20), some (.int (vq_wt w T2 WW HH k J)), some (.int ((10 * (nI k)) + (nI J))), some (.int (nI J)), some (.int ((nI k) + 1)), some (.int (vq_wt w T2 WW HH k J))], [], mz_set (mz_set w 51 s51e1) 52 s52e1)) rfl ?_
      exact hr
set_option maxHeartbeats 4000000 in
set_option maxRecDepth 100000 in
theorem vc_waj {w : mz_M} {WW HH : Nat} (hWW : WW ≤ 6) (hHH : HH ≤ 6) (h202 : w 20 2 = nI WW) (h203 : w 20 3 = nI HH) {T2 : Nat} (hT2 : w 16 2 = nI T2) (hV2 : T2 = 0 ∨ sm_wf T2 5 (w 17) (w 18)) {xa : Int32} : ∀ j k : Nat, k + j = HH → ∀ (a0 a1 : Int32) (o0 o1 : Option Value) (r51 r52 : Nat → Int32), ∃ (p0 : Option Value), ∃ (p1 : Option Value), ∃ (s51 : Nat → Int32), ∃ (s52 : Nat → Int32), ∀ r, mz_Ex 100 mz_k93 (117, [some (.ref 0), some (.int xa), some (.ref 20), some (.int ((vq_fn (fun j s => vq_fn (fun i s => vq_su (vq_wt w T2 WW HH i j) ((10 * nI i) + nI j) s) WW 0 s) j k (a0, a1)).1)), some (.int ((vq_fn (fun j s => vq_fn (fun i s => vq_su (vq_wt w T2 WW HH i j) ((10 * nI i) + nI j) s) WW 0 s) j k (a0, a1)).2)), some (.int (nI HH)), p0, p1], [], mz_set (mz_set w 51 s51) 52 s52) r → mz_Ex 100 mz_k93 (52, [some (.ref 0), some (.int xa), some (.ref 20), some (.int a0), some (.int a1), some (.int (nI k)), o0, o1], [], mz_set (mz_set w 51 r51) 52 r52) r := by
  intro j
  induction j with
  | zero =>
    intro k hk a0 a1 o0 o1 r51 r52
    rw [show k = HH by omega]
    exact ⟨o0, o1, r51, r52, fun r hr => by
      refine mz_go 3 (c' := (58, [some (.ref 0), some (.int xa), some (.ref 20), some (.int a0), some (.int a1), some (.int (nI HH)), o0, o1], [.int (w 20 3), .int (nI HH)], mz_set (mz_set w 51 r51) 52 r52)) rfl ?_
      rw [h203]
      refine mz_go 1 (c' := (if (nI HH) ≤ (nI HH) then 117 else 61, [some (.ref 0), some (.int xa), some (.ref 20), some (.int a0), some (.int a1), some (.int (nI HH)), o0, o1], [], mz_set (mz_set w 51 r51) 52 r52)) rfl ?_
      refine mz_ifT (show ((nI HH) ≤ (nI HH)) from (sm_leN rfl rfl (show HH ≤ HH by omega) (show HH < 2 ^ 31 by omega))) ?_
      exact hr⟩
  | succ j ih =>
    intro k hk a0 a1 o0 o1 r51 r52
    obtain ⟨py1, s51y1, s52y1, Ey1⟩ := vc_wai hWW hHH h202 h203 hT2 hV2 (J := k) (by omega) (xa := xa) WW 0 (by omega) a0 a1 o1 r51 r52
    obtain ⟨p0, p1, s51, s52, Er⟩ := ih (k + 1) (by omega) ((vq_fn (fun i s => vq_su (vq_wt w T2 WW HH i k) ((10 * nI i) + nI k) s) WW 0 (a0, a1)).1) ((vq_fn (fun i s => vq_su (vq_wt w T2 WW HH i k) ((10 * nI i) + nI k) s) WW 0 (a0, a1)).2) (some (.int (nI WW))) py1 s51y1 s52y1
    refine ⟨p0, p1, s51, s52, fun r hr0 => ?_⟩
    have hst : vq_fn (fun j s => vq_fn (fun i s => vq_su (vq_wt w T2 WW HH i j) ((10 * nI i) + nI j) s) WW 0 s) (j + 1) k (a0, a1) = vq_fn (fun j s => vq_fn (fun i s => vq_su (vq_wt w T2 WW HH i j) ((10 * nI i) + nI j) s) WW 0 s) j (k + 1) (((vq_fn (fun i s => vq_su (vq_wt w T2 WW HH i k) ((10 * nI i) + nI k) s) WW 0 (a0, a1)).1), ((vq_fn (fun i s => vq_su (vq_wt w T2 WW HH i k) ((10 * nI i) + nI k) s) WW 0 (a0, a1)).2)) := vq_fn_in rfl
    rw [hst] at hr0
    have hr := Er r hr0
    rw [nI_succ k] at hr
    refine mz_go 3 (c' := (58, [some (.ref 0), some (.int xa), some (.ref 20), some (.int a0), some (.int a1), some (.int (nI k)), o0, o1], [.int (w 20 3), .int (nI k)], mz_set (mz_set w 51 r51) 52 r52)) rfl ?_
    rw [h203]
    refine mz_go 1 (c' := (if (nI HH) ≤ (nI k) then 117 else 61, [some (.ref 0), some (.int xa), some (.ref 20), some (.int a0), some (.int a1), some (.int (nI k)), o0, o1], [], mz_set (mz_set w 51 r51) 52 r52)) rfl ?_
    refine mz_ifF (show ¬ ((nI HH) ≤ (nI k)) from (sm_nleN rfl rfl (show k < HH by omega) (show HH < 2 ^ 31 by omega))) ?_
    refine mz_go 2 (c' := (64, [some (.ref 0), some (.int xa), some (.ref 20), some (.int a0), some (.int a1), some (.int (nI k)), some (.int 0), o1], [], mz_set (mz_set w 51 r51) 52 r52)) rfl ?_
    refine Ey1 _ ?_
    refine mz_go 2 (c' := (52, [some (.ref 0), some (.int xa), some (.ref 20), some (.int ((vq_fn (fun i s => vq_su (vq_wt w T2 WW HH i k) ((10 * nI i) + nI k) s) WW 0 (a0, a1)).1)), some (.int ((vq_fn (fun i s => vq_su (vq_wt w T2 WW HH i k) ((10 * nI i) + nI k) s) WW 0 (a0, a1)).2)), some (.int ((nI k) + 1)), some (.int (nI WW)), py1], [], mz_set (mz_set w 51 s51y1) 52 s52y1)) rfl ?_
    exact hr
set_option maxHeartbeats 4000000 in
set_option maxRecDepth 100000 in
theorem vr_wof {w b : mz_M} {N : Nat} (hw : sm_W w N) (hN : N ≤ 6) (hr5 : w 7 5 = 1 ∨ w 7 5 = 2) (hr80 : sm_N 80 (w 7 2)) (hr2 : sm_HR w (b 66)) (h6615 : b 66 15 = w 7 5) {WW HH : Nat} (hWW : WW ≤ 6) (hHH : HH ≤ 6) (hWH : WW = 0 ↔ HH = 0) (h6660 : b 66 60 = nI WW) (h6661 : b 66 61 = nI HH) (h62 : b 66 62 = w 20 0) (h63 : b 66 63 = w 20 1) (h64 : b 66 64 = w 20 4) (hbc : ∀ i, i < 36 → b 66 (70 + i) = w 21 i) (hcb : ∀ i, i < 36 → sm_colB (w 21 i)) (hbl : ∀ i, i < 36 → b 66 (110 + i) = w 22 i) {T2 : Nat} (hT2 : w 16 2 = nI T2) (hU2 : b 66 420 = nI T2) (hV2 : T2 = 0 ∨ sm_wf T2 5 (w 17) (w 18)) {I J : Nat} (hI : I < WW) (hJ : J < HH) {i j : Int32} (ei : i = nI I) (ej : j = nI J) (r70 r71 : Nat → Int32) : ∃ s70 s71 : Nat → Int32, mz_Me 60 mz_r203 [.ref 65, .int i, .int j] (mz_set (mz_set b 70 r70) 71 r71) (some (.int (vq_wt w T2 WW HH I J))) (mz_set (mz_set b 70 s70) 71 s71) := by
  subst ei
  subst ej
  have hT60 := sm_T60 hV2
  by_cases q1 : T2 ≤ 0
  · refine ⟨r70, r71, ?_⟩
    rw [vq_wtz (by omega)]
    refine ⟨?_, rfl⟩
    refine mz_go 2 (c' := (2, [some (.ref 65), some (.int (nI I)), some (.int (nI J))], [.int 2, .ref 65], mz_set (mz_set b 70 r70) 71 r71)) rfl ?_
    refine mz_do (R := mz_r169) (as := [.ref 65, .int 2]) (rest := []) (r1 := some (.int 0)) (m1 := mz_set (mz_set b 70 r70) 71 r71) rfl ⟨?_, rfl⟩ ?_
    · refine mz_go 8 (c' := (13, [some (.ref 65), some (.int 2)], [.int (b 66 420)], mz_set (mz_set b 70 r70) 71 r71)) rfl ?_
      rw [hU2]
      refine mz_go 1 (c' := (if (nI T2) ≤ 0 then 20 else 16, [some (.ref 65), some (.int 2)], [], mz_set (mz_set b 70 r70) 71 r71)) rfl ?_
      refine mz_ifT (show ((nI T2) ≤ 0) from (sm_leN rfl rfl (show T2 ≤ 0 by omega) (show 0 < 2 ^ 31 by omega))) ?_
      refine mz_go 1 (c' := (21, [some (.ref 65), some (.int 2)], [.int 0], mz_set (mz_set b 70 r70) 71 r71)) rfl ?_
      exact mz_ret rfl
    refine mz_go 2 (c' := (9, [some (.ref 65), some (.int (nI I)), some (.int (nI J))], [.int 0], mz_set (mz_set b 70 r70) 71 r71)) rfl ?_
    exact mz_ret rfl
  · by_cases q2 : (vq_ed (w 21) WW HH I J (w 21 ((J * 6) + I))) = 0
    · obtain ⟨ge1, Ee1⟩ := ct_ev2 (w := w) (m := mz_up (mz_up (mz_up (mz_up (mz_up (mz_set (mz_set b 70 r70) 71 r71) 70 99 (w 21 ((J * 6) + I))) 70 108 (w 22 ((J * 6) + I))) 70 120 ((w 20 0) + ((nI I) * (w 20 4)))) 70 121 ((w 20 1) + ((nI J) * (w 20 4)))) 70 101 0) hT2 (hV2.resolve_left (by omega)) (by decide) hr2.2.2.2.2.2 sm_chs2 (sm_nm (w 21 ((J * 6) + I)) (w 22 ((J * 6) + I)) ((w 20 0) + ((nI I) * (w 20 4))) ((w 20 1) + ((nI J) * (w 20 4))) 0) (fun j hj => by
        rcases (show j = 0 ∨ j = 1 ∨ j = 2 ∨ j = 3 ∨ j = 4 by omega) with rfl | rfl | rfl | rfl | rfl <;> rfl)
      have hm : mz_set (mz_up (mz_up (mz_up (mz_up (mz_up (mz_set (mz_set b 70 r70) 71 r71) 70 99 (w 21 ((J * 6) + I))) 70 108 (w 22 ((J * 6) + I))) 70 120 ((w 20 0) + ((nI I) * (w 20 4)))) 70 121 ((w 20 1) + ((nI J) * (w 20 4)))) 70 101 0) 71 ge1 = mz_set (mz_set b 70 ((mz_set (mz_up (mz_up (mz_up (mz_up (mz_up (mz_set (mz_set b 70 r70) 71 r71) 70 99 (w 21 ((J * 6) + I))) 70 108 (w 22 ((J * 6) + I))) 70 120 ((w 20 0) + ((nI I) * (w 20 4)))) 70 121 ((w 20 1) + ((nI J) * (w 20 4)))) 70 101 0) 71 ge1) 70)) 71 ((mz_set (mz_up (mz_up (mz_up (mz_up (mz_up (mz_set (mz_set b 70 r70) 71 r71) 70 99 (w 21 ((J * 6) + I))) 70 108 (w 22 ((J * 6) + I))) 70 120 ((w 20 0) + ((nI I) * (w 20 4)))) 70 121 ((w 20 1) + ((nI J) * (w 20 4)))) 70 101 0) 71 ge1) 71) := sm_of2 (fun i h1 h2 => by simp only [mz_set_ne h1, mz_set_ne h2, mz_up_ne h1])
      refine ⟨((mz_set (mz_up (mz_up (mz_up (mz_up (mz_up (mz_set (mz_set b 70 r70) 71 r71) 70 99 (w 21 ((J * 6) + I))) 70 108 (w 22 ((J * 6) + I))) 70 120 ((w 20 0) + ((nI I) * (w 20 4)))) 70 121 ((w 20 1) + ((nI J) * (w 20 4)))) 70 101 0) 71 ge1) 70), ((mz_set (mz_up (mz_up (mz_up (mz_up (mz_up (mz_set (mz_set b 70 r70) 71 r71) 70 99 (w 21 ((J * 6) + I))) 70 108 (w 22 ((J * 6) + I))) 70 120 ((w 20 0) + ((nI I) * (w 20 4)))) 70 121 ((w 20 1) + ((nI J) * (w 20 4)))) 70 101 0) 71 ge1) 71), ?_⟩
      rw [show vq_wt w T2 WW HH I J = sm_ev T2 (w 17) (w 18) (sm_nm (w 21 ((J * 6) + I)) (w 22 ((J * 6) + I)) ((w 20 0) + ((nI I) * (w 20 4))) ((w 20 1) + ((nI J) * (w 20 4))) 0) from (vq_wt0 q2).trans (vq_ew1 (by omega)), ← hm]
      refine ⟨?_, rfl⟩
      refine mz_go 2 (c' := (2, [some (.ref 65), some (.int (nI I)), some (.int (nI J))], [.int 2, .ref 65], mz_set (mz_set b 70 r70) 71 r71)) rfl ?_
      refine mz_do (R := mz_r169) (as := [.ref 65, .int 2]) (rest := []) (r1 := some (.int 1)) (m1 := mz_set (mz_set b 70 r70) 71 r71) rfl ⟨?_, rfl⟩ ?_
      · refine mz_go 8 (c' := (13, [some (.ref 65), some (.int 2)], [.int (b 66 420)], mz_set (mz_set b 70 r70) 71 r71)) rfl ?_
        rw [hU2]
        refine mz_go 1 (c' := (if (nI T2) ≤ 0 then 20 else 16, [some (.ref 65), some (.int 2)], [], mz_set (mz_set b 70 r70) 71 r71)) rfl ?_
        refine mz_ifF (show ¬ ((nI T2) ≤ 0) from (sm_nleN rfl rfl (show 0 < T2 by omega) (show T2 < 2 ^ 31 by omega))) ?_
        refine mz_go 2 (c' := (21, [some (.ref 65), some (.int 2)], [.int 1], mz_set (mz_set b 70 r70) 71 r71)) rfl ?_
        exact mz_ret rfl
      refine mz_go 7 (c' := (19, [some (.ref 65), some (.int (nI I)), some (.int (nI J))], [.int (nI J), .int (nI I), .ref 65, .int 99, .ref 70], mz_set (mz_set b 70 r70) 71 r71)) rfl ?_
      refine mz_do (R := mz_r186) (as := [.ref 65, .int (nI I), .int (nI J)]) (rest := [.int 99, .ref 70]) (r1 := some (.int (w 21 ((J * 6) + I)))) (m1 := mz_set (mz_set b 70 r70) 71 r71) rfl ((vr_colw (w := w) (m := mz_set (mz_set b 70 r70) 71 r71) hbc (A := I) (B := J) (by omega) (by omega) (a := nI I) (b := nI J) rfl rfl).deep (by decide)) ?_
      refine mz_go 13 (c' := (42, [some (.ref 65), some (.int (nI I)), some (.int (nI J))], [.int ((110 + (6 * (nI J))) + (nI I)), .ref 66, .int 108, .ref 70], mz_up (mz_set (mz_set b 70 r70) 71 r71) 70 99 (w 21 ((J * 6) + I)))) rfl ?_
      refine mz_arr (c' := (43, [some (.ref 65), some (.int (nI I)), some (.int (nI J))], [.int (b 66 (((110 + (6 * (nI J))) + (nI I)).toNatClampNeg)), .int 108, .ref 70], mz_up (mz_set (mz_set b 70 r70) 71 r71) 70 99 (w 21 ((J * 6) + I)))) rfl (show mz_in ((110 + (6 * (nI J))) + (nI I)) 650 = true from sm_inN (sm_addN (sm_addN rfl (sm_mulN rfl rfl)) rfl) (show ((110 + (6 * J)) + I) < 650 by omega) (by decide)) ?_
      rw [show ((110 + (6 * (nI J))) + (nI I) : Int32).toNatClampNeg = ((110 + (6 * J)) + I) from sm_clN (sm_addN (sm_addN rfl (sm_mulN rfl rfl)) rfl) (show ((110 + (6 * J)) + I) < 2 ^ 31 by omega)]
      rw [show b 66 ((110 + (6 * J)) + I) = w 22 ((J * 6) + I) from (congrArg (b 66) (show (110 + (6 * J)) + I = 110 + ((J * 6) + I) by omega)).trans (hbl _ (by omega))]
      refine mz_go 8 (c' := (57, [some (.ref 65), some (.int (nI I)), some (.int (nI J))], [.int (b 66 62), .int 120, .ref 70], mz_up (mz_up (mz_set (mz_set b 70 r70) 71 r71) 70 99 (w 21 ((J * 6) + I))) 70 108 (w 22 ((J * 6) + I)))) rfl ?_
      rw [h62]
      refine mz_go 5 (c' := (65, [some (.ref 65), some (.int (nI I)), some (.int (nI J))], [.int (b 66 64), .int (nI I), .int (w 20 0), .int 120, .ref 70], mz_up (mz_up (mz_set (mz_set b 70 r70) 71 r71) 70 99 (w 21 ((J * 6) + I))) 70 108 (w 22 ((J * 6) + I)))) rfl ?_
      rw [h64]
      refine mz_go 10 (c' := (81, [some (.ref 65), some (.int (nI I)), some (.int (nI J))], [.int (b 66 63), .int 121, .ref 70], mz_up (mz_up (mz_up (mz_set (mz_set b 70 r70) 71 r71) 70 99 (w 21 ((J * 6) + I))) 70 108 (w 22 ((J * 6) + I))) 70 120 ((w 20 0) + ((nI I) * (w 20 4))))) rfl ?_
      rw [h63]
      refine mz_go 5 (c' := (89, [some (.ref 65), some (.int (nI I)), some (.int (nI J))], [.int (b 66 64), .int (nI J), .int (w 20 1), .int 121, .ref 70], mz_up (mz_up (mz_up (mz_set (mz_set b 70 r70) 71 r71) 70 99 (w 21 ((J * 6) + I))) 70 108 (w 22 ((J * 6) + I))) 70 120 ((w 20 0) + ((nI I) * (w 20 4))))) rfl ?_
      rw [h64]
      refine mz_go 9 (c' := (101, [some (.ref 65), some (.int (nI I)), some (.int (nI J))], [.int (nI J), .int (nI I), .ref 65, .int 101, .ref 70], mz_up (mz_up (mz_up (mz_up (mz_set (mz_set b 70 r70) 71 r71) 70 99 (w 21 ((J * 6) + I))) 70 108 (w 22 ((J * 6) + I))) 70 120 ((w 20 0) + ((nI I) * (w 20 4)))) 70 121 ((w 20 1) + ((nI J) * (w 20 4))))) rfl ?_
      refine mz_do (R := mz_r196) (as := [.ref 65, .int (nI I), .int (nI J)]) (rest := [.int 101, .ref 70]) (r1 := some (.int (vq_ed (w 21) WW HH I J (w 21 ((J * 6) + I))))) (m1 := mz_up (mz_up (mz_up (mz_up (mz_set (mz_set b 70 r70) 71 r71) 70 99 (w 21 ((J * 6) + I))) 70 108 (w 22 ((J * 6) + I))) 70 120 ((w 20 0) + ((nI I) * (w 20 4)))) 70 121 ((w 20 1) + ((nI J) * (w 20 4)))) rfl ((ve_redg (w := w) (m := mz_up (mz_up (mz_up (mz_up (mz_set (mz_set b 70 r70) 71 r71) 70 99 (w 21 ((J * 6) + I))) 70 108 (w 22 ((J * 6) + I))) 70 120 ((w 20 0) + ((nI I) * (w 20 4)))) 70 121 ((w 20 1) + ((nI J) * (w 20 4)))) hWW hHH hWH h6660 h6661 (I := I) (J := J) (by omega) (by omega) hbc).deep (by decide)) ?_
      refine mz_go 1 (c' := (if (vq_ed (w 21) WW HH I J (w 21 ((J * 6) + I))) = 0 then 111 else 107, [some (.ref 65), some (.int (nI I)), some (.int (nI J))], [.int 101, .ref 70], mz_up (mz_up (mz_up (mz_up (mz_set (mz_set b 70 r70) 71 r71) 70 99 (w 21 ((J * 6) + I))) 70 108 (w 22 ((J * 6) + I))) 70 120 ((w 20 0) + ((nI I) * (w 20 4)))) 70 121 ((w 20 1) + ((nI J) * (w 20 4))))) rfl ?_
      refine mz_ifT q2 ?_
      refine mz_go 4 (c' := (115, [some (.ref 65), some (.int (nI I)), some (.int (nI J))], [.int 2, .ref 65], mz_up (mz_up (mz_up (mz_up (mz_up (mz_set (mz_set b 70 r70) 71 r71) 70 99 (w 21 ((J * 6) + I))) 70 108 (w 22 ((J * 6) + I))) 70 120 ((w 20 0) + ((nI I) * (w 20 4)))) 70 121 ((w 20 1) + ((nI J) * (w 20 4)))) 70 101 0)) rfl ?_
      refine mz_do (R := mz_r173) (as := [.ref 65, .int 2]) (rest := []) (r1 := some (.int (sm_ev T2 (w 17) (w 18) (sm_nm (w 21 ((J * 6) + I)) (w 22 ((J * 6) + I)) ((w 20 0) + ((nI I) * (w 20 4))) ((w 20 1) + ((nI J) * (w 20 4))) 0)))) (m1 := mz_set (mz_up (mz_up (mz_up (mz_up (mz_up (mz_set (mz_set b 70 r70) 71 r71) 70 99 (w 21 ((J * 6) + I))) 70 108 (w 22 ((J * 6) + I))) 70 120 ((w 20 0) + ((nI I) * (w 20 4)))) 70 121 ((w 20 1) + ((nI J) * (w 20 4)))) 70 101 0) 71 ge1) rfl (Ee1.deep (by decide)) ?_
      exact mz_ret rfl
    · obtain ⟨ge1, Ee1⟩ := ct_ev2 (w := w) (m := mz_up (mz_up (mz_up (mz_up (mz_up (mz_set (mz_set b 70 r70) 71 r71) 70 99 (w 21 ((J * 6) + I))) 70 108 (w 22 ((J * 6) + I))) 70 120 ((w 20 0) + ((nI I) * (w 20 4)))) 70 121 ((w 20 1) + ((nI J) * (w 20 4)))) 70 101 1) hT2 (hV2.resolve_left (by omega)) (by decide) hr2.2.2.2.2.2 sm_chs2 (sm_nm (w 21 ((J * 6) + I)) (w 22 ((J * 6) + I)) ((w 20 0) + ((nI I) * (w 20 4))) ((w 20 1) + ((nI J) * (w 20 4))) 1) (fun j hj => by
        rcases (show j = 0 ∨ j = 1 ∨ j = 2 ∨ j = 3 ∨ j = 4 by omega) with rfl | rfl | rfl | rfl | rfl <;> rfl)
      have hm : mz_set (mz_up (mz_up (mz_up (mz_up (mz_up (mz_set (mz_set b 70 r70) 71 r71) 70 99 (w 21 ((J * 6) + I))) 70 108 (w 22 ((J * 6) + I))) 70 120 ((w 20 0) + ((nI I) * (w 20 4)))) 70 121 ((w 20 1) + ((nI J) * (w 20 4)))) 70 101 1) 71 ge1 = mz_set (mz_set b 70 ((mz_set (mz_up (mz_up (mz_up (mz_up (mz_up (mz_set (mz_set b 70 r70) 71 r71) 70 99 (w 21 ((J * 6) + I))) 70 108 (w 22 ((J * 6) + I))) 70 120 ((w 20 0) + ((nI I) * (w 20 4)))) 70 121 ((w 20 1) + ((nI J) * (w 20 4)))) 70 101 1) 71 ge1) 70)) 71 ((mz_set (mz_up (mz_up (mz_up (mz_up (mz_up (mz_set (mz_set b 70 r70) 71 r71) 70 99 (w 21 ((J * 6) + I))) 70 108 (w 22 ((J * 6) + I))) 70 120 ((w 20 0) + ((nI I) * (w 20 4)))) 70 121 ((w 20 1) + ((nI J) * (w 20 4)))) 70 101 1) 71 ge1) 71) := sm_of2 (fun i h1 h2 => by simp only [mz_set_ne h1, mz_set_ne h2, mz_up_ne h1])
      refine ⟨((mz_set (mz_up (mz_up (mz_up (mz_up (mz_up (mz_set (mz_set b 70 r70) 71 r71) 70 99 (w 21 ((J * 6) + I))) 70 108 (w 22 ((J * 6) + I))) 70 120 ((w 20 0) + ((nI I) * (w 20 4)))) 70 121 ((w 20 1) + ((nI J) * (w 20 4)))) 70 101 1) 71 ge1) 70), ((mz_set (mz_up (mz_up (mz_up (mz_up (mz_up (mz_set (mz_set b 70 r70) 71 r71) 70 99 (w 21 ((J * 6) + I))) 70 108 (w 22 ((J * 6) + I))) 70 120 ((w 20 0) + ((nI I) * (w 20 4)))) 70 121 ((w 20 1) + ((nI J) * (w 20 4)))) 70 101 1) 71 ge1) 71), ?_⟩
      rw [show vq_wt w T2 WW HH I J = sm_ev T2 (w 17) (w 18) (sm_nm (w 21 ((J * 6) + I)) (w 22 ((J * 6) + I)) ((w 20 0) + ((nI I) * (w 20 4))) ((w 20 1) + ((nI J) * (w 20 4))) 1) from (vq_wt1 q2).trans (vq_ew1 (by omega)), ← hm]
      refine ⟨?_, rfl⟩
      refine mz_go 2 (c' := (2, [some (.ref 65), some (.int (nI I)), some (.int (nI J))], [.int 2, .ref 65], mz_set (mz_set b 70 r70) 71 r71)) rfl ?_
      refine mz_do (R := mz_r169) (as := [.ref 65, .int 2]) (rest := []) (r1 := some (.int 1)) (m1 := mz_set (mz_set b 70 r70) 71 r71) rfl ⟨?_, rfl⟩ ?_
      · refine mz_go 8 (c' := (13, [some (.ref 65), some (.int 2)], [.int (b 66 420)], mz_set (mz_set b 70 r70) 71 r71)) rfl ?_
        rw [hU2]
        refine mz_go 1 (c' := (if (nI T2) ≤ 0 then 20 else 16, [some (.ref 65), some (.int 2)], [], mz_set (mz_set b 70 r70) 71 r71)) rfl ?_
        refine mz_ifF (show ¬ ((nI T2) ≤ 0) from (sm_nleN rfl rfl (show 0 < T2 by omega) (show T2 < 2 ^ 31 by omega))) ?_
        refine mz_go 2 (c' := (21, [some (.ref 65), some (.int 2)], [.int 1], mz_set (mz_set b 70 r70) 71 r71)) rfl ?_
        exact mz_ret rfl
      refine mz_go 7 (c' := (19, [some (.ref 65), some (.int (nI I)), some (.int (nI J))], [.int (nI J), .int (nI I), .ref 65, .int 99, .ref 70], mz_set (mz_set b 70 r70) 71 r71)) rfl ?_
      refine mz_do (R := mz_r186) (as := [.ref 65, .int (nI I), .int (nI J)]) (rest := [.int 99, .ref 70]) (r1 := some (.int (w 21 ((J * 6) + I)))) (m1 := mz_set (mz_set b 70 r70) 71 r71) rfl ((vr_colw (w := w) (m := mz_set (mz_set b 70 r70) 71 r71) hbc (A := I) (B := J) (by omega) (by omega) (a := nI I) (b := nI J) rfl rfl).deep (by decide)) ?_
      refine mz_go 13 (c' := (42, [some (.ref 65), some (.int (nI I)), some (.int (nI J))], [.int ((110 + (6 * (nI J))) + (nI I)), .ref 66, .int 108, .ref 70], mz_up (mz_set (mz_set b 70 r70) 71 r71) 70 99 (w 21 ((J * 6) + I)))) rfl ?_
      refine mz_arr (c' := (43, [some (.ref 65), some (.int (nI I)), some (.int (nI J))], [.int (b 66 (((110 + (6 * (nI J))) + (nI I)).toNatClampNeg)), .int 108, .ref 70], mz_up (mz_set (mz_set b 70 r70) 71 r71) 70 99 (w 21 ((J * 6) + I)))) rfl (show mz_in ((110 + (6 * (nI J))) + (nI I)) 650 = true from sm_inN (sm_addN (sm_addN rfl (sm_mulN rfl rfl)) rfl) (show ((110 + (6 * J)) + I) < 650 by omega) (by decide)) ?_
      rw [show ((110 + (6 * (nI J))) + (nI I) : Int32).toNatClampNeg = ((110 + (6 * J)) + I) from sm_clN (sm_addN (sm_addN rfl (sm_mulN rfl rfl)) rfl) (show ((110 + (6 * J)) + I) < 2 ^ 31 by omega)]
      rw [show b 66 ((110 + (6 * J)) + I) = w 22 ((J * 6) + I) from (congrArg (b 66) (show (110 + (6 * J)) + I = 110 + ((J * 6) + I) by omega)).trans (hbl _ (by omega))]
      refine mz_go 8 (c' := (57, [some (.ref 65), some (.int (nI I)), some (.int (nI J))], [.int (b 66 62), .int 120, .ref 70], mz_up (mz_up (mz_set (mz_set b 70 r70) 71 r71) 70 99 (w 21 ((J * 6) + I))) 70 108 (w 22 ((J * 6) + I)))) rfl ?_
      rw [h62]
      refine mz_go 5 (c' := (65, [some (.ref 65), some (.int (nI I)), some (.int (nI J))], [.int (b 66 64), .int (nI I), .int (w 20 0), .int 120, .ref 70], mz_up (mz_up (mz_set (mz_set b 70 r70) 71 r71) 70 99 (w 21 ((J * 6) + I))) 70 108 (w 22 ((J * 6) + I)))) rfl ?_
      rw [h64]
      refine mz_go 10 (c' := (81, [some (.ref 65), some (.int (nI I)), some (.int (nI J))], [.int (b 66 63), .int 121, .ref 70], mz_up (mz_up (mz_up (mz_set (mz_set b 70 r70) 71 r71) 70 99 (w 21 ((J * 6) + I))) 70 108 (w 22 ((J * 6) + I))) 70 120 ((w 20 0) + ((nI I) * (w 20 4))))) rfl ?_
      rw [h63]
      refine mz_go 5 (c' := (89, [some (.ref 65), some (.int (nI I)), some (.int (nI J))], [.int (b 66 64), .int (nI J), .int (w 20 1), .int 121, .ref 70], mz_up (mz_up (mz_up (mz_set (mz_set b 70 r70) 71 r71) 70 99 (w 21 ((J * 6) + I))) 70 108 (w 22 ((J * 6) + I))) 70 120 ((w 20 0) + ((nI I) * (w 20 4))))) rfl ?_
      rw [h64]
      refine mz_go 9 (c' := (101, [some (.ref 65), some (.int (nI I)), some (.int (nI J))], [.int (nI J), .int (nI I), .ref 65, .int 101, .ref 70], mz_up (mz_up (mz_up (mz_up (mz_set (mz_set b 70 r70) 71 r71) 70 99 (w 21 ((J * 6) + I))) 70 108 (w 22 ((J * 6) + I))) 70 120 ((w 20 0) + ((nI I) * (w 20 4)))) 70 121 ((w 20 1) + ((nI J) * (w 20 4))))) rfl ?_
      refine mz_do (R := mz_r196) (as := [.ref 65, .int (nI I), .int (nI J)]) (rest := [.int 101, .ref 70]) (r1 := some (.int (vq_ed (w 21) WW HH I J (w 21 ((J * 6) + I))))) (m1 := mz_up (mz_up (mz_up (mz_up (mz_set (mz_set b 70 r70) 71 r71) 70 99 (w 21 ((J * 6) + I))) 70 108 (w 22 ((J * 6) + I))) 70 120 ((w 20 0) + ((nI I) * (w 20 4)))) 70 121 ((w 20 1) + ((nI J) * (w 20 4)))) rfl ((ve_redg (w := w) (m := mz_up (mz_up (mz_up (mz_up (mz_set (mz_set b 70 r70) 71 r71) 70 99 (w 21 ((J * 6) + I))) 70 108 (w 22 ((J * 6) + I))) 70 120 ((w 20 0) + ((nI I) * (w 20 4)))) 70 121 ((w 20 1) + ((nI J) * (w 20 4)))) hWW hHH hWH h6660 h6661 (I := I) (J := J) (by omega) (by omega) hbc).deep (by decide)) ?_
      refine mz_go 1 (c' := (if (vq_ed (w 21) WW HH I J (w 21 ((J * 6) + I))) = 0 then 111 else 107, [some (.ref 65), some (.int (nI I)), some (.int (nI J))], [.int 101, .ref 70], mz_up (mz_up (mz_up (mz_up (mz_set (mz_set b 70 r70) 71 r71) 70 99 (w 21 ((J * 6) + I))) 70 108 (w 22 ((J * 6) + I))) 70 120 ((w 20 0) + ((nI I) * (w 20 4)))) 70 121 ((w 20 1) + ((nI J) * (w 20 4))))) rfl ?_
      refine mz_ifF q2 ?_
      refine mz_go 5 (c' := (115, [some (.ref 65), some (.int (nI I)), some (.int (nI J))], [.int 2, .ref 65], mz_up (mz_up (mz_up (mz_up (mz_up (mz_set (mz_set b 70 r70) 71 r71) 70 99 (w 21 ((J * 6) + I))) 70 108 (w 22 ((J * 6) + I))) 70 120 ((w 20 0) + ((nI I) * (w 20 4)))) 70 121 ((w 20 1) + ((nI J) * (w 20 4)))) 70 101 1)) rfl ?_
      refine mz_do (R := mz_r173) (as := [.ref 65, .int 2]) (rest := []) (r1 := some (.int (sm_ev T2 (w 17) (w 18) (sm_nm (w 21 ((J * 6) + I)) (w 22 ((J * 6) + I)) ((w 20 0) + ((nI I) * (w 20 4))) ((w 20 1) + ((nI J) * (w 20 4))) 1)))) (m1 := mz_set (mz_up (mz_up (mz_up (mz_up (mz_up (mz_set (mz_set b 70 r70) 71 r71) 70 99 (w 21 ((J * 6) + I))) 70 108 (w 22 ((J * 6) + I))) 70 120 ((w 20 0) + ((nI I) * (w 20 4)))) 70 121 ((w 20 1) + ((nI J) * (w 20 4)))) 70 101 1) 71 ge1) rfl (Ee1.deep (by decide)) ?_
      exact mz_ret rfl
set_option maxHeartbeats 4000000 in
set_option maxRecDepth 100000 in
theorem vr_wak {w b : mz_M} {N : Nat} (hw : sm_W w N) (hN : N ≤ 6) (hr5 : w 7 5 = 1 ∨ w 7 5 = 2) (hr80 : sm_N 80 (w 7 2)) (hr2 : sm_HR w (b 66)) (h6615 : b 66 15 = w 7 5) {WW HH : Nat} (hWW : WW ≤ 6) (hHH : HH ≤ 6) (hWH : WW = 0 ↔ HH = 0) (h6660 : b 66 60 = nI WW) (h6661 : b 66 61 = nI HH) (h62 : b 66 62 = w 20 0) (h63 : b 66 63 = w 20 1) (h64 : b 66 64 = w 20 4) (hbc : ∀ i, i < 36 → b 66 (70 + i) = w 21 i) (hcb : ∀ i, i < 36 → sm_colB (w 21 i)) (hbl : ∀ i, i < 36 → b 66 (110 + i) = w 22 i) {T2 : Nat} (hT2 : w 16 2 = nI T2) (hU2 : b 66 420 = nI T2) (hV2 : T2 = 0 ∨ sm_wf T2 5 (w 17) (w 18)) {xa : Int32} (hW1 : 1 ≤ WW) : ∀ j k : Nat, k + j = (WW * HH) → ∀ (a0 a1 : Int32) (o0 : Option Value) (r70 r71 : Nat → Int32), ∃ (p0 : Option Value), ∃ (s70 : Nat → Int32), ∃ (s71 : Nat → Int32), ∀ r, mz_Ex 100 mz_k204 (122, [some (.ref 65), some (.int xa), some (.int ((vq_fn (fun k s => vq_su (vq_wt w T2 WW HH (k % WW) (k / WW)) ((10 * nI (k % WW)) + nI (k / WW)) s) j k (a0, a1)).2)), some (.int ((vq_fn (fun k s => vq_su (vq_wt w T2 WW HH (k % WW) (k / WW)) ((10 * nI (k % WW)) + nI (k / WW)) s) j k (a0, a1)).1)), some (.int (nI (WW * HH))), p0], [], mz_set (mz_set b 70 s70) 71 s71) r → mz_Ex 100 mz_k204 (40, [some (.ref 65), some (.int xa), some (.int a1), some (.int a0), some (.int (nI k)), o0], [], mz_set (mz_set b 70 r70) 71 r71) r := by
  have hWHm : WW * HH ≤ 6 * 6 := Nat.mul_le_mul hWW hHH
  intro j
  induction j with
  | zero =>
    intro k hk a0 a1 o0 r70 r71
    rw [show k = (WW * HH) by omega]
    exact ⟨o0, r70, r71, fun r hr => by
      refine mz_go 2 (c' := (43, [some (.ref 65), some (.int xa), some (.int a1), some (.int a0), some (.int (nI (WW * HH))), o0], [.ref 65, .int (nI (WW * HH))], mz_set (mz_set b 70 r70) 71 r71)) rfl ?_
      refine mz_do (R := mz_r183) (as := [.ref 65]) (rest := [.int (nI (WW * HH))]) (r1 := some (.int (nI WW))) (m1 := mz_set (mz_set b 70 r70) 71 r71) rfl ⟨?_, rfl⟩ ?_
      · refine mz_go 4 (c' := (7, [some (.ref 65)], [.int (b 66 60)], mz_set (mz_set b 70 r70) 71 r71)) rfl ?_
        rw [h6660]
        exact mz_ret rfl
      refine mz_go 1 (c' := (47, [some (.ref 65), some (.int xa), some (.int a1), some (.int a0), some (.int (nI (WW * HH))), o0], [.ref 65, .int (nI WW), .int (nI (WW * HH))], mz_set (mz_set b 70 r70) 71 r71)) rfl ?_
      refine mz_do (R := mz_r184) (as := [.ref 65]) (rest := [.int (nI WW), .int (nI (WW * HH))]) (r1 := some (.int (nI HH))) (m1 := mz_set (mz_set b 70 r70) 71 r71) rfl ⟨?_, rfl⟩ ?_
      · refine mz_go 4 (c' := (7, [some (.ref 65)], [.int (b 66 61)], mz_set (mz_set b 70 r70) 71 r71)) rfl ?_
        rw [h6661]
        exact mz_ret rfl
      refine mz_go 2 (c' := (if ((nI WW) * (nI HH)) ≤ (nI (WW * HH)) then 122 else 54, [some (.ref 65), some (.int xa), some (.int a1), some (.int a0), some (.int (nI (WW * HH))), o0], [], mz_set (mz_set b 70 r70) 71 r71)) rfl ?_
      refine mz_ifT (show (((nI WW) * (nI HH)) ≤ (nI (WW * HH))) from (sm_leN (sm_mulN rfl rfl) rfl (show (WW * HH) ≤ (WW * HH) by omega) (show (WW * HH) < 2 ^ 31 by omega))) ?_
      exact hr⟩
  | succ j ih =>
    intro k hk a0 a1 o0 r70 r71
    have hdm : k % WW < WW := Nat.mod_lt _ (by omega)
    have hdd : k / WW < HH := Nat.div_lt_of_lt_mul (by omega)
    obtain ⟨s70e1, s71e1, Ee1⟩ := vr_wof hw hN hr5 hr80 hr2 h6615 hWW hHH hWH h6660 h6661 h62 h63 h64 hbc hcb hbl hT2 hU2 hV2 (I := (k % WW)) (J := (k / WW)) (by omega) (by omega) (i := nI (k % WW)) (j := nI (k / WW)) rfl rfl r70 r71
    by_cases q1 : (vq_wt w T2 WW HH (k % WW) (k / WW)) ≤ a0
    · obtain ⟨p0, s70, s71, Er⟩ := ih (k + 1) (by omega) a0 a1 (some (.int (vq_wt w T2 WW HH (k % WW) (k / WW)))) s70e1 s71e1
      refine ⟨p0, s70, s71, fun r hr0 => ?_⟩
      have hst : vq_fn (fun k s => vq_su (vq_wt w T2 WW HH (k % WW) (k / WW)) ((10 * nI (k % WW)) + nI (k / WW)) s) (j + 1) k (a0, a1) = vq_fn (fun k s => vq_su (vq_wt w T2 WW HH (k % WW) (k / WW)) ((10 * nI (k % WW)) + nI (k / WW)) s) j (k + 1) (a0, a1) := vq_fn_in (vq_su0 (Int32.not_lt.mpr q1))
      rw [hst] at hr0
      have hr := Er r hr0
      rw [nI_succ k] at hr
      refine mz_go 2 (c' := (43, [some (.ref 65), some (.int xa), some (.int a1), some (.int a0), some (.int (nI k)), o0], [.ref 65, .int (nI k)], mz_set (mz_set b 70 r70) 71 r71)) rfl ?_
      refine mz_do (R := mz_r183) (as := [.ref 65]) (rest := [.int (nI k)]) (r1 := some (.int (nI WW))) (m1 := mz_set (mz_set b 70 r70) 71 r71) rfl ⟨?_, rfl⟩ ?_
      · refine mz_go 4 (c' := (7, [some (.ref 65)], [.int (b 66 60)], mz_set (mz_set b 70 r70) 71 r71)) rfl ?_
        rw [h6660]
        exact mz_ret rfl
      refine mz_go 1 (c' := (47, [some (.ref 65), some (.int xa), some (.int a1), some (.int a0), some (.int (nI k)), o0], [.ref 65, .int (nI WW), .int (nI k)], mz_set (mz_set b 70 r70) 71 r71)) rfl ?_
      refine mz_do (R := mz_r184) (as := [.ref 65]) (rest := [.int (nI WW), .int (nI k)]) (r1 := some (.int (nI HH))) (m1 := mz_set (mz_set b 70 r70) 71 r71) rfl ⟨?_, rfl⟩ ?_
      · refine mz_go 4 (c' := (7, [some (.ref 65)], [.int (b 66 61)], mz_set (mz_set b 70 r70) 71 r71)) rfl ?_
        rw [h6661]
        exact mz_ret rfl
      refine mz_go 2 (c' := (if ((nI WW) * (nI HH)) ≤ (nI k) then 122 else 54, [some (.ref 65), some (.int xa), some (.int a1), some (.int a0), some (.int (nI k)), o0], [], mz_set (mz_set b 70 r70) 71 r71)) rfl ?_
      refine mz_ifF (show ¬ (((nI WW) * (nI HH)) ≤ (nI k)) from (sm_nleN (sm_mulN rfl rfl) rfl (show k < (WW * HH) by omega) (show (WW * HH) < 2 ^ 31 by omega))) ?_
      refine mz_go 3 (c' := (58, [some (.ref 65), some (.int xa), some (.int a1), some (.int a0), some (.int (nI k)), o0], [.ref 65, .int (nI k), .ref 65], mz_set (mz_set b 70 r70) 71 r71)) rfl ?_
      refine mz_do (R := mz_r183) (as := [.ref 65]) (rest := [.int (nI k), .ref 65]) (r1 := some (.int (nI WW))) (m1 := mz_set (mz_set b 70 r70) 71 r71) rfl ⟨?_, rfl⟩ ?_
      · refine mz_go 4 (c' := (7, [some (.ref 65)], [.int (b 66 60)], mz_set (mz_set b 70 r70) 71 r71)) rfl ?_
        rw [h6660]
        exact mz_ret rfl
      refine mz_div (c' := (62, [some (.ref 65), some (.int xa), some (.int a1), some (.int a0), some (.int (nI k)), o0], [.int ((nI k) - (nI k) / (nI WW) * (nI WW)), .ref 65], mz_set (mz_set b 70 r70) 71 r71)) rfl (sm_nz (k := WW) (by omega)) ?_
      rw [show (nI k) - (nI k) / (nI WW) * (nI WW) = nI (k % WW) from sm_modN (by omega) (by omega)]
      refine mz_go 2 (c' := (65, [some (.ref 65), some (.int xa), some (.int a1), some (.int a0), some (.int (nI k)), o0], [.ref 65, .int (nI k), .int (nI (k % WW)), .ref 65], mz_set (mz_set b 70 r70) 71 r71)) rfl ?_
      refine mz_do (R := mz_r183) (as := [.ref 65]) (rest := [.int (nI k), .int (nI (k % WW)), .ref 65]) (r1 := some (.int (nI WW))) (m1 := mz_set (mz_set b 70 r70) 71 r71) rfl ⟨?_, rfl⟩ ?_
      · refine mz_go 4 (c' := (7, [some (.ref 65)], [.int (b 66 60)], mz_set (mz_set b 70 r70) 71 r71)) rfl ?_
        rw [h6660]
        exact mz_ret rfl
      refine mz_div (c' := (69, [some (.ref 65), some (.int xa), some (.int a1), some (.int a0), some (.int (nI k)), o0], [.int ((nI k) / (nI WW)), .int (nI (k % WW)), .ref 65], mz_set (mz_set b 70 r70) 71 r71)) rfl (sm_nz (k := WW) (by omega)) ?_
      rw [show (nI k) / (nI WW) = nI (k / WW) from sm_divN (by omega) (by omega)]
      refine mz_do (R := mz_r203) (as := [.ref 65, .int (nI (k % WW)), .int (nI (k / WW))]) (rest := []) (r1 := some (.int (vq_wt w T2 WW HH (k % WW) (k / WW)))) (m1 := mz_set (mz_set b 70 s70e1) 71 s71e1) rfl (Ee1.deep (by decide)) ?_
      refine mz_go 4 (c' := (if (vq_wt w T2 WW HH (k % WW) (k / WW)) ≤ a0 then 101 else 80, [some (.ref 65), some (.int xa), some (.int a1), some (.int a0), some (.int (nI k)), some (.int (vq_wt w T2 WW HH (k % WW) (k / WW)))], [], mz_set (mz_set b 70 s70e1) 71 s71e1)) rfl ?_
      refine mz_ifT q1 ?_
      refine mz_go 5 (c' := (if (vq_wt w T2 WW HH (k % WW) (k / WW)) ≤ a0 then 114 else 109, [some (.ref 65), some (.int xa), some (.int a1), some (.int a0), some (.int (nI k)), some (.int (vq_wt w T2 WW HH (k % WW) (k / WW)))], [], mz_set (mz_set b 70 s70e1) 71 s71e1)) rfl ?_
      refine mz_ifT q1 ?_
      refine mz_go 4 (c' := (40, [some (.ref 65), some (.int xa), some (.int a1), some (.int a0), some (.int ((nI k) + 1)), some (.int (vq_wt w T2 WW HH (k % WW) (k / WW)))], [], mz_set (mz_set b 70 s70e1) 71 s71e1)) rfl ?_
      exact hr
    · obtain ⟨p0, s70, s71, Er⟩ := ih (k + 1) (by omega) (vq_wt w T2 WW HH (k % WW) (k / WW)) ((10 * (nI (k % WW))) + (nI (k / WW))) (some (.int (vq_wt w T2 WW HH (k % WW) (k / WW)))) s70e1 s71e1
      refine ⟨p0, s70, s71, fun r hr0 => ?_⟩
      have hst : vq_fn (fun k s => vq_su (vq_wt w T2 WW HH (k % WW) (k / WW)) ((10 * nI (k % WW)) + nI (k / WW)) s) (j + 1) k (a0, a1) = vq_fn (fun k s => vq_su (vq_wt w T2 WW HH (k % WW) (k / WW)) ((10 * nI (k % WW)) + nI (k / WW)) s) j (k + 1) ((vq_wt w T2 WW HH (k % WW) (k / WW)), ((10 * (nI (k % WW))) + (nI (k / WW)))) := vq_fn_in (vq_su1 (Int32.not_le.mp q1))
      rw [hst] at hr0
      have hr := Er r hr0
      rw [nI_succ k] at hr
      refine mz_go 2 (c' := (43, [some (.ref 65), some (.int xa), some (.int a1), some (.int a0), some (.int (nI k)), o0], [.ref 65, .int (nI k)], mz_set (mz_set b 70 r70) 71 r71)) rfl ?_
      refine mz_do (R := mz_r183) (as := [.ref 65]) (rest := [.int (nI k)]) (r1 := some (.int (nI WW))) (m1 := mz_set (mz_set b 70 r70) 71 r71) rfl ⟨?_, rfl⟩ ?_
      · refine mz_go 4 (c' := (7, [some (.ref 65)], [.int (b 66 60)], mz_set (mz_set b 70 r70) 71 r71)) rfl ?_
        rw [h6660]
        exact mz_ret rfl
      refine mz_go 1 (c' := (47, [some (.ref 65), some (.int xa), some (.int a1), some (.int a0), some (.int (nI k)), o0], [.ref 65, .int (nI WW), .int (nI k)], mz_set (mz_set b 70 r70) 71 r71)) rfl ?_
      refine mz_do (R := mz_r184) (as := [.ref 65]) (rest := [.int (nI WW), .int (nI k)]) (r1 := some (.int (nI HH))) (m1 := mz_set (mz_set b 70 r70) 71 r71) rfl ⟨?_, rfl⟩ ?_
      · refine mz_go 4 (c' := (7, [some (.ref 65)], [.int (b 66 61)], mz_set (mz_set b 70 r70) 71 r71)) rfl ?_
        rw [h6661]
        exact mz_ret rfl
      refine mz_go 2 (c' := (if ((nI WW) * (nI HH)) ≤ (nI k) then 122 else 54, [some (.ref 65), some (.int xa), some (.int a1), some (.int a0), some (.int (nI k)), o0], [], mz_set (mz_set b 70 r70) 71 r71)) rfl ?_
      refine mz_ifF (show ¬ (((nI WW) * (nI HH)) ≤ (nI k)) from (sm_nleN (sm_mulN rfl rfl) rfl (show k < (WW * HH) by omega) (show (WW * HH) < 2 ^ 31 by omega))) ?_
      refine mz_go 3 (c' := (58, [some (.ref 65), some (.int xa), some (.int a1), some (.int a0), some (.int (nI k)), o0], [.ref 65, .int (nI k), .ref 65], mz_set (mz_set b 70 r70) 71 r71)) rfl ?_
      refine mz_do (R := mz_r183) (as := [.ref 65]) (rest := [.int (nI k), .ref 65]) (r1 := some (.int (nI WW))) (m1 := mz_set (mz_set b 70 r70) 71 r71) rfl ⟨?_, rfl⟩ ?_
      · refine mz_go 4 (c' := (7, [some (.ref 65)], [.int (b 66 60)], mz_set (mz_set b 70 r70) 71 r71)) rfl ?_
        rw [h6660]
        exact mz_ret rfl
      refine mz_div (c' := (62, [some (.ref 65), some (.int xa), some (.int a1), some (.int a0), some (.int (nI k)), o0], [.int ((nI k) - (nI k) / (nI WW) * (nI WW)), .ref 65], mz_set (mz_set b 70 r70) 71 r71)) rfl (sm_nz (k := WW) (by omega)) ?_
      rw [show (nI k) - (nI k) / (nI WW) * (nI WW) = nI (k % WW) from sm_modN (by omega) (by omega)]
      refine mz_go 2 (c' := (65, [some (.ref 65), some (.int xa), some (.int a1), some (.int a0), some (.int (nI k)), o0], [.ref 65, .int (nI k), .int (nI (k % WW)), .ref 65], mz_set (mz_set b 70 r70) 71 r71)) rfl ?_
      refine mz_do (R := mz_r183) (as := [.ref 65]) (rest := [.int (nI k), .int (nI (k % WW)), .ref 65]) (r1 := some (.int (nI WW))) (m1 := mz_set (mz_set b 70 r70) 71 r71) rfl ⟨?_, rfl⟩ ?_
      · refine mz_go 4 (c' := (7, [some (.ref 65)], [.int (b 66 60)], mz_set (mz_set b 70 r70) 71 r71)) rfl ?_
        rw [h6660]
        exact mz_ret rfl
      refine mz_div (c' := (69, [some (.ref 65), some (.int xa), some (.int a1), some (.int a0), some (.int (nI k)), o0], [.int ((nI k) / (nI WW)), .int (nI (k % WW)), .ref 65], mz_set (mz_set b 70 r70) 71 r71)) rfl (sm_nz (k := WW) (by omega)) ?_
      rw [show (nI k) / (nI WW) = nI (k / WW) from sm_divN (by omega) (by omega)]
      refine mz_do (R := mz_r203) (as := [.ref 65, .int (nI (k % WW)), .int (nI (k / WW))]) (rest := []) (r1 := some (.int (vq_wt w T2 WW HH (k % WW) (k / WW)))) (m1 := mz_set (mz_set b 70 s70e1) 71 s71e1) rfl (Ee1.deep (by decide)) ?_
      refine mz_go 4 (c' := (if (vq_wt w T2 WW HH (k % WW) (k / WW)) ≤ a0 then 101 else 80, [some (.ref 65), some (.int xa), some (.int a1), some (.int a0), some (.int (nI k)), some (.int (vq_wt w T2 WW HH (k % WW) (k / WW)))], [], mz_set (mz_set b 70 s70e1) 71 s71e1)) rfl ?_
      refine mz_ifF q1 ?_
      refine mz_go 3 (c' := (85, [some (.ref 65), some (.int xa), some (.int a1), some (.int a0), some (.int (nI k)), some (.int (vq_wt w T2 WW HH (k % WW) (k / WW)))], [.ref 65, .int (nI k), .int 10], mz_set (mz_set b 70 s70e1) 71 s71e1)) rfl ?_
      refine mz_do (R := mz_r183) (as := [.ref 65]) (rest := [.int (nI k), .int 10]) (r1 := some (.int (nI WW))) (m1 := mz_set (mz_set b 70 s70e1) 71 s71e1) rfl ⟨?_, rfl⟩ ?_
      · refine mz_go 4 (c' := (7, [some (.ref 65)], [.int (b 66 60)], mz_set (mz_set b 70 s70e1) 71 s71e1)) rfl ?_
        rw [h6660]
        exact mz_ret rfl
      refine mz_div (c' := (89, [some (.ref 65), some (.int xa), some (.int a1), some (.int a0), some (.int (nI k)), some (.int (vq_wt w T2 WW HH (k % WW) (k / WW)))], [.int ((nI k) - (nI k) / (nI WW) * (nI WW)), .int 10], mz_set (mz_set b 70 s70e1) 71 s71e1)) rfl (sm_nz (k := WW) (by omega)) ?_
      rw [show (nI k) - (nI k) / (nI WW) * (nI WW) = nI (k % WW) from sm_modN (by omega) (by omega)]
      refine mz_go 3 (c' := (93, [some (.ref 65), some (.int xa), some (.int a1), some (.int a0), some (.int (nI k)), some (.int (vq_wt w T2 WW HH (k % WW) (k / WW)))], [.ref 65, .int (nI k), .int (10 * (nI (k % WW)))], mz_set (mz_set b 70 s70e1) 71 s71e1)) rfl ?_
      refine mz_do (R := mz_r183) (as := [.ref 65]) (rest := [.int (nI k), .int (10 * (nI (k % WW)))]) (r1 := some (.int (nI WW))) (m1 := mz_set (mz_set b 70 s70e1) 71 s71e1) rfl ⟨?_, rfl⟩ ?_
      · refine mz_go 4 (c' := (7, [some (.ref 65)], [.int (b 66 60)], mz_set (mz_set b 70 s70e1) 71 s71e1)) rfl ?_
        rw [h6660]
        exact mz_ret rfl
      refine mz_div (c' := (97, [some (.ref 65), some (.int xa), some (.int a1), some (.int a0), some (.int (nI k)), some (.int (vq_wt w T2 WW HH (k % WW) (k / WW)))], [.int ((nI k) / (nI WW)), .int (10 * (nI (k % WW)))], mz_set (mz_set b 70 s70e1) 71 s71e1)) rfl (sm_nz (k := WW) (by omega)) ?_
      rw [show (nI k) / (nI WW) = nI (k / WW) from sm_divN (by omega) (by omega)]
      refine mz_go 6 (c' := (if (vq_wt w T2 WW HH (k % WW) (k / WW)) ≤ a0 then 114 else 109, [some (.ref 65), some (.int xa), some (.int ((10 * (nI (k % WW))) + (nI (k / WW)))), some (.int a0), some (.int (nI k)), some (.int (vq_wt w T2 WW HH (k % WW) (k / WW)))], [], mz_set (mz_set b 70 s70e1) 71 s71e1)) rfl ?_
      refine mz_ifF q1 ?_
      refine mz_go 5 (c' := (40, [some (.ref 65), some (.int xa), some (.int ((10 * (nI (k % WW))) + (nI (k / WW)))), some (.int (vq_wt w T2 WW HH (k % WW) (k / WW))), some (.int ((nI k) + 1)), some (.int (vq_wt w T2 WW HH (k % WW) (k / WW)))], [], mz_set (mz_set b 70 s70e1) 71 s71e1)) rfl ?_
      exact hr
set_option maxHeartbeats 4000000 in
set_option maxRecDepth 100000 in
theorem sc_want {n : Nat} (hn : n < 64) {w : mz_M} (hI : sm_I n w) (xa : Int32) : ∃ v1 v2 m1 m2, mz_Me 100 mz_r93 [.ref 0, .int xa] w (some (.int v1)) m1 ∧ mz_Me 100 mz_r204 [.ref 65, .int xa] m1 (some (.int v2)) m2 ∧ sm_I (n + 1) m2 ∧ v1 = v2 := by
  have hI2 := hI
  obtain ⟨hn0, ⟨-, ⟨hr80, hr5, hrr⟩, ⟨⟨TT, hTT, h81, h661⟩, htp⟩, ⟨⟨T0, hT0, hU0, hV0, -⟩, ⟨T1, hT1, hU1, hV1, -⟩, ⟨T2, hT2, hU2, hV2, -⟩⟩, ⟨hbx, hby, hbl⟩, ⟨⟨WW, HH, hWW, hHH, hWH, h202, h203, h6660, h6661⟩, h6662, h6663, h6664, hpc⟩, ⟨hth, h66160, hthr⟩, ⟨⟨AA, hAA, h111, h662⟩, h663, hwt⟩⟩, ⟨hsh, hsn⟩, ⟨hcb1, hcb2⟩, ⟨JJ, hJJ, h07, h652, hkept⟩⟩ := hI
  obtain ⟨N, hw, hr2, h660, -, -, h6615⟩ := sm_world hI2
  have hw2 := hw
  obtain ⟨hN, h4, hpb, -, -⟩ := hw2
  have hT60a := sm_T60 hV0
  have hT60b := sm_T60 hV1
  have hT60c := sm_T60 hV2
  obtain ⟨B1, hB1, e571⟩ := sm_Nof (by decide) hcb1
  obtain ⟨B2, hB2, e6519⟩ := sm_Nof (by decide) hcb2
  refine mz_two (fun _ => rfl) (fun _ => rfl) ?_
  by_cases q1 : (sm_bI (sm_in xa 0 1)) = 0
  · refine mz_goP 3 (c' := (3, [some (.ref 0), some (.int xa), none, none, none, none, none, none], [.int 1, .int 0, .int xa], w)) rfl ?_
    refine mz_doP (R := mz_r121) (as := [.int xa, .int 0, .int 1]) (rest := []) (r1 := some (.int (sm_bI (sm_in xa 0 1)))) (m1 := w) rfl ((cs_in (m := w) xa 0 1).deep (by decide)) ?_
    refine mz_goP 1 (c' := (if (sm_bI (sm_in xa 0 1)) = 0 then 9 else 15, [some (.ref 0), some (.int xa), none, none, none, none, none, none], [], w)) rfl ?_
    refine mz_ifTP q1 ?_
    refine mz_goP 2 (c' := (11, [some (.ref 0), some (.int xa), none, none, none, none, none, none], [.int 1, .ref 0], w)) rfl ?_
    refine mz_doP (R := mz_r109) (as := [.ref 0, .int 1]) (rest := []) (r1 := some (.int (-1000001))) (m1 := mz_up w 64 1 ((w 64 1) + 1)) rfl ((cs_err1 (m := w)).deep (by decide)) ?_
    refine mz_retP (r := (some (.int ((-1000001))), mz_up w 64 1 ((w 64 1) + 1))) rfl ⟨(-1000001), rfl, ?_⟩
    refine mz_goP 3 (c' := (3, [some (.ref 65), some (.int xa), none, none, none, none], [.int 1, .int 0, .int xa], mz_up w 64 1 ((w 64 1) + 1))) rfl ?_
    refine mz_doP (R := mz_r128) (as := [.int xa, .int 0, .int 1]) (rest := []) (r1 := some (.int (sm_bI (sm_in xa 0 1)))) (m1 := mz_up w 64 1 ((w 64 1) + 1)) rfl ((ct_in (m := mz_up w 64 1 ((w 64 1) + 1)) xa 0 1).deep (by decide)) ?_
    refine mz_goP 1 (c' := (if (sm_bI (sm_in xa 0 1)) = 0 then 9 else 15, [some (.ref 65), some (.int xa), none, none, none, none], [], mz_up w 64 1 ((w 64 1) + 1))) rfl ?_
    refine mz_ifTP q1 ?_
    refine mz_goP 2 (c' := (11, [some (.ref 65), some (.int xa), none, none, none, none], [.int 1, .ref 65], mz_up w 64 1 ((w 64 1) + 1))) rfl ?_
    refine mz_doP (R := mz_r127) (as := [.ref 65, .int 1]) (rest := []) (r1 := some (.int (-1000001))) (m1 := mz_up (mz_up w 64 1 ((w 64 1) + 1)) 68 1 ((w 68 1) + 1)) rfl ((ct_err1 (m := mz_up w 64 1 ((w 64 1) + 1))).deep (by decide)) ?_
    refine mz_retP (r := (some (.int ((-1000001))), mz_up (mz_up w 64 1 ((w 64 1) + 1)) 68 1 ((w 68 1) + 1))) rfl ⟨(-1000001), rfl, ?_, rfl⟩
    show sm_I (n + 1) (mz_up (mz_up w 64 1 ((w 64 1) + 1)) 68 1 ((w 68 1) + 1))
    exact sm_I_scr hn hI2 (fun i hi => by
      have hne : ∀ r, sm_scr r = true → i ≠ r := fun r hr e => by
        rw [e, hr] at hi
        cases hi
      simp only [mz_up_ne (hne 64 rfl), mz_up_ne (hne 68 rfl)]) rfl rfl
  · by_cases q2 : WW ≤ 0
    · refine mz_goP 3 (c' := (3, [some (.ref 0), some (.int xa), none, none, none, none, none, none], [.int 1, .int 0, .int xa], w)) rfl ?_
      refine mz_doP (R := mz_r121) (as := [.int xa, .int 0, .int 1]) (rest := []) (r1 := some (.int 1)) (m1 := w) rfl ((cs_in1 (m := w) (v := xa) (a := 0) (b := 1) (show ¬ (xa < 0) from (sm_in_lo q1)) (show ¬ (1 < xa) from (sm_in_hi q1))).deep (by decide)) ?_
      refine mz_goP 6 (c' := (24, [some (.ref 0), some (.int xa), some (.ref 20), none, none, none, none, none], [.ref 20], w)) rfl ?_
      refine mz_doP (R := mz_r2) (as := [.ref 20]) (rest := []) (r1 := some (.int 0)) (m1 := w) rfl ⟨?_, rfl⟩ ?_
      · refine mz_go 2 (c' := (4, [some (.ref 20)], [.int (w 20 2)], w)) rfl ?_
        rw [h202]
        refine mz_go 1 (c' := (if (nI WW) ≤ 0 then 18 else 7, [some (.ref 20)], [], w)) rfl ?_
        refine mz_ifT (show ((nI WW) ≤ 0) from (sm_leN rfl rfl (show WW ≤ 0 by omega) (show 0 < 2 ^ 31 by omega))) ?_
        refine mz_go 1 (c' := (19, [some (.ref 20)], [.int 0], w)) rfl ?_
        exact mz_ret rfl
      refine mz_goP 3 (c' := (32, [some (.ref 0), some (.int xa), some (.ref 20), none, none, none, none, none], [.int 2, .ref 0], w)) rfl ?_
      refine mz_doP (R := mz_r109) (as := [.ref 0, .int 2]) (rest := []) (r1 := some (.int (-1000002))) (m1 := mz_up w 64 2 ((w 64 2) + 1)) rfl ((cs_err2 (m := w)).deep (by decide)) ?_
      refine mz_retP (r := (some (.int ((-1000002))), mz_up w 64 2 ((w 64 2) + 1))) rfl ⟨(-1000002), rfl, ?_⟩
      refine mz_goP 3 (c' := (3, [some (.ref 65), some (.int xa), none, none, none, none], [.int 1, .int 0, .int xa], mz_up w 64 2 ((w 64 2) + 1))) rfl ?_
      refine mz_doP (R := mz_r128) (as := [.int xa, .int 0, .int 1]) (rest := []) (r1 := some (.int 1)) (m1 := mz_up w 64 2 ((w 64 2) + 1)) rfl ((ct_in1 (m := mz_up w 64 2 ((w 64 2) + 1)) (v := xa) (a := 0) (b := 1) (show ¬ (xa < 0) from (sm_in_lo q1)) (show ¬ (1 < xa) from (sm_in_hi q1))).deep (by decide)) ?_
      refine mz_goP 2 (c' := (16, [some (.ref 65), some (.int xa), none, none, none, none], [.ref 65], mz_up w 64 2 ((w 64 2) + 1))) rfl ?_
      refine mz_doP (R := mz_r185) (as := [.ref 65]) (rest := []) (r1 := some (.int 0)) (m1 := mz_up w 64 2 ((w 64 2) + 1)) rfl ⟨?_, rfl⟩ ?_
      · refine mz_go 1 (c' := (1, [some (.ref 65)], [.ref 65], mz_up w 64 2 ((w 64 2) + 1))) rfl ?_
        refine mz_do (R := mz_r183) (as := [.ref 65]) (rest := []) (r1 := some (.int (nI WW))) (m1 := mz_up w 64 2 ((w 64 2) + 1)) rfl ⟨?_, rfl⟩ ?_
        · refine mz_go 4 (c' := (7, [some (.ref 65)], [.int (w 66 60)], mz_up w 64 2 ((w 64 2) + 1))) rfl ?_
          rw [h6660]
          exact mz_ret rfl
        refine mz_go 1 (c' := (if (nI WW) ≤ 0 then 11 else 7, [some (.ref 65)], [], mz_up w 64 2 ((w 64 2) + 1))) rfl ?_
        refine mz_ifT (show ((nI WW) ≤ 0) from (sm_leN rfl rfl (show WW ≤ 0 by omega) (show 0 < 2 ^ 31 by omega))) ?_
        refine mz_go 1 (c' := (12, [some (.ref 65)], [.int 0], mz_up w 64 2 ((w 64 2) + 1))) rfl ?_
        exact mz_ret rfl
      refine mz_goP 3 (c' := (24, [some (.ref 65), some (.int xa), none, none, none, none], [.int 2, .ref 65], mz_up w 64 2 ((w 64 2) + 1))) rfl ?_
      refine mz_doP (R := mz_r127) (as := [.ref 65, .int 2]) (rest := []) (r1 := some (.int (-1000002))) (m1 := mz_up (mz_up w 64 2 ((w 64 2) + 1)) 68 2 ((w 68 2) + 1)) rfl ((ct_err2 (m := mz_up w 64 2 ((w 64 2) + 1))).deep (by decide)) ?_
      refine mz_retP (r := (some (.int ((-1000002))), mz_up (mz_up w 64 2 ((w 64 2) + 1)) 68 2 ((w 68 2) + 1))) rfl ⟨(-1000002), rfl, ?_, rfl⟩
      show sm_I (n + 1) (mz_up (mz_up w 64 2 ((w 64 2) + 1)) 68 2 ((w 68 2) + 1))
      exact sm_I_scr hn hI2 (fun i hi => by
        have hne : ∀ r, sm_scr r = true → i ≠ r := fun r hr e => by
          rw [e, hr] at hi
          cases hi
        simp only [mz_up_ne (hne 64 rfl), mz_up_ne (hne 68 rfl)]) rfl rfl
    · by_cases q3 : xa = 0
      · subst q3
        refine mz_goP 3 (c' := (3, [some (.ref 0), some (.int 0), none, none, none, none, none, none], [.int 1, .int 0, .int 0], w)) rfl ?_
        refine mz_doP (R := mz_r121) (as := [.int 0, .int 0, .int 1]) (rest := []) (r1 := some (.int 1)) (m1 := w) rfl ((cs_in1 (m := w) (v := 0) (a := 0) (b := 1) (by decide) (by decide)).deep (by decide)) ?_
        refine mz_goP 6 (c' := (24, [some (.ref 0), some (.int 0), some (.ref 20), none, none, none, none, none], [.ref 20], w)) rfl ?_
        refine mz_doP (R := mz_r2) (as := [.ref 20]) (rest := []) (r1 := some (.int 1)) (m1 := w) rfl ⟨?_, rfl⟩ ?_
        · refine mz_go 2 (c' := (4, [some (.ref 20)], [.int (w 20 2)], w)) rfl ?_
          rw [h202]
          refine mz_go 1 (c' := (if (nI WW) ≤ 0 then 18 else 7, [some (.ref 20)], [], w)) rfl ?_
          refine mz_ifF (show ¬ ((nI WW) ≤ 0) from (sm_nleN rfl rfl (show 0 < WW by omega) (show WW < 2 ^ 31 by omega))) ?_
          refine mz_go 2 (c' := (11, [some (.ref 20)], [.int (w 20 3)], w)) rfl ?_
          rw [h203]
          refine mz_go 1 (c' := (if (nI HH) ≤ 0 then 18 else 14, [some (.ref 20)], [], w)) rfl ?_
          refine mz_ifF (show ¬ ((nI HH) ≤ 0) from (sm_nleN rfl rfl (show 0 < HH by omega) (show HH < 2 ^ 31 by omega))) ?_
          refine mz_go 2 (c' := (19, [some (.ref 20)], [.int 1], w)) rfl ?_
          exact mz_ret rfl
        refine mz_goP 5 (c' := (42, [some (.ref 0), some (.int 0), some (.ref 20), none, none, none, none, none], [.int 0, .int 0, .ref 49], w)) rfl ?_
        obtain ⟨s51e1, s52e1, Ee1⟩ := vc_wof hWW hHH h202 h203 hT2 hV2 (I := 0) (J := 0) (by omega) (by omega) (i := 0) (j := 0) rfl rfl (w 51) (w 52)
        rw [show mz_set (mz_set w 51 (w 51)) 52 (w 52) = w from by rw [sm_id, sm_id]] at Ee1
        refine mz_doP (R := mz_r44) (as := [.ref 49, .int 0, .int 0]) (rest := []) (r1 := some (.int (vq_wt w T2 WW HH 0 0))) (m1 := mz_set (mz_set w 51 s51e1) 52 s52e1) rfl (Ee1.deep (by decide)) ?_
        refine mz_goP 5 (c' := (52, [some (.ref 0), some (.int 0), some (.ref 20), some (.int (vq_wt w T2 WW HH 0 0)), some (.int 0), some (.int 0), none, none], [], mz_set (mz_set w 51 s51e1) 52 s52e1)) rfl ?_
        obtain ⟨py2, ppy2, s51y2, s52y2, Ey2⟩ := vc_waj hWW hHH h202 h203 hT2 hV2 (xa := 0) HH 0 (by omega) (vq_wt w T2 WW HH 0 0) 0 none none s51e1 s52e1
        refine mz_hkP Ey2 ?_
        refine mz_goP 4 (c' := (127, [some (.ref 0), some (.int 0), some (.ref 20), some (.int ((vq_fn (fun j s => vq_fn (fun i s => vq_su (vq_wt w T2 WW HH i j) ((10 * nI i) + nI j) s) WW 0 s) HH 0 (vq_wt w T2 WW HH 0 0, 0)).1)), some (.int ((vq_fn (fun j s => vq_fn (fun i s => vq_su (vq_wt w T2 WW HH i j) ((10 * nI i) + nI j) s) WW 0 s) HH 0 (vq_wt w T2 WW HH 0 0, 0)).2)), some (.int (nI HH)), py2, ppy2], [.int ((vq_fn (fun j s => vq_fn (fun i s => vq_su (vq_wt w T2 WW HH i j) ((10 * nI i) + nI j) s) WW 0 s) HH 0 (vq_wt w T2 WW HH 0 0, 0)).2)], mz_set (mz_set w 51 s51y2) 52 s52y2)) rfl ?_
        refine mz_retP (r := (some (.int ((vq_fn (fun j s => vq_fn (fun i s => vq_su (vq_wt w T2 WW HH i j) ((10 * nI i) + nI j) s) WW 0 s) HH 0 (vq_wt w T2 WW HH 0 0, 0)).2)), mz_set (mz_set w 51 s51y2) 52 s52y2)) rfl ⟨(vq_fn (fun j s => vq_fn (fun i s => vq_su (vq_wt w T2 WW HH i j) ((10 * nI i) + nI j) s) WW 0 s) HH 0 (vq_wt w T2 WW HH 0 0, 0)).2, rfl, ?_⟩
        refine mz_goP 3 (c' := (3, [some (.ref 65), some (.int 0), none, none, none, none], [.int 1, .int 0, .int 0], mz_set (mz_set w 51 s51y2) 52 s52y2)) rfl ?_
        refine mz_doP (R := mz_r128) (as := [.int 0, .int 0, .int 1]) (rest := []) (r1 := some (.int 1)) (m1 := mz_set (mz_set w 51 s51y2) 52 s52y2) rfl ((ct_in1 (m := mz_set (mz_set w 51 s51y2) 52 s52y2) (v := 0) (a := 0) (b := 1) (by decide) (by decide)).deep (by decide)) ?_
        refine mz_goP 2 (c' := (16, [some (.ref 65), some (.int 0), none, none, none, none], [.ref 65], mz_set (mz_set w 51 s51y2) 52 s52y2)) rfl ?_
        refine mz_doP (R := mz_r185) (as := [.ref 65]) (rest := []) (r1 := some (.int 1)) (m1 := mz_set (mz_set w 51 s51y2) 52 s52y2) rfl ⟨?_, rfl⟩ ?_
        · refine mz_go 1 (c' := (1, [some (.ref 65)], [.ref 65], mz_set (mz_set w 51 s51y2) 52 s52y2)) rfl ?_
          refine mz_do (R := mz_r183) (as := [.ref 65]) (rest := []) (r1 := some (.int (nI WW))) (m1 := mz_set (mz_set w 51 s51y2) 52 s52y2) rfl ⟨?_, rfl⟩ ?_
          · refine mz_go 4 (c' := (7, [some (.ref 65)], [.int (w 66 60)], mz_set (mz_set w 51 s51y2) 52 s52y2)) rfl ?_
            rw [h6660]
            exact mz_ret rfl
          refine mz_go 1 (c' := (if (nI WW) ≤ 0 then 11 else 7, [some (.ref 65)], [], mz_set (mz_set w 51 s51y2) 52 s52y2)) rfl ?_
          refine mz_ifF (show ¬ ((nI WW) ≤ 0) from (sm_nleN rfl rfl (show 0 < WW by omega) (show WW < 2 ^ 31 by omega))) ?_
          refine mz_go 2 (c' := (12, [some (.ref 65)], [.int 1], mz_set (mz_set w 51 s51y2) 52 s52y2)) rfl ?_
          exact mz_ret rfl
        refine mz_goP 6 (c' := (33, [some (.ref 65), some (.int 0), some (.int 0), none, none, none], [.int 0, .int 0, .ref 65], mz_set (mz_set w 51 s51y2) 52 s52y2)) rfl ?_
        obtain ⟨s70e3, s71e3, Ee3⟩ := vr_wof (w := w) (b := mz_set (mz_set w 51 s51y2) 52 s52y2) hw hN hr5 hr80 (show sm_HR w ((mz_set (mz_set w 51 s51y2) 52 s52y2) 66) from hr2) h6615 hWW hHH hWH h6660 h6661 h6662 h6663 h6664 (fun i hi => (hpc i hi).2.1) (fun i hi => (hpc i hi).1) (fun i hi => (hpc i hi).2.2) hT2 hU2 hV2 (I := 0) (J := 0) (by omega) (by omega) (i := 0) (j := 0) rfl rfl ((mz_set (mz_set w 51 s51y2) 52 s52y2) 70) ((mz_set (mz_set w 51 s51y2) 52 s52y2) 71)
        rw [show mz_set (mz_set (mz_set (mz_set w 51 s51y2) 52 s52y2) 70 ((mz_set (mz_set w 51 s51y2) 52 s52y2) 70)) 71 ((mz_set (mz_set w 51 s51y2) 52 s52y2) 71) = mz_set (mz_set w 51 s51y2) 52 s52y2 from by rw [sm_id, sm_id]] at Ee3
        refine mz_doP (R := mz_r203) (as := [.ref 65, .int 0, .int 0]) (rest := []) (r1 := some (.int (vq_wt w T2 WW HH 0 0))) (m1 := mz_set (mz_set (mz_set (mz_set w 51 s51y2) 52 s52y2) 70 s70e3) 71 s71e3) rfl (Ee3.deep (by decide)) ?_
        refine mz_goP 3 (c' := (40, [some (.ref 65), some (.int 0), some (.int 0), some (.int (vq_wt w T2 WW HH 0 0)), some (.int 1), none], [], mz_set (mz_set (mz_set (mz_set w 51 s51y2) 52 s52y2) 70 s70e3) 71 s71e3)) rfl ?_
        have hWHp : 0 < WW * HH := Nat.mul_pos (by omega) (by omega)
        obtain ⟨py4, s70y4, s71y4, Ey4⟩ := vr_wak (w := w) (b := mz_set (mz_set w 51 s51y2) 52 s52y2) hw hN hr5 hr80 (show sm_HR w ((mz_set (mz_set w 51 s51y2) 52 s52y2) 66) from hr2) h6615 hWW hHH hWH h6660 h6661 h6662 h6663 h6664 (fun i hi => (hpc i hi).2.1) (fun i hi => (hpc i hi).1) (fun i hi => (hpc i hi).2.2) hT2 hU2 hV2 (xa := 0) (by omega) (WW * HH - 1) 1 (by omega) (vq_wt w T2 WW HH 0 0) 0 none s70e3 s71e3
        rw [show vq_fn (fun k s => vq_su (vq_wt w T2 WW HH (k % WW) (k / WW)) ((10 * nI (k % WW)) + nI (k / WW)) s) (WW * HH - 1) 1 (vq_wt w T2 WW HH 0 0, 0) = vq_fn (fun j s => vq_fn (fun i s => vq_su (vq_wt w T2 WW HH i j) ((10 * nI i) + nI j) s) WW 0 s) HH 0 (vq_wt w T2 WW HH 0 0, 0) from vq_wants (F := fun i j => vq_wt w T2 WW HH i j) (by omega) (by omega)] at Ey4
        refine mz_hkP Ey4 ?_
        refine mz_goP 4 (c' := (131, [some (.ref 65), some (.int 0), some (.int ((vq_fn (fun j s => vq_fn (fun i s => vq_su (vq_wt w T2 WW HH i j) ((10 * nI i) + nI j) s) WW 0 s) HH 0 (vq_wt w T2 WW HH 0 0, 0)).2)), some (.int ((vq_fn (fun j s => vq_fn (fun i s => vq_su (vq_wt w T2 WW HH i j) ((10 * nI i) + nI j) s) WW 0 s) HH 0 (vq_wt w T2 WW HH 0 0, 0)).1)), some (.int (nI (WW * HH))), py4], [.int ((vq_fn (fun j s => vq_fn (fun i s => vq_su (vq_wt w T2 WW HH i j) ((10 * nI i) + nI j) s) WW 0 s) HH 0 (vq_wt w T2 WW HH 0 0, 0)).2)], mz_set (mz_set (mz_set (mz_set w 51 s51y2) 52 s52y2) 70 s70y4) 71 s71y4)) rfl ?_
        refine mz_retP (r := (some (.int ((vq_fn (fun j s => vq_fn (fun i s => vq_su (vq_wt w T2 WW HH i j) ((10 * nI i) + nI j) s) WW 0 s) HH 0 (vq_wt w T2 WW HH 0 0, 0)).2)), mz_set (mz_set (mz_set (mz_set w 51 s51y2) 52 s52y2) 70 s70y4) 71 s71y4)) rfl ⟨(vq_fn (fun j s => vq_fn (fun i s => vq_su (vq_wt w T2 WW HH i j) ((10 * nI i) + nI j) s) WW 0 s) HH 0 (vq_wt w T2 WW HH 0 0, 0)).2, rfl, ?_, rfl⟩
        show sm_I (n + 1) (mz_set (mz_set (mz_set (mz_set w 51 s51y2) 52 s52y2) 70 s70y4) 71 s71y4)
        exact sm_I_scr hn hI2 (fun i hi => by
          have hne : ∀ r, sm_scr r = true → i ≠ r := fun r hr e => by
            rw [e, hr] at hi
            cases hi
          simp only [mz_set_ne (hne 51 rfl), mz_set_ne (hne 52 rfl), mz_set_ne (hne 70 rfl), mz_set_ne (hne 71 rfl)]) rfl rfl
      · refine mz_goP 3 (c' := (3, [some (.ref 0), some (.int xa), none, none, none, none, none, none], [.int 1, .int 0, .int xa], w)) rfl ?_
        refine mz_doP (R := mz_r121) (as := [.int xa, .int 0, .int 1]) (rest := []) (r1 := some (.int 1)) (m1 := w) rfl ((cs_in1 (m := w) (v := xa) (a := 0) (b := 1) (show ¬ (xa < 0) from (sm_in_lo q1)) (show ¬ (1 < xa) from (sm_in_hi q1))).deep (by decide)) ?_
        refine mz_goP 6 (c' := (24, [some (.ref 0), some (.int xa), some (.ref 20), none, none, none, none, none], [.ref 20], w)) rfl ?_
        refine mz_doP (R := mz_r2) (as := [.ref 20]) (rest := []) (r1 := some (.int 1)) (m1 := w) rfl ⟨?_, rfl⟩ ?_
        · refine mz_go 2 (c' := (4, [some (.ref 20)], [.int (w 20 2)], w)) rfl ?_
          rw [h202]
          refine mz_go 1 (c' := (if (nI WW) ≤ 0 then 18 else 7, [some (.ref 20)], [], w)) rfl ?_
          refine mz_ifF (show ¬ ((nI WW) ≤ 0) from (sm_nleN rfl rfl (show 0 < WW by omega) (show WW < 2 ^ 31 by omega))) ?_
          refine mz_go 2 (c' := (11, [some (.ref 20)], [.int (w 20 3)], w)) rfl ?_
          rw [h203]
          refine mz_go 1 (c' := (if (nI HH) ≤ 0 then 18 else 14, [some (.ref 20)], [], w)) rfl ?_
          refine mz_ifF (show ¬ ((nI HH) ≤ 0) from (sm_nleN rfl rfl (show 0 < HH by omega) (show HH < 2 ^ 31 by omega))) ?_
          refine mz_go 2 (c' := (19, [some (.ref 20)], [.int 1], w)) rfl ?_
          exact mz_ret rfl
        refine mz_goP 5 (c' := (42, [some (.ref 0), some (.int xa), some (.ref 20), none, none, none, none, none], [.int 0, .int 0, .ref 49], w)) rfl ?_
        obtain ⟨s51e1, s52e1, Ee1⟩ := vc_wof hWW hHH h202 h203 hT2 hV2 (I := 0) (J := 0) (by omega) (by omega) (i := 0) (j := 0) rfl rfl (w 51) (w 52)
        rw [show mz_set (mz_set w 51 (w 51)) 52 (w 52) = w from by rw [sm_id, sm_id]] at Ee1
        refine mz_doP (R := mz_r44) (as := [.ref 49, .int 0, .int 0]) (rest := []) (r1 := some (.int (vq_wt w T2 WW HH 0 0))) (m1 := mz_set (mz_set w 51 s51e1) 52 s52e1) rfl (Ee1.deep (by decide)) ?_
        refine mz_goP 5 (c' := (52, [some (.ref 0), some (.int xa), some (.ref 20), some (.int (vq_wt w T2 WW HH 0 0)), some (.int 0), some (.int 0), none, none], [], mz_set (mz_set w 51 s51e1) 52 s52e1)) rfl ?_
        obtain ⟨py2, ppy2, s51y2, s52y2, Ey2⟩ := vc_waj hWW hHH h202 h203 hT2 hV2 (xa := xa) HH 0 (by omega) (vq_wt w T2 WW HH 0 0) 0 none none s51e1 s52e1
        refine mz_hkP Ey2 ?_
        refine mz_goP 2 (c' := (if xa = 0 then 121 else 126, [some (.ref 0), some (.int xa), some (.ref 20), some (.int ((vq_fn (fun j s => vq_fn (fun i s => vq_su (vq_wt w T2 WW HH i j) ((10 * nI i) + nI j) s) WW 0 s) HH 0 (vq_wt w T2 WW HH 0 0, 0)).1)), some (.int ((vq_fn (fun j s => vq_fn (fun i s => vq_su (vq_wt w T2 WW HH i j) ((10 * nI i) + nI j) s) WW 0 s) HH 0 (vq_wt w T2 WW HH 0 0, 0)).2)), some (.int (nI HH)), py2, ppy2], [], mz_set (mz_set w 51 s51y2) 52 s52y2)) rfl ?_
        refine mz_ifFP q3 ?_
        refine mz_goP 1 (c' := (127, [some (.ref 0), some (.int xa), some (.ref 20), some (.int ((vq_fn (fun j s => vq_fn (fun i s => vq_su (vq_wt w T2 WW HH i j) ((10 * nI i) + nI j) s) WW 0 s) HH 0 (vq_wt w T2 WW HH 0 0, 0)).1)), some (.int ((vq_fn (fun j s => vq_fn (fun i s => vq_su (vq_wt w T2 WW HH i j) ((10 * nI i) + nI j) s) WW 0 s) HH 0 (vq_wt w T2 WW HH 0 0, 0)).2)), some (.int (nI HH)), py2, ppy2], [.int ((vq_fn (fun j s => vq_fn (fun i s => vq_su (vq_wt w T2 WW HH i j) ((10 * nI i) + nI j) s) WW 0 s) HH 0 (vq_wt w T2 WW HH 0 0, 0)).1)], mz_set (mz_set w 51 s51y2) 52 s52y2)) rfl ?_
        refine mz_retP (r := (some (.int ((vq_fn (fun j s => vq_fn (fun i s => vq_su (vq_wt w T2 WW HH i j) ((10 * nI i) + nI j) s) WW 0 s) HH 0 (vq_wt w T2 WW HH 0 0, 0)).1)), mz_set (mz_set w 51 s51y2) 52 s52y2)) rfl ⟨(vq_fn (fun j s => vq_fn (fun i s => vq_su (vq_wt w T2 WW HH i j) ((10 * nI i) + nI j) s) WW 0 s) HH 0 (vq_wt w T2 WW HH 0 0, 0)).1, rfl, ?_⟩
        refine mz_goP 3 (c' := (3, [some (.ref 65), some (.int xa), none, none, none, none], [.int 1, .int 0, .int xa], mz_set (mz_set w 51 s51y2) 52 s52y2)) rfl ?_
        refine mz_doP (R := mz_r128) (as := [.int xa, .int 0, .int 1]) (rest := []) (r1 := some (.int 1)) (m1 := mz_set (mz_set w 51 s51y2) 52 s52y2) rfl ((ct_in1 (m := mz_set (mz_set w 51 s51y2) 52 s52y2) (v := xa) (a := 0) (b := 1) (show ¬ (xa < 0) from (sm_in_lo q1)) (show ¬ (1 < xa) from (sm_in_hi q1))).deep (by decide)) ?_
        refine mz_goP 2 (c' := (16, [some (.ref 65), some (.int xa), none, none, none, none], [.ref 65], mz_set (mz_set w 51 s51y2) 52 s52y2)) rfl ?_
        refine mz_doP (R := mz_r185) (as := [.ref 65]) (rest := []) (r1 := some (.int 1)) (m1 := mz_set (mz_set w 51 s51y2) 52 s52y2) rfl ⟨?_, rfl⟩ ?_
        · refine mz_go 1 (c' := (1, [some (.ref 65)], [.ref 65], mz_set (mz_set w 51 s51y2) 52 s52y2)) rfl ?_
          refine mz_do (R := mz_r183) (as := [.ref 65]) (rest := []) (r1 := some (.int (nI WW))) (m1 := mz_set (mz_set w 51 s51y2) 52 s52y2) rfl ⟨?_, rfl⟩ ?_
          · refine mz_go 4 (c' := (7, [some (.ref 65)], [.int (w 66 60)], mz_set (mz_set w 51 s51y2) 52 s52y2)) rfl ?_
            rw [h6660]
            exact mz_ret rfl
          refine mz_go 1 (c' := (if (nI WW) ≤ 0 then 11 else 7, [some (.ref 65)], [], mz_set (mz_set w 51 s51y2) 52 s52y2)) rfl ?_
          refine mz_ifF (show ¬ ((nI WW) ≤ 0) from (sm_nleN rfl rfl (show 0 < WW by omega) (show WW < 2 ^ 31 by omega))) ?_
          refine mz_go 2 (c' := (12, [some (.ref 65)], [.int 1], mz_set (mz_set w 51 s51y2) 52 s52y2)) rfl ?_
          exact mz_ret rfl
        refine mz_goP 6 (c' := (33, [some (.ref 65), some (.int xa), some (.int 0), none, none, none], [.int 0, .int 0, .ref 65], mz_set (mz_set w 51 s51y2) 52 s52y2)) rfl ?_
        obtain ⟨s70e3, s71e3, Ee3⟩ := vr_wof (w := w) (b := mz_set (mz_set w 51 s51y2) 52 s52y2) hw hN hr5 hr80 (show sm_HR w ((mz_set (mz_set w 51 s51y2) 52 s52y2) 66) from hr2) h6615 hWW hHH hWH h6660 h6661 h6662 h6663 h6664 (fun i hi => (hpc i hi).2.1) (fun i hi => (hpc i hi).1) (fun i hi => (hpc i hi).2.2) hT2 hU2 hV2 (I := 0) (J := 0) (by omega) (by omega) (i := 0) (j := 0) rfl rfl ((mz_set (mz_set w 51 s51y2) 52 s52y2) 70) ((mz_set (mz_set w 51 s51y2) 52 s52y2) 71)
        rw [show mz_set (mz_set (mz_set (mz_set w 51 s51y2) 52 s52y2) 70 ((mz_set (mz_set w 51 s51y2) 52 s52y2) 70)) 71 ((mz_set (mz_set w 51 s51y2) 52 s52y2) 71) = mz_set (mz_set w 51 s51y2) 52 s52y2 from by rw [sm_id, sm_id]] at Ee3
        refine mz_doP (R := mz_r203) (as := [.ref 65, .int 0, .int 0]) (rest := []) (r1 := some (.int (vq_wt w T2 WW HH 0 0))) (m1 := mz_set (mz_set (mz_set (mz_set w 51 s51y2) 52 s52y2) 70 s70e3) 71 s71e3) rfl (Ee3.deep (by decide)) ?_
        refine mz_goP 3 (c' := (40, [some (.ref 65), some (.int xa), some (.int 0), some (.int (vq_wt w T2 WW HH 0 0)), some (.int 1), none], [], mz_set (mz_set (mz_set (mz_set w 51 s51y2) 52 s52y2) 70 s70e3) 71 s71e3)) rfl ?_
        have hWHp : 0 < WW * HH := Nat.mul_pos (by omega) (by omega)
        obtain ⟨py4, s70y4, s71y4, Ey4⟩ := vr_wak (w := w) (b := mz_set (mz_set w 51 s51y2) 52 s52y2) hw hN hr5 hr80 (show sm_HR w ((mz_set (mz_set w 51 s51y2) 52 s52y2) 66) from hr2) h6615 hWW hHH hWH h6660 h6661 h6662 h6663 h6664 (fun i hi => (hpc i hi).2.1) (fun i hi => (hpc i hi).1) (fun i hi => (hpc i hi).2.2) hT2 hU2 hV2 (xa := xa) (by omega) (WW * HH - 1) 1 (by omega) (vq_wt w T2 WW HH 0 0) 0 none s70e3 s71e3
        rw [show vq_fn (fun k s => vq_su (vq_wt w T2 WW HH (k % WW) (k / WW)) ((10 * nI (k % WW)) + nI (k / WW)) s) (WW * HH - 1) 1 (vq_wt w T2 WW HH 0 0, 0) = vq_fn (fun j s => vq_fn (fun i s => vq_su (vq_wt w T2 WW HH i j) ((10 * nI i) + nI j) s) WW 0 s) HH 0 (vq_wt w T2 WW HH 0 0, 0) from vq_wants (F := fun i j => vq_wt w T2 WW HH i j) (by omega) (by omega)] at Ey4
        refine mz_hkP Ey4 ?_
        refine mz_goP 2 (c' := (if xa = 0 then 126 else 130, [some (.ref 65), some (.int xa), some (.int ((vq_fn (fun j s => vq_fn (fun i s => vq_su (vq_wt w T2 WW HH i j) ((10 * nI i) + nI j) s) WW 0 s) HH 0 (vq_wt w T2 WW HH 0 0, 0)).2)), some (.int ((vq_fn (fun j s => vq_fn (fun i s => vq_su (vq_wt w T2 WW HH i j) ((10 * nI i) + nI j) s) WW 0 s) HH 0 (vq_wt w T2 WW HH 0 0, 0)).1)), some (.int (nI (WW * HH))), py4], [], mz_set (mz_set (mz_set (mz_set w 51 s51y2) 52 s52y2) 70 s70y4) 71 s71y4)) rfl ?_
        refine mz_ifFP q3 ?_
        refine mz_goP 1 (c' := (131, [some (.ref 65), some (.int xa), some (.int ((vq_fn (fun j s => vq_fn (fun i s => vq_su (vq_wt w T2 WW HH i j) ((10 * nI i) + nI j) s) WW 0 s) HH 0 (vq_wt w T2 WW HH 0 0, 0)).2)), some (.int ((vq_fn (fun j s => vq_fn (fun i s => vq_su (vq_wt w T2 WW HH i j) ((10 * nI i) + nI j) s) WW 0 s) HH 0 (vq_wt w T2 WW HH 0 0, 0)).1)), some (.int (nI (WW * HH))), py4], [.int ((vq_fn (fun j s => vq_fn (fun i s => vq_su (vq_wt w T2 WW HH i j) ((10 * nI i) + nI j) s) WW 0 s) HH 0 (vq_wt w T2 WW HH 0 0, 0)).1)], mz_set (mz_set (mz_set (mz_set w 51 s51y2) 52 s52y2) 70 s70y4) 71 s71y4)) rfl ?_
        refine mz_retP (r := (some (.int ((vq_fn (fun j s => vq_fn (fun i s => vq_su (vq_wt w T2 WW HH i j) ((10 * nI i) + nI j) s) WW 0 s) HH 0 (vq_wt w T2 WW HH 0 0, 0)).1)), mz_set (mz_set (mz_set (mz_set w 51 s51y2) 52 s52y2) 70 s70y4) 71 s71y4)) rfl ⟨(vq_fn (fun j s => vq_fn (fun i s => vq_su (vq_wt w T2 WW HH i j) ((10 * nI i) + nI j) s) WW 0 s) HH 0 (vq_wt w T2 WW HH 0 0, 0)).1, rfl, ?_, rfl⟩
        show sm_I (n + 1) (mz_set (mz_set (mz_set (mz_set w 51 s51y2) 52 s52y2) 70 s70y4) 71 s71y4)
        exact sm_I_scr hn hI2 (fun i hi => by
          have hne : ∀ r, sm_scr r = true → i ≠ r := fun r hr e => by
            rw [e, hr] at hi
            cases hi
          simp only [mz_set_ne (hne 51 rfl), mz_set_ne (hne 52 rfl), mz_set_ne (hne 70 rfl), mz_set_ne (hne 71 rfl)]) rfl rfl
