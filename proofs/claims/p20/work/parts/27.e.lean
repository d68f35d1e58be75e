/-! pictures taken -/
theorem sm_of4 {m m' : mz_M} {a b c d : Nat} (h : ∀ i, i ≠ a → i ≠ b → i ≠ c → i ≠ d → m' i = m i) : m' = mz_set (mz_set (mz_set (mz_set m a (m' a)) b (m' b)) c (m' c)) d (m' d) := by
  funext i
  by_cases h1 : i = d
  · subst h1
    exact mz_set_eq.symm
  · rw [mz_set_ne h1]
    by_cases h2 : i = c
    · subst h2
      exact mz_set_eq.symm
    · rw [mz_set_ne h2]
      by_cases h3 : i = b
      · subst h3
        exact mz_set_eq.symm
      · rw [mz_set_ne h3]
        by_cases h4 : i = a
        · subst h4
          exact mz_set_eq.symm
        · rw [mz_set_ne h4, h i h4 h3 h2 h1]
theorem sm_of5 {m m' : mz_M} {a b c d e : Nat} (h : ∀ i, i ≠ a → i ≠ b → i ≠ c → i ≠ d → i ≠ e → m' i = m i) : m' = mz_set (mz_set (mz_set (mz_set (mz_set m a (m' a)) b (m' b)) c (m' c)) d (m' d)) e (m' e) := by
  funext i
  by_cases h1 : i = e
  · subst h1
    exact mz_set_eq.symm
  · rw [mz_set_ne h1]
    by_cases h2 : i = d
    · subst h2
      exact mz_set_eq.symm
    · rw [mz_set_ne h2]
      by_cases h3 : i = c
      · subst h3
        exact mz_set_eq.symm
      · rw [mz_set_ne h3]
        by_cases h4 : i = b
        · subst h4
          exact mz_set_eq.symm
        · rw [mz_set_ne h4]
          by_cases h5 : i = a
          · subst h5
            exact mz_set_eq.symm
          · rw [mz_set_ne h5, h i h5 h4 h3 h2 h1]
theorem sm_up_row {m : mz_M} {i k : Nat} {v : Int32} : mz_up m i k v i = sm_upd (m i) k v := by
  funext b
  rw [mz_up_eq]
  rfl
noncomputable def sm_pic (W J K : Nat) (E : Nat → Nat → Int32) (c : Nat → Int32) : Nat → Int32 := fun q => if q % 6 < W ∧ (q / 6 < J ∨ (q / 6 = J ∧ q % 6 < K)) then E (q % 6) (q / 6) else c q
theorem sm_pic_0 {W : Nat} {E : Nat → Nat → Int32} {c : Nat → Int32} : sm_pic W 0 0 E c = c := by
  funext q
  unfold sm_pic
  rw [if_neg (by omega)]
theorem sm_pic_row {W J : Nat} {E : Nat → Nat → Int32} {c : Nat → Int32} : sm_pic W J W E c = sm_pic W (J + 1) 0 E c := by
  funext q
  unfold sm_pic
  by_cases h : q % 6 < W ∧ (q / 6 < J ∨ (q / 6 = J ∧ q % 6 < W))
  · rw [if_pos h, if_pos (by omega)]
  · rw [if_neg h, if_neg (by omega)]
theorem sm_pic_step {W J K : Nat} {E : Nat → Nat → Int32} {c : Nat → Int32} (hW : W ≤ 6) (hK : K < W) : sm_upd (sm_pic W J K E c) (J * 6 + K) (E K J) = sm_pic W J (K + 1) E c := by
  funext q
  show (if q = J * 6 + K then E K J else sm_pic W J K E c q) = sm_pic W J (K + 1) E c q
  unfold sm_pic
  by_cases e : q = J * 6 + K
  · rw [if_pos e, if_pos (by omega), show q % 6 = K by omega, show q / 6 = J by omega]
  · rw [if_neg e]
    by_cases h : q % 6 < W ∧ (q / 6 < J ∨ (q / 6 = J ∧ q % 6 < K))
    · rw [if_pos h, if_pos (by omega)]
    · rw [if_neg h, if_neg (by omega)]
noncomputable def sm_ps (W J K : Nat) (E L : Nat → Nat → Int32) (s0 s : Nat → Int32) : Prop := (∀ q, q < 36 → s (70 + q) = sm_pic W J K E (fun q => s0 (70 + q)) q) ∧ (∀ q, q < 36 → s (110 + q) = sm_pic W J K L (fun q => s0 (110 + q)) q) ∧ ∀ i, (i < 70 ∨ 146 ≤ i ∨ (106 ≤ i ∧ i < 110)) → s i = s0 i
theorem sm_ps_0 {W : Nat} {E L : Nat → Nat → Int32} {s : Nat → Int32} : sm_ps W 0 0 E L s s := by
  refine ⟨fun q hq => ?_, fun q hq => ?_, fun i hi => rfl⟩
  · rw [sm_pic_0]
  · rw [sm_pic_0]
theorem sm_ps_step {W J K : Nat} {E L : Nat → Nat → Int32} {s0 s s' : Nat → Int32} (hW : W ≤ 6) (hK : K < W) (hJ : J < 6) (h : sm_ps W J K E L s0 s) (h1 : ∀ i, s' i = if i = 110 + (6 * J + K) then L K J else if i = 70 + (6 * J + K) then E K J else s i) : sm_ps W J (K + 1) E L s0 s' := by
  obtain ⟨a, b, c⟩ := h
  refine ⟨fun q hq => ?_, fun q hq => ?_, fun i hi => ?_⟩
  · rw [h1, if_neg (by omega), ← sm_pic_step hW hK]
    show _ = (if q = J * 6 + K then E K J else sm_pic W J K E (fun q => s0 (70 + q)) q)
    by_cases e : q = J * 6 + K
    · rw [if_pos (by omega), if_pos e]
    · rw [if_neg (by omega), if_neg e]
      exact a q hq
  · rw [h1, ← sm_pic_step hW hK]
    show _ = (if q = J * 6 + K then L K J else sm_pic W J K L (fun q => s0 (110 + q)) q)
    by_cases e : q = J * 6 + K
    · rw [if_pos (by omega), if_pos e]
    · rw [if_neg (by omega), if_neg (by omega), if_neg e]
      exact b q hq
  · rw [h1, if_neg (by omega), if_neg (by omega)]
    exact c i hi
theorem sm_ps_row {W J : Nat} {E L : Nat → Nat → Int32} {s0 s : Nat → Int32} (h : sm_ps W J W E L s0 s) : sm_ps W (J + 1) 0 E L s0 s := by
  obtain ⟨a, b, c⟩ := h
  refine ⟨fun q hq => ?_, fun q hq => ?_, c⟩
  · rw [a q hq, sm_pic_row]
  · rw [b q hq, sm_pic_row]
theorem sm_end_col {w : mz_M} {N : Nat} (hw : sm_W w N) (f x y u v : Int32) : sm_colB (sm_end w f x y u v) := sm_rest_col hw _
theorem sm_TR_s {w : mz_M} {s s' ch : Nat → Int32} {u base : Nat} (hb : 170 ≤ base) (h : ∀ i, (i = 0 ∨ (10 ≤ i ∧ i < 60) ∨ 170 ≤ i) → s' i = s i) (ht : sm_TR w s u base ch) : sm_TR w s' u base ch := by
  obtain ⟨a, b⟩ := ht
  refine ⟨(h _ (by omega)).trans a, fun k hk => ?_⟩
  rw [h (base + 1 + 2 * k) (by omega), h (base + 2 + 2 * k) (by omega)]
  exact b k hk
theorem sm_HR_s {w : mz_M} {s s' : Nat → Int32} (h : ∀ i, (i = 0 ∨ (10 ≤ i ∧ i < 60) ∨ 170 ≤ i) → s' i = s i) (hr : sm_HR w s) : sm_HR w s' := by
  obtain ⟨a, b, c, d, e, f⟩ := hr
  refine ⟨(h 0 (by omega)).trans a, fun k hk => ?_, fun k hk => (h (10 + k) (by omega)).trans (c k hk), sm_TR_s (by decide) h d, sm_TR_s (by decide) h e, sm_TR_s (by decide) h f⟩
  rw [h (30 + 4 * k) (by omega), h (30 + 4 * k + 1) (by omega), h (30 + 4 * k + 2) (by omega), h (30 + 4 * k + 3) (by omega)]
  exact b k hk
theorem sm_picB {x st w : Int32} {W S k : Nat} (hx : sm_B 100 x) (hl : sm_B 100 (x + (w - 1) * st)) (ew : w = nI W) (es : st = nI S) (hW1 : 1 ≤ W) (hW : W ≤ 6) (hS : S ≤ 40) (hk : k < W) : sm_B 100 (x + nI k * st) := by
  subst ew
  subst es
  have e1 : nI W - 1 = nI (W - 1) := sm_subN (a := W) (b := 1) rfl rfl hW1
  rw [e1, sm_mulN (a := W - 1) (b := S) rfl rfl] at hl
  rw [sm_mulN (a := k) (b := S) rfl rfl]
  have h1 : k * S ≤ (W - 1) * S := Nat.mul_le_mul_right S (by omega)
  have h2 : (W - 1) * S ≤ 6 * 40 := Nat.mul_le_mul (by omega) hS
  generalize k * S = A at *
  generalize (W - 1) * S = B at *
  have f : ∀ c : Nat, c ≤ 240 → (x + nI c).toInt = x.toInt + c := fun c hc => by
    have e := nI_toInt (show c < 2 ^ 31 by omega)
    obtain ⟨a1, a2⟩ := hx
    rw [sm_add (by omega) (by omega), e]
  obtain ⟨a, b⟩ := hx
  obtain ⟨c, d⟩ := hl
  rw [f B h2] at c d
  unfold sm_B
  rw [f A (by omega)]
  omega
theorem sm_rngN {x : Int32} {a b : Nat} (hb : b < 2 ^ 31) (hab : a ≤ b) (h1 : ¬ x < nI a) (h2 : ¬ nI b < x) : ∃ k, a ≤ k ∧ k ≤ b ∧ x = nI k := by
  rw [Int32.lt_iff_toInt_lt, nI_toInt (by omega)] at h1
  rw [Int32.lt_iff_toInt_lt, nI_toInt hb] at h2
  refine ⟨x.toInt.toNat, by omega, by omega, ?_⟩
  apply Int32.toInt_inj.mp
  rw [nI_toInt (by omega)]
  omega
theorem sm_dm {W J K : Nat} (hK : K < W) : (J * W + K) / W = J ∧ (J * W + K) % W = K := by
  rw [Nat.add_comm, Nat.add_mul_div_right _ _ (by omega), Nat.add_mul_mod_self_right, Nat.div_eq_of_lt hK, Nat.mod_eq_of_lt hK]
  exact ⟨Nat.zero_add J, rfl⟩
theorem sm_picd6 {W J K : Nat} {E L : Nat → Nat → Int32} {c l c' l' : Nat → Int32} {i : Nat} {x y : Int32} (hE : ∀ a b, sm_colB (E a b)) (h : sm_colB (c i)) (h1 : c' i = c i) (h2 : l' i = l i) (hx : x = sm_pic W J K E c' i) (hy : y = sm_pic W J K L l' i) : sm_colB (sm_pic W J K E c i) ∧ x = sm_pic W J K E c i ∧ y = sm_pic W J K L l i := by
  rw [hx, hy]
  unfold sm_pic
  by_cases e : i % 6 < W ∧ (i / 6 < J ∨ (i / 6 = J ∧ i % 6 < K))
  · simp only [if_pos e]
    exact ⟨hE _ _, trivial, trivial⟩
  · simp only [if_neg e]
    exact ⟨h, h1, h2⟩
/-! cells of a picture: another colour, an edge -/
noncomputable def vq_ot (f : Nat → Int32) (W H : Nat) (a b c : Int32) : Int32 := if 0 ≤ a.toInt ∧ a.toInt < (W : Int) ∧ 0 ≤ b.toInt ∧ b.toInt < (H : Int) then (if f (b.toInt.toNat * 6 + a.toInt.toNat) = c then 0 else 1) else 0
theorem vq_o0 {f : Nat → Int32} {W H : Nat} {a b c : Int32} (h : W = 0) : 0 = vq_ot f W H a b c := by
  unfold vq_ot
  rw [if_neg (by omega)]
theorem vq_o1 {f : Nat → Int32} {W H : Nat} {a b c : Int32} (h : a < 0) : 0 = vq_ot f W H a b c := by
  have h2 : a.toInt < 0 := Int32.lt_iff_toInt_lt.mp h
  unfold vq_ot
  rw [if_neg (by omega)]
theorem vq_o2 {f : Nat → Int32} {W H A : Nat} {b c : Int32} (hA : A < 2 ^ 31) (h : W ≤ A) : 0 = vq_ot f W H (nI A) b c := by
  unfold vq_ot
  rw [nI_toInt hA, if_neg (by omega)]
theorem vq_o3 {f : Nat → Int32} {W H : Nat} {a b c : Int32} (h : b < 0) : 0 = vq_ot f W H a b c := by
  have h2 : b.toInt < 0 := Int32.lt_iff_toInt_lt.mp h
  unfold vq_ot
  rw [if_neg (by omega)]
theorem vq_o4 {f : Nat → Int32} {W H B : Nat} {a c : Int32} (hB : B < 2 ^ 31) (h : H ≤ B) : 0 = vq_ot f W H a (nI B) c := by
  unfold vq_ot
  rw [nI_toInt hB, if_neg (by omega)]
theorem vq_o {f : Nat → Int32} {W H A B : Nat} {c : Int32} (hA : A < W) (hB : B < H) (hW : W ≤ 6) (hH : H ≤ 6) : vq_ot f W H (nI A) (nI B) c = if f (B * 6 + A) = c then 0 else 1 := by
  unfold vq_ot
  rw [nI_toInt (show A < 2 ^ 31 by omega), nI_toInt (show B < 2 ^ 31 by omega), if_pos (by omega)]
  rfl
theorem vq_o5 {f : Nat → Int32} {W H A B : Nat} {c : Int32} (hA : A < W) (hB : B < H) (hW : W ≤ 6) (hH : H ≤ 6) (h : f (B * 6 + A) = c) : 0 = vq_ot f W H (nI A) (nI B) c := by
  rw [vq_o hA hB hW hH, if_pos h]
theorem vq_o6 {f : Nat → Int32} {W H A B : Nat} {c : Int32} (hA : A < W) (hB : B < H) (hW : W ≤ 6) (hH : H ≤ 6) (h : ¬ f (B * 6 + A) = c) : 1 = vq_ot f W H (nI A) (nI B) c := by
  rw [vq_o hA hB hW hH, if_neg h]
theorem vq_ot_eq {f g : Nat → Int32} {W H : Nat} (hW : W ≤ 6) (hH : H ≤ 6) (h : ∀ i, i < 36 → f i = g i) (a b c : Int32) : vq_ot f W H a b c = vq_ot g W H a b c := by
  unfold vq_ot
  by_cases q : 0 ≤ a.toInt ∧ a.toInt < (W : Int) ∧ 0 ≤ b.toInt ∧ b.toInt < (H : Int)
  · rw [if_pos q, if_pos q, h (b.toInt.toNat * 6 + a.toInt.toNat) (by omega)]
  · rw [if_neg q, if_neg q]
noncomputable def vq_ed (f : Nat → Int32) (W H I J : Nat) (c : Int32) : Int32 := if vq_ot f W H (nI I - 1) (nI J) c = 0 then (if vq_ot f W H (nI I + 1) (nI J) c = 0 then (if vq_ot f W H (nI I) (nI J - 1) c = 0 then (if vq_ot f W H (nI I) (nI J + 1) c = 0 then 0 else 1) else 1) else 1) else 1
theorem vq_ed_eq {f g : Nat → Int32} {W H : Nat} (hW : W ≤ 6) (hH : H ≤ 6) (h : ∀ i, i < 36 → f i = g i) (I J : Nat) (c : Int32) : vq_ed f W H I J c = vq_ed g W H I J c := by
  unfold vq_ed
  rw [vq_ot_eq hW hH h, vq_ot_eq hW hH h, vq_ot_eq hW hH h, vq_ot_eq hW hH h]
theorem vq_m1 {I : Nat} (h : I = 0) : nI I - 1 = -1 := by
  subst h
  decide
/-! folds and sums -/
noncomputable def vq_fold {α : Type} (g : Int32 → α → α) (o : Int32 → Prop) [DecidablePred o] : Nat → Int32 → α → α
  | 0, _, s => s
  | n + 1, x, s => if o x then s else vq_fold g o n (x + 1) (g x s)
theorem vq_fold_out {α : Type} {g : Int32 → α → α} {o : Int32 → Prop} [DecidablePred o] {n : Nat} {x : Int32} {s : α} (h : o x) : vq_fold g o n x s = s := by
  cases n with
  | zero => rfl
  | succ n => exact if_pos h
theorem vq_fold_in {α : Type} {g : Int32 → α → α} {o : Int32 → Prop} [DecidablePred o] {n : Nat} {x : Int32} {s s' : α} (h : ¬ o x) (e : g x s = s') : vq_fold g o (n + 1) x s = vq_fold g o n (x + 1) s' := by
  rw [← e]
  exact if_neg h
noncomputable def vq_fn {α : Type} (g : Nat → α → α) : Nat → Nat → α → α
  | 0, _, s => s
  | n + 1, k, s => vq_fn g n (k + 1) (g k s)
theorem vq_fn_in {α : Type} {g : Nat → α → α} {n k : Nat} {s s' : α} (e : g k s = s') : vq_fn g (n + 1) k s = vq_fn g n (k + 1) s' := by
  rw [← e]
  rfl
noncomputable def vq_sum : Nat → (Nat → Int32) → Int32
  | 0, _ => 0
  | n + 1, f => f 0 + vq_sum n (fun k => f (k + 1))
theorem vq_alc (a b c : Int32) : a + (b + c) = b + (a + c) := by rw [← Int32.add_assoc, Int32.add_comm a b, Int32.add_assoc]
theorem vq_sum_add : ∀ (n : Nat) (f g : Nat → Int32), vq_sum n (fun k => f k + g k) = vq_sum n f + vq_sum n g := by
  intro n
  induction n with
  | zero =>
    intro f g
    rfl
  | succ n ih =>
    intro f g
    show f 0 + g 0 + vq_sum n (fun k => f (k + 1) + g (k + 1)) = f 0 + vq_sum n (fun k => f (k + 1)) + (g 0 + vq_sum n (fun k => g (k + 1)))
    rw [ih (fun k => f (k + 1)) (fun k => g (k + 1)), Int32.add_assoc, Int32.add_assoc, vq_alc (g 0)]
theorem vq_sum_0 : ∀ n : Nat, vq_sum n (fun _ => 0) = 0 := by
  intro n
  induction n with
  | zero => rfl
  | succ n ih =>
    show 0 + vq_sum n (fun _ => 0) = 0
    rw [ih]
    rfl
theorem vq_sum_comm : ∀ (n m : Nat) (F : Nat → Nat → Int32), vq_sum n (fun i => vq_sum m (fun j => F i j)) = vq_sum m (fun j => vq_sum n (fun i => F i j)) := by
  intro n
  induction n with
  | zero =>
    intro m F
    exact (vq_sum_0 m).symm
  | succ n ih =>
    intro m F
    show vq_sum m (fun j => F 0 j) + vq_sum n (fun i => vq_sum m (fun j => F (i + 1) j)) = vq_sum m (fun j => F 0 j + vq_sum n (fun i => F (i + 1) j))
    rw [ih m (fun i j => F (i + 1) j), vq_sum_add]
theorem vq_sum_ex {n : Nat} {f g : Nat → Int32} (h : ∀ k, f k = g k) : vq_sum n f = vq_sum n g := by
  rw [show f = g from funext h]
theorem vq_x0 (x : Int32) : x + nI 0 = x := by
  rw [show nI 0 = 0 from rfl, Int32.add_zero]
theorem vq_x1 (x : Int32) (k : Nat) : x + 1 + nI k = x + nI (k + 1) := by
  rw [nI_succ k, Int32.add_assoc, Int32.add_comm 1]
theorem vq_fold_sum (h : Int32 → Int32) {e : Int32} (he : e.toInt < 2147483647) : ∀ (n : Nat) (x s : Int32), x.toInt + (n : Int) ≤ e.toInt + 1 → vq_fold (fun y t => t + h y) (fun y => e < y) n x s = s + vq_sum n (fun k => h (x + nI k)) := by
  intro n
  induction n with
  | zero =>
    intro x s _
    show s = s + 0
    rw [Int32.add_zero]
  | succ n ih =>
    intro x s hx
    have h1 : ¬ e < x := fun q => by
      have := Int32.lt_iff_toInt_lt.mp q
      omega
    have h2 : (x + 1).toInt = x.toInt + 1 := by
      have hl := Int32.le_toInt x
      have e1 : (1 : Int32).toInt = 1 := by decide
      rw [sm_add (by rw [e1]; omega) (by rw [e1]; omega), e1]
    rw [vq_fold_in (g := fun y t => t + h y) (o := fun y => e < y) (s' := s + h x) h1 rfl, ih (x + 1) (s + h x) (by omega)]
    show s + h x + vq_sum n (fun k => h (x + 1 + nI k)) = s + (h (x + nI 0) + vq_sum n (fun k => h (x + nI (k + 1))))
    rw [vq_x0, Int32.add_assoc, vq_sum_ex (fun k => by rw [vq_x1])]
/-! cells of a colour around one -/
noncomputable def vq_is (f : Nat → Int32) (W H : Nat) (a b c : Int32) : Int32 := if 0 ≤ a.toInt ∧ a.toInt < (W : Int) ∧ 0 ≤ b.toInt ∧ b.toInt < (H : Int) then (if f (b.toInt.toNat * 6 + a.toInt.toNat) = c then 1 else 0) else 0
theorem vq_s {f : Nat → Int32} {W H : Nat} {a b c s : Int32} (h : ¬ (0 ≤ a.toInt ∧ a.toInt < (W : Int) ∧ 0 ≤ b.toInt ∧ b.toInt < (H : Int))) : s + vq_is f W H a b c = s := by
  unfold vq_is
  rw [if_neg h, Int32.add_zero]
theorem vq_s0 {f : Nat → Int32} {W H : Nat} {a b c s : Int32} (h : W = 0) : s + vq_is f W H a b c = s := vq_s (by omega)
theorem vq_s1 {f : Nat → Int32} {W H : Nat} {a b c s : Int32} (h : a < 0) : s + vq_is f W H a b c = s := by
  have h2 : a.toInt < 0 := Int32.lt_iff_toInt_lt.mp h
  exact vq_s (by omega)
theorem vq_s2 {f : Nat → Int32} {W H A : Nat} {b c s : Int32} (hA : A < 2 ^ 31) (h : W ≤ A) : s + vq_is f W H (nI A) b c = s := by
  have h2 := nI_toInt hA
  exact vq_s (by omega)
theorem vq_s3 {f : Nat → Int32} {W H : Nat} {a b c s : Int32} (h : b < 0) : s + vq_is f W H a b c = s := by
  have h2 : b.toInt < 0 := Int32.lt_iff_toInt_lt.mp h
  exact vq_s (by omega)
theorem vq_s4 {f : Nat → Int32} {W H B : Nat} {a c s : Int32} (hB : B < 2 ^ 31) (h : H ≤ B) : s + vq_is f W H a (nI B) c = s := by
  have h2 := nI_toInt hB
  exact vq_s (by omega)
theorem vq_i {f : Nat → Int32} {W H A B : Nat} {c : Int32} (hA : A < W) (hB : B < H) (hW : W ≤ 6) (hH : H ≤ 6) : vq_is f W H (nI A) (nI B) c = if f (B * 6 + A) = c then 1 else 0 := by
  unfold vq_is
  rw [nI_toInt (show A < 2 ^ 31 by omega), nI_toInt (show B < 2 ^ 31 by omega), if_pos (by omega)]
  rfl
theorem vq_s5 {f : Nat → Int32} {W H A B : Nat} {c s : Int32} (hA : A < W) (hB : B < H) (hW : W ≤ 6) (hH : H ≤ 6) (h : f (B * 6 + A) = c) : s + vq_is f W H (nI A) (nI B) c = s + 1 := by
  rw [vq_i hA hB hW hH, if_pos h]
theorem vq_s6 {f : Nat → Int32} {W H A B : Nat} {c s : Int32} (hA : A < W) (hB : B < H) (hW : W ≤ 6) (hH : H ≤ 6) (h : ¬ f (B * 6 + A) = c) : s + vq_is f W H (nI A) (nI B) c = s := by
  rw [vq_i hA hB hW hH, if_neg h, Int32.add_zero]
theorem vq_is_eq {f g : Nat → Int32} {W H : Nat} (hW : W ≤ 6) (hH : H ≤ 6) (h : ∀ i, i < 36 → f i = g i) (a b c : Int32) : vq_is f W H a b c = vq_is g W H a b c := by
  unfold vq_is
  by_cases q : 0 ≤ a.toInt ∧ a.toInt < (W : Int) ∧ 0 ≤ b.toInt ∧ b.toInt < (H : Int)
  · rw [if_pos q, if_pos q, h (b.toInt.toNat * 6 + a.toInt.toNat) (by omega)]
  · rw [if_neg q, if_neg q]
noncomputable def vq_fu (x d : Int32) : Nat := ((x + d).toInt - (x - d).toInt + 1).toNat
/-- row by row, and column by column -/
noncomputable def vq_ac (f : Nat → Int32) (W H : Nat) (i j d c : Int32) : Int32 := vq_fold (fun b s => vq_fold (fun a s => s + vq_is f W H a b c) (fun a => i + d < a) (vq_fu i d) (i - d) s) (fun b => j + d < b) (vq_fu j d) (j - d) 0
noncomputable def vq_ar (f : Nat → Int32) (W H : Nat) (i j d c : Int32) : Int32 := vq_fold (fun a s => vq_fold (fun b s => s + vq_is f W H a b c) (fun b => j + d < b) (vq_fu j d) (j - d) s) (fun a => i + d < a) (vq_fu i d) (i - d) 0
theorem vq_fu_le {x d : Int32} (hx : sm_B 1000 x) (hd : sm_B 1000 d) (h0 : 0 ≤ d.toInt) : (x - d).toInt + (vq_fu x d : Int) ≤ (x + d).toInt + 1 ∧ (x + d).toInt < 2147483647 := by
  obtain ⟨x1, x2⟩ := hx
  obtain ⟨d1, d2⟩ := hd
  have e1 : (x + d).toInt = x.toInt + d.toInt := sm_add (by omega) (by omega)
  have e2 : (x - d).toInt = x.toInt - d.toInt := sm_sub (by omega) (by omega)
  unfold vq_fu
  omega
theorem vq_ac_ar {f : Nat → Int32} {W H : Nat} {i j d c : Int32} (hi : sm_B 1000 i) (hj : sm_B 1000 j) (hd : sm_B 1000 d) (h0 : 0 ≤ d.toInt) : vq_ac f W H i j d c = vq_ar f W H i j d c := by
  obtain ⟨i1, i2⟩ := vq_fu_le hi hd h0
  obtain ⟨j1, j2⟩ := vq_fu_le hj hd h0
  unfold vq_ac vq_ar
  rw [show (fun b s => vq_fold (fun a s => s + vq_is f W H a b c) (fun a => i + d < a) (vq_fu i d) (i - d) s) = fun b s => s + vq_sum (vq_fu i d) (fun k => vq_is f W H (i - d + nI k) b c) from funext fun b => funext fun s => vq_fold_sum (fun a => vq_is f W H a b c) i2 _ _ _ i1]
  rw [show (fun a s => vq_fold (fun b s => s + vq_is f W H a b c) (fun b => j + d < b) (vq_fu j d) (j - d) s) = fun a s => s + vq_sum (vq_fu j d) (fun k => vq_is f W H a (j - d + nI k) c) from funext fun a => funext fun s => vq_fold_sum (fun b => vq_is f W H a b c) j2 _ _ _ j1]
  rw [vq_fold_sum (fun b => vq_sum (vq_fu i d) (fun k => vq_is f W H (i - d + nI k) b c)) j2 _ _ _ j1, vq_fold_sum (fun a => vq_sum (vq_fu j d) (fun k => vq_is f W H a (j - d + nI k) c)) i2 _ _ _ i1]
  rw [vq_sum_comm]
theorem vq_ar_eq {f g : Nat → Int32} {W H : Nat} (hW : W ≤ 6) (hH : H ≤ 6) (h : ∀ i, i < 36 → f i = g i) (i j d c : Int32) : vq_ar f W H i j d c = vq_ar g W H i j d c := by
  unfold vq_ar
  have e : ∀ a b, vq_is f W H a b c = vq_is g W H a b c := fun a b => vq_is_eq hW hH h a b c
  simp only [e]
/-! the best -/
noncomputable def vq_su (n p : Int32) (s : Int32 × Int32) : Int32 × Int32 := if s.1 < n then (n, p) else s
theorem vq_su0 {n p a b : Int32} (h : ¬ a < n) : vq_su n p (a, b) = (a, b) := if_neg h
theorem vq_su1 {n p a b : Int32} (h : a < n) : vq_su n p (a, b) = (n, p) := if_pos h
/-! fair: the most and the fewest, the greatest in both -/
noncomputable def vq_mm (n : Int32) (s : Int32 × Int32) : Int32 × Int32 := (sm_max s.1 n, sm_min s.2 n)
theorem vq_mm1 {n x y x' y' : Int32} (h1 : sm_max x n = x') (h2 : sm_min y n = y') : vq_mm n (x, y) = (x', y') := by
  unfold vq_mm
  rw [← h1, ← h2]
theorem vq_max1 {x n : Int32} (h : x < n) : sm_max x n = n := if_pos h
theorem vq_max0 {x n : Int32} (h : ¬ x < n) : sm_max x n = x := if_neg h
theorem vq_min1 {x n : Int32} (h : n < x) : sm_min x n = n := if_pos h
theorem vq_min0 {x n : Int32} (h : ¬ n < x) : sm_min x n = x := if_neg h
theorem vq_sum_split : ∀ (p q : Nat) (g : Nat → Int32), vq_sum (p + q) g = vq_sum p g + vq_sum q (fun k => g (p + k)) := by
  intro p
  induction p with
  | zero =>
    intro q g
    rw [Nat.zero_add, show (fun k => g (0 + k)) = g from funext fun k => by rw [Nat.zero_add]]
    exact (Int32.zero_add _).symm
  | succ p ih =>
    intro q g
    rw [show p + 1 + q = (p + q) + 1 by omega]
    show g 0 + vq_sum (p + q) (fun k => g (k + 1)) = g 0 + vq_sum p (fun k => g (k + 1)) + vq_sum q (fun k => g (p + 1 + k))
    rw [ih q (fun k => g (k + 1)), Int32.add_assoc, show (fun k => g (p + k + 1)) = fun k => g (p + 1 + k) from funext fun k => by rw [show p + k + 1 = p + 1 + k by omega]]
theorem vq_sum_z : ∀ (n : Nat) (g : Nat → Int32), (∀ k, k < n → g k = 0) → vq_sum n g = 0 := by
  intro n
  induction n with
  | zero =>
    intro g _
    rfl
  | succ n ih =>
    intro g h
    show g 0 + vq_sum n (fun k => g (k + 1)) = 0
    rw [h 0 (by omega), ih (fun k => g (k + 1)) (fun k hk => h (k + 1) (by omega))]
    rfl
theorem vq_sum_le {M : Nat} (hM : M ≤ 6) : ∀ (n : Nat) (g : Nat → Int32), n ≤ 20 → (∀ k, k < n → 0 ≤ (g k).toInt ∧ (g k).toInt ≤ (M : Int)) → 0 ≤ (vq_sum n g).toInt ∧ (vq_sum n g).toInt ≤ ((n * M : Nat) : Int) := by
  intro n
  induction n with
  | zero =>
    intro g _ _
    have e : (vq_sum 0 g).toInt = 0 := by
      show (0 : Int32).toInt = 0
      decide
    rw [e]
    omega
  | succ n ih =>
    intro g hn h
    obtain ⟨i1, i2⟩ := ih (fun k => g (k + 1)) (by omega) (fun k hk => h (k + 1) (by omega))
    obtain ⟨h1, h2⟩ := h 0 (by omega)
    have h3 : n * M ≤ 20 * 6 := Nat.mul_le_mul (by omega) hM
    have h4 : (n + 1) * M = n * M + M := Nat.succ_mul n M
    have e : (vq_sum (n + 1) g).toInt = (g 0).toInt + (vq_sum n (fun k => g (k + 1))).toInt := by
      show (g 0 + vq_sum n (fun k => g (k + 1))).toInt = _
      exact sm_add (by omega) (by omega)
    rw [e, h4]
    omega
theorem vq_sum13 {M : Nat} (hM : M ≤ 6) (g : Nat → Int32) (h : ∀ k, k < 13 → 0 ≤ (g k).toInt ∧ (g k).toInt ≤ (M : Int)) (hz : ∀ k, k < 6 ∨ k = 12 → g k = 0) : 0 ≤ (vq_sum 13 g).toInt ∧ (vq_sum 13 g).toInt ≤ ((6 * M : Nat) : Int) := by
  have e : vq_sum 13 g = vq_sum 6 (fun k => g (6 + k)) := by
    rw [show (13 : Nat) = 6 + (6 + 1) from rfl, vq_sum_split 6 (6 + 1) g, vq_sum_split 6 1 (fun k => g (6 + k)), vq_sum_z 6 g (fun k hk => hz k (Or.inl hk)), vq_sum_z 1 (fun k => g (6 + (6 + k))) (fun k hk => hz _ (Or.inr (by omega))), Int32.zero_add, Int32.add_zero]
  rw [e]
  exact vq_sum_le hM 6 _ (by decide) (fun k hk => h (6 + k) (by omega))
theorem vq_c6 {k : Nat} (hk : k < 13) : ((0 : Int32) - 6 + nI k).toInt = (k : Int) - 6 := by
  have e1 : ((0 : Int32) - 6).toInt = -6 := by decide
  have e2 := nI_toInt (show k < 2 ^ 31 by omega)
  rw [sm_add (by omega) (by omega), e1, e2]
  omega
theorem vq_is01 {f : Nat → Int32} {W H : Nat} {x y c : Int32} : 0 ≤ (vq_is f W H x y c).toInt ∧ (vq_is f W H x y c).toInt ≤ ((1 : Nat) : Int) := by
  have e0 : (0 : Int32).toInt = 0 := by decide
  have e1 : (1 : Int32).toInt = 1 := by decide
  unfold vq_is
  split
  · split
    · rw [e1]
      omega
    · rw [e0]
      omega
  · rw [e0]
    omega
theorem vq_isz {f : Nat → Int32} {W H : Nat} {x y c : Int32} (h : ¬ (0 ≤ x.toInt ∧ x.toInt < (W : Int) ∧ 0 ≤ y.toInt ∧ y.toInt < (H : Int))) : vq_is f W H x y c = 0 := if_neg h
theorem vq_fu6 : vq_fu 0 6 = 13 := by decide
theorem vq_ar36 {f : Nat → Int32} {W H : Nat} (hW : W ≤ 6) (hH : H ≤ 6) (c : Int32) : 0 ≤ (vq_ar f W H 0 0 6 c).toInt ∧ (vq_ar f W H 0 0 6 c).toInt ≤ 36 := by
  have hB0 : sm_B 1000 (0 : Int32) := by
    unfold sm_B
    decide
  have hB6 : sm_B 1000 (6 : Int32) := by
    unfold sm_B
    decide
  obtain ⟨i1, i2⟩ := vq_fu_le hB0 hB6 (by decide)
  have e : vq_ar f W H 0 0 6 c = 0 + vq_sum 13 (fun k => vq_sum 13 (fun l => vq_is f W H (0 - 6 + nI k) (0 - 6 + nI l) c)) := by
    unfold vq_ar
    rw [show (fun x s => vq_fold (fun y s => s + vq_is f W H x y c) (fun y => 0 + 6 < y) (vq_fu 0 6) (0 - 6) s) = fun x s => s + vq_sum (vq_fu 0 6) (fun k => vq_is f W H x (0 - 6 + nI k) c) from funext fun x => funext fun s => vq_fold_sum (fun y => vq_is f W H x y c) i2 _ _ _ i1]
    rw [vq_fold_sum (fun x => vq_sum (vq_fu 0 6) (fun k => vq_is f W H x (0 - 6 + nI k) c)) i2 _ _ _ i1, vq_fu6]
  rw [e, Int32.zero_add]
  have hin : ∀ x, 0 ≤ (vq_sum 13 (fun l => vq_is f W H x (0 - 6 + nI l) c)).toInt ∧ (vq_sum 13 (fun l => vq_is f W H x (0 - 6 + nI l) c)).toInt ≤ ((6 * 1 : Nat) : Int) := fun x => vq_sum13 (by decide) _ (fun k _ => vq_is01) (fun k hk => vq_isz (by rw [vq_c6 (show k < 13 by omega)]; omega))
  have h := vq_sum13 (M := 6) (by decide) (fun k => vq_sum 13 (fun l => vq_is f W H (0 - 6 + nI k) (0 - 6 + nI l) c)) (fun k _ => hin _) (fun k hk => vq_sum_z 13 _ (fun l _ => vq_isz (by rw [vq_c6 (show k < 13 by omega)]; omega)))
  omega
theorem vq_min36 {n : Int32} (h : n.toInt ≤ 36) : sm_min 99 n = sm_min 36 n := by
  have e1 : (99 : Int32).toInt = 99 := by decide
  have e2 : (36 : Int32).toInt = 36 := by decide
  have q1 : sm_min 99 n = n := vq_min1 (Int32.lt_iff_toInt_lt.mpr (by omega))
  rw [q1]
  by_cases q : n < 36
  · rw [vq_min1 q]
  · rw [vq_min0 q]
    have q2 : ¬ n.toInt < (36 : Int32).toInt := fun z => q (Int32.lt_iff_toInt_lt.mpr z)
    exact Int32.toInt_inj.mp (by omega)
theorem vq_fair0 {f : Nat → Int32} {W H N : Nat} (hW : W ≤ 6) (hH : H ≤ 6) (hN : 0 < N) : vq_fn (fun ii s => vq_mm (vq_ar f W H 0 0 6 (nI ii)) s) N 0 (0, 99) = vq_fn (fun ii s => vq_mm (vq_ar f W H 0 0 6 (nI ii)) s) N 0 (0, 36) := by
  obtain ⟨M, rfl⟩ : ∃ M, N = M + 1 := ⟨N - 1, by omega⟩
  show vq_fn _ M (0 + 1) (vq_mm (vq_ar f W H 0 0 6 (nI 0)) (0, 99)) = vq_fn _ M (0 + 1) (vq_mm (vq_ar f W H 0 0 6 (nI 0)) (0, 36))
  rw [show vq_mm (vq_ar f W H 0 0 6 (nI 0)) (0, 99) = vq_mm (vq_ar f W H 0 0 6 (nI 0)) (0, 36) from vq_mm1 rfl (vq_min36 (vq_ar36 hW hH _).2)]
noncomputable def vq_gl : Nat → Int32 → Int32 → Int32
  | 0, x, _ => x
  | n + 1, x, y => if y = 0 then x else vq_gl n y (x - x / y * y)
theorem vq_gl0 {n : Nat} {x y : Int32} (h : y = 0) : vq_gl n x y = x := by
  cases n with
  | zero => rfl
  | succ n => exact if_pos h
theorem vq_gl1 {n : Nat} {x y : Int32} (h : ¬ y = 0) : vq_gl (n + 1) x y = vq_gl n y (x - x / y * y) := if_neg h
theorem vq_gl_nz : ∀ (n : Nat) (x y : Int32), ¬ x = 0 → ¬ vq_gl n x y = 0 := by
  intro n
  induction n with
  | zero =>
    intro x y h
    exact h
  | succ n ih =>
    intro x y h
    by_cases q : y = 0
    · rw [vq_gl0 q]
      exact h
    · rw [vq_gl1 q]
      exact ih _ _ q
theorem vq_gl_nz2 {n : Nat} {x y : Int32} (h : ¬ y = 0) : ¬ vq_gl (n + 1) x y = 0 := by
  rw [vq_gl1 h]
  exact vq_gl_nz n _ _ h
/-! seen: sums of cells -/
theorem vq_e0 {s e : Int32} (h : e = 0) : s + e = s := by rw [h, Int32.add_zero]
theorem vq_ed01 {f : Nat → Int32} {W H I J : Nat} {c : Int32} (h : ¬ vq_ed f W H I J c = 0) : vq_ed f W H I J c = 1 := by
  unfold vq_ed at h ⊢
  split
  · rename_i h1
    rw [if_pos h1] at h
    split
    · rename_i h2
      rw [if_pos h2] at h
      split
      · rename_i h3
        rw [if_pos h3] at h
        split
        · rename_i h4
          rw [if_pos h4] at h
          exact absurd rfl h
        · rfl
      · rfl
    · rfl
  · rfl
theorem vq_e1 {f : Nat → Int32} {W H I J : Nat} {c s : Int32} (h : ¬ vq_ed f W H I J c = 0) : s + vq_ed f W H I J c = s + 1 := by rw [vq_ed01 h]
theorem vq_fn_sum (h : Nat → Int32) : ∀ (n k : Nat) (s : Int32), vq_fn (fun k s => s + h k) n k s = s + vq_sum n (fun i => h (k + i)) := by
  intro n
  induction n with
  | zero =>
    intro k s
    exact (Int32.add_zero s).symm
  | succ n ih =>
    intro k s
    show vq_fn (fun k s => s + h k) n (k + 1) (s + h k) = s + (h k + vq_sum n (fun i => h (k + (i + 1))))
    rw [ih (k + 1) (s + h k), Int32.add_assoc, show (fun i => h (k + 1 + i)) = fun i => h (k + (i + 1)) from funext fun i => by rw [show k + 1 + i = k + (i + 1) by omega]]
theorem vq_fn_sum0 (h : Nat → Int32) (n : Nat) (s : Int32) : vq_fn (fun k s => s + h k) n 0 s = s + vq_sum n h := by
  rw [vq_fn_sum h n 0 s, show (fun i => h (0 + i)) = h from funext fun i => by rw [Nat.zero_add]]
theorem vq_dbl (E : Nat → Nat → Int32) (W H : Nat) (s : Int32) : vq_fn (fun j s => vq_fn (fun i s => s + E i j) W 0 s) H 0 s = s + vq_sum H (fun j => vq_sum W (fun i => E i j)) := by
  rw [show (fun j s => vq_fn (fun i s => s + E i j) W 0 s) = fun j s => s + vq_sum W (fun i => E i j) from funext fun j => funext fun s => vq_fn_sum0 (fun i => E i j) W s]
  exact vq_fn_sum0 (fun j => vq_sum W (fun i => E i j)) H s
theorem vq_sum_eq : ∀ (n : Nat) (f g : Nat → Int32), (∀ k, k < n → f k = g k) → vq_sum n f = vq_sum n g := by
  intro n
  induction n with
  | zero =>
    intro f g _
    rfl
  | succ n ih =>
    intro f g h
    show f 0 + vq_sum n (fun k => f (k + 1)) = g 0 + vq_sum n (fun k => g (k + 1))
    rw [h 0 (Nat.succ_pos n), ih (fun k => f (k + 1)) (fun k => g (k + 1)) (fun k hk => h (k + 1) (Nat.succ_lt_succ hk))]
theorem vq_sum_last : ∀ (n : Nat) (f : Nat → Int32), vq_sum (n + 1) f = vq_sum n f + f n := by
  intro n
  induction n with
  | zero =>
    intro f
    show f 0 + 0 = 0 + f 0
    rw [Int32.add_zero, Int32.zero_add]
  | succ n ih =>
    intro f
    show f 0 + vq_sum (n + 1) (fun k => f (k + 1)) = f 0 + vq_sum n (fun k => f (k + 1)) + f (n + 1)
    rw [ih (fun k => f (k + 1)), Int32.add_assoc]
/-- rows then columns, the other way round -/
theorem vq_swap {E E' : Nat → Nat → Int32} {W H : Nat} (h : ∀ i j, i < W → j < H → E' i j = E i j) : vq_fn (fun i s => vq_fn (fun j s => s + E' i j) H 0 s) W 0 0 = vq_fn (fun j s => vq_fn (fun i s => s + E i j) W 0 s) H 0 0 := by
  rw [vq_dbl E W H 0, vq_dbl (fun j i => E' i j) H W 0, vq_sum_comm W H E',
    vq_sum_eq H (fun j => vq_sum W (fun i => E' i j)) (fun j => vq_sum W (fun i => E i j)) (fun j hj => vq_sum_eq W (fun i => E' i j) (fun i => E i j) (fun i hi => h i j hi hj))]
/-- squares: one row and one column less -/
theorem vq_less {f : Nat → Int32} {W : Nat} (hW : 1 ≤ W) (h : ∀ i, W ≤ i + 1 → f i = 0) : vq_sum W f = vq_sum (W - 1) f := by
  obtain ⟨n, rfl⟩ : ∃ n, W = n + 1 := ⟨W - 1, by omega⟩
  rw [vq_sum_last n f, h n (by omega), Int32.add_zero]
  rfl
theorem vq_swap1 {E E' : Nat → Nat → Int32} {W H : Nat} (hW : 1 ≤ W) (hH : 1 ≤ H) (h : ∀ i j, i + 1 < W → j + 1 < H → E' i j = E i j) (h0 : ∀ i j, W ≤ i + 1 ∨ H ≤ j + 1 → E' i j = 0) : vq_fn (fun i s => vq_fn (fun j s => s + E' i j) H 0 s) W 0 0 = vq_fn (fun j s => vq_fn (fun i s => s + E i j) (W - 1) 0 s) (H - 1) 0 0 := by
  rw [vq_dbl E (W - 1) (H - 1) 0, vq_dbl (fun j i => E' i j) H W 0, vq_sum_comm W H E']
  rw [vq_less hH (fun j hj => vq_sum_z W _ (fun i _ => h0 i j (Or.inr hj)))]
  rw [vq_sum_eq (H - 1) (fun j => vq_sum W (fun i => E' i j)) (fun j => vq_sum (W - 1) (fun i => E i j)) (fun j hj => (vq_less hW (fun i hi => h0 i j (Or.inl hi))).trans (vq_sum_eq (W - 1) (fun i => E' i j) (fun i => E i j) (fun i hi => h i j (by omega) (by omega))))]
/-! finer -/
noncomputable def vq_pt (w : mz_M) (x y c : Int32) : Int32 := if sm_bI (sm_plc x y) = 0 then 0 else if sm_end w (w 7 5) x y 0 0 = c then 0 else 1
theorem vq_pt1 {w : mz_M} {x y c s : Int32} (h : sm_bI (sm_plc x y) = 0) : s + vq_pt w x y c = s := by
  unfold vq_pt
  rw [if_pos h, Int32.add_zero]
theorem vq_pt2 {w : mz_M} {x y c s : Int32} (h1 : ¬ sm_bI (sm_plc x y) = 0) (h : sm_end w (w 7 5) x y 0 0 = c) : s + vq_pt w x y c = s := by
  unfold vq_pt
  rw [if_neg h1, if_pos h, Int32.add_zero]
theorem vq_pt3 {w : mz_M} {x y c s : Int32} (h1 : ¬ sm_bI (sm_plc x y) = 0) (h : ¬ sm_end w (w 7 5) x y 0 0 = c) : s + vq_pt w x y c = s + 1 := by
  unfold vq_pt
  rw [if_neg h1, if_neg h]
/-- the three places of a cell -/
noncomputable def vq_f3 (w : mz_M) (x y h c : Int32) : Int32 := vq_pt w (x + h) (y + 0) c + (vq_pt w (x + 0) (y + h) c + vq_pt w (x + h) (y + h) c)
theorem vq_f3a {w : mz_M} {x y h c s : Int32} : s + vq_f3 w x y h c = s + vq_pt w (x + h) (y + 0) c + vq_pt w (x + 0) (y + h) c + vq_pt w (x + h) (y + h) c := by
  unfold vq_f3
  rw [Int32.add_assoc, Int32.add_assoc]
noncomputable def vq_fc (w : mz_M) (W H I J : Nat) : Int32 := if vq_ed (w 21) W H I J (w 21 ((J * 6) + I)) = 0 then 0 else vq_f3 w ((w 20 0) + ((nI I) * (w 20 4))) ((w 20 1) + ((nI J) * (w 20 4))) ((w 20 4) / 2) (w 21 ((J * 6) + I))
theorem vq_fc0 {w : mz_M} {W H I J : Nat} {s : Int32} (h : vq_ed (w 21) W H I J (w 21 ((J * 6) + I)) = 0) : s + vq_fc w W H I J = s := by
  unfold vq_fc
  rw [if_pos h, Int32.add_zero]
theorem vq_fc1 {w : mz_M} {W H I J : Nat} {s : Int32} (h : ¬ vq_ed (w 21) W H I J (w 21 ((J * 6) + I)) = 0) : s + vq_fc w W H I J = s + vq_f3 w ((w 20 0) + ((nI I) * (w 20 4))) ((w 20 1) + ((nI J) * (w 20 4))) ((w 20 4) / 2) (w 21 ((J * 6) + I)) := by
  unfold vq_fc
  rw [if_neg h]
/-! squares of two by two, and sets of colours -/
noncomputable def vq_n1 (x a : Int32) : Int32 := if x = a then 0 else 1
noncomputable def vq_n2 (x a b : Int32) : Int32 := if x = a then 0 else vq_n1 x b
noncomputable def vq_n3 (x a b c : Int32) : Int32 := if x = a then 0 else vq_n2 x b c
theorem vq_n1t {x a : Int32} (h : x = a) : vq_n1 x a = 0 := if_pos h
theorem vq_n1f {x a : Int32} (h : ¬ x = a) : vq_n1 x a = 1 := if_neg h
theorem vq_n2t {x a b : Int32} (h : x = a) : vq_n2 x a b = 0 := if_pos h
theorem vq_n2f {x a b z : Int32} (h : ¬ x = a) (e : vq_n1 x b = z) : vq_n2 x a b = z := (if_neg h).trans e
theorem vq_n3t {x a b c : Int32} (h : x = a) : vq_n3 x a b c = 0 := if_pos h
theorem vq_n3f {x a b c z : Int32} (h : ¬ x = a) (e : vq_n2 x b c = z) : vq_n3 x a b c = z := (if_neg h).trans e
noncomputable def vq_sq (a b c d : Int32) : Int32 := 1 + vq_n1 b a + vq_n2 c a b + vq_n3 d a b c
theorem vq_sqE {a b c d x y z v : Int32} (h1 : vq_n1 b a = x) (h2 : vq_n2 c a b = y) (h3 : vq_n3 d a b c = z) (e : 1 + x + y + z = v) : vq_sq a b c d = v := by
  unfold vq_sq
  rw [h1, h2, h3]
  exact e
noncomputable def vq_t3 (v : Int32) : Int32 := if v < 3 then 0 else 1
theorem vq_t3a {v s : Int32} (h : v < 3) : s + vq_t3 v = s := by
  unfold vq_t3
  rw [if_pos h, Int32.add_zero]
theorem vq_t3b {v s : Int32} (h : ¬ v < 3) : s + vq_t3 v = s + 1 := by
  unfold vq_t3
  rw [if_neg h]
theorem nI_or (x y : Nat) : nI x ||| nI y = nI (x ||| y) := Int32.toBitVec_inj.mp (BitVec.ofNat_or (w := 32) (x := x) (y := y)).symm
theorem nI_and (x y : Nat) : nI x &&& nI y = nI (x &&& y) := Int32.toBitVec_inj.mp (BitVec.ofNat_and (w := 32) (x := x) (y := y)).symm
theorem nI_bit {k : Nat} (h : k ≤ 9) : (1 : Int32) <<< (nI k &&& 31) = nI (2 ^ k) := by
  rcases (show k = 0 ∨ k = 1 ∨ k = 2 ∨ k = 3 ∨ k = 4 ∨ k = 5 ∨ k = 6 ∨ k = 7 ∨ k = 8 ∨ k = 9 by omega) with rfl | rfl | rfl | rfl | rfl | rfl | rfl | rfl | rfl | rfl <;> decide
/-- how many bits are set, one after the other -/
noncomputable def vq_pl : Nat → Int32 → Int32 → Int32
  | 0, _, n => n
  | f + 1, x, n => if x = 0 then n else vq_pl f (x &&& (x - 1)) (n + 1)
theorem vq_pl0 {f : Nat} {x n : Int32} (h : x = 0) : vq_pl f x n = n := by
  cases f with
  | zero => rfl
  | succ f => exact if_pos h
theorem vq_pl1 {f : Nat} {x n : Int32} (h : ¬ x = 0) : vq_pl (f + 1) x n = vq_pl f (x &&& (x - 1)) (n + 1) := if_neg h
noncomputable def vq_pn : Nat → Nat → Nat → Nat
  | 0, _, n => n
  | f + 1, x, n => if x = 0 then n else vq_pn f (x &&& (x - 1)) (n + 1)
theorem vq_pl_pn : ∀ (f x n : Nat), x < 2 ^ 31 → vq_pl f (nI x) (nI n) = nI (vq_pn f x n) := by
  intro f
  induction f with
  | zero =>
    intro x n _
    rfl
  | succ f ih =>
    intro x n hx
    show (if nI x = 0 then nI n else vq_pl f (nI x &&& (nI x - 1)) (nI n + 1)) = nI (if x = 0 then n else vq_pn f (x &&& (x - 1)) (n + 1))
    by_cases e : x = 0
    · rw [if_pos e, if_pos (show nI x = 0 by rw [e]; rfl)]
    · rw [if_neg e, if_neg (sm_nz (k := x) (by omega)), show nI x - 1 = nI (x - 1) from sm_subN (a := x) (b := 1) rfl rfl (by omega), nI_and, ← nI_succ n]
      exact ih (x &&& (x - 1)) (n + 1) (Nat.lt_of_le_of_lt Nat.and_le_left hx)
/-- how many of ten bits are set -/
noncomputable def vq_tb (x k : Nat) : Nat := if x.testBit k then 1 else 0
noncomputable def vq_ct (x : Nat) : Nat := vq_tb x 0 + vq_tb x 1 + vq_tb x 2 + vq_tb x 3 + vq_tb x 4 + vq_tb x 5 + vq_tb x 6 + vq_tb x 7 + vq_tb x 8 + vq_tb x 9
set_option maxRecDepth 100000 in
theorem vq_pn_ct : ∀ x, x < 1024 → vq_pn 1024 x 0 = vq_ct x := by decide +kernel
/-- bits of cells -/
noncomputable def vq_orr (F : Nat → Nat → Int32) (P Q : Nat) : Int32 := vq_fn (fun a s => vq_fn (fun b s => s ||| (1 <<< (F a b &&& 31))) Q 0 s) P 0 0
theorem vq_or1 {g : Nat → Int32} {B : Nat} (hg : ∀ b, b < B → ∃ V, V ≤ 9 ∧ g b = nI V) : ∀ n k M0 : Nat, k + n ≤ B → M0 < 1024 → ∃ M, M < 1024 ∧ vq_fn (fun b s => s ||| (1 <<< (g b &&& 31))) n k (nI M0) = nI M ∧ ∀ c, c ≤ 9 → (M.testBit c = true ↔ M0.testBit c = true ∨ ∃ b, k ≤ b ∧ b < k + n ∧ g b = nI c) := by
  intro n
  induction n with
  | zero =>
    intro k M0 hk hM
    refine ⟨M0, hM, rfl, fun c hc => ⟨Or.inl, fun h => h.elim id ?_⟩⟩
    rintro ⟨b, h1, h2, -⟩
    omega
  | succ n ih =>
    intro k M0 hk hM
    obtain ⟨V, hV, eV⟩ := hg k (by omega)
    have h2 : 2 ^ V < 2 ^ 10 := Nat.pow_lt_pow_right (by decide) (by omega)
    have h3 : M0 ||| 2 ^ V < 2 ^ 10 := Nat.or_lt_two_pow (show M0 < 2 ^ 10 from hM) h2
    obtain ⟨M, hM2, e, hb⟩ := ih (k + 1) (M0 ||| 2 ^ V) (by omega) h3
    refine ⟨M, hM2, ?_, fun c hc => ?_⟩
    · show vq_fn (fun b s => s ||| (1 <<< (g b &&& 31))) n (k + 1) (nI M0 ||| (1 <<< (g k &&& 31))) = nI M
      rw [eV, nI_bit hV, nI_or]
      exact e
    · rw [hb c hc, Nat.testBit_or, Nat.testBit_two_pow, Bool.or_eq_true, decide_eq_true_eq]
      constructor
      · rintro ((h | h) | ⟨b, h1, h4, h5⟩)
        · exact Or.inl h
        · exact Or.inr ⟨k, by omega, by omega, by rw [eV, h]⟩
        · exact Or.inr ⟨b, by omega, by omega, h5⟩
      · rintro (h | ⟨b, h1, h4, h5⟩)
        · exact Or.inl (Or.inl h)
        · rcases Nat.eq_or_lt_of_le h1 with e1 | e1
          · refine Or.inl (Or.inr ?_)
            rw [← e1, eV] at h5
            exact (nI_eq (show V < 2 ^ 31 by omega) (show c < 2 ^ 31 by omega)).mp h5
          · exact Or.inr ⟨b, by omega, by omega, h5⟩
theorem vq_or2 {F : Nat → Nat → Int32} {P Q : Nat} (hF : ∀ a b, a < P → b < Q → ∃ V, V ≤ 9 ∧ F a b = nI V) : ∀ n k M0 : Nat, k + n ≤ P → M0 < 1024 → ∃ M, M < 1024 ∧ vq_fn (fun a s => vq_fn (fun b s => s ||| (1 <<< (F a b &&& 31))) Q 0 s) n k (nI M0) = nI M ∧ ∀ c, c ≤ 9 → (M.testBit c = true ↔ M0.testBit c = true ∨ ∃ a b, k ≤ a ∧ a < k + n ∧ b < Q ∧ F a b = nI c) := by
  intro n
  induction n with
  | zero =>
    intro k M0 hk hM
    refine ⟨M0, hM, rfl, fun c hc => ⟨Or.inl, fun h => h.elim id ?_⟩⟩
    rintro ⟨a, b, h1, h2, -⟩
    omega
  | succ n ih =>
    intro k M0 hk hM
    obtain ⟨M1, hM1, e1, hb1⟩ := vq_or1 (g := F k) (B := Q) (fun b hb => hF k b (by omega) hb) Q 0 M0 (by omega) hM
    obtain ⟨M, hM2, e, hb⟩ := ih (k + 1) M1 (by omega) hM1
    refine ⟨M, hM2, ?_, fun c hc => ?_⟩
    · show vq_fn (fun a s => vq_fn (fun b s => s ||| (1 <<< (F a b &&& 31))) Q 0 s) n (k + 1) (vq_fn (fun b s => s ||| (1 <<< (F k b &&& 31))) Q 0 (nI M0)) = nI M
      rw [e1]
      exact e
    · rw [hb c hc, hb1 c hc]
      constructor
      · rintro ((h | ⟨b, h1, h4, h5⟩) | ⟨a, b, h1, h4, h5, h6⟩)
        · exact Or.inl h
        · exact Or.inr ⟨k, b, by omega, by omega, by omega, h5⟩
        · exact Or.inr ⟨a, b, by omega, by omega, h5, h6⟩
      · rintro (h | ⟨a, b, h1, h4, h5, h6⟩)
        · exact Or.inl (Or.inl h)
        · rcases Nat.eq_or_lt_of_le h1 with e1 | e1
          · refine Or.inl (Or.inr ⟨b, by omega, by omega, ?_⟩)
            rw [e1]
            exact h6
          · exact Or.inr ⟨a, b, by omega, by omega, h5, h6⟩
theorem vq_orrN {F : Nat → Nat → Int32} {P Q : Nat} (hF : ∀ a b, a < P → b < Q → ∃ V, V ≤ 9 ∧ F a b = nI V) : ∃ M, M < 1024 ∧ vq_orr F P Q = nI M ∧ ∀ c, c ≤ 9 → (M.testBit c = true ↔ ∃ a b, a < P ∧ b < Q ∧ F a b = nI c) := by
  obtain ⟨M, h1, h2, h3⟩ := vq_or2 hF P 0 0 (by omega) (by decide)
  refine ⟨M, h1, h2, fun c hc => ?_⟩
  rw [h3 c hc, Nat.zero_testBit]
  constructor
  · rintro (h | ⟨a, b, -, h4, h5, h6⟩)
    · cases h
    · exact ⟨a, b, by omega, h5, h6⟩
  · rintro ⟨a, b, h4, h5, h6⟩
    exact Or.inr ⟨a, b, by omega, by omega, h5, h6⟩
theorem vq_pl_ct {M : Nat} (h : M < 1024) : vq_pl 1024 (nI M) 0 = nI (vq_ct M) := (vq_pl_pn 1024 M 0 (by omega)).trans (congrArg nI (vq_pn_ct M h))
theorem nI_bv {M : Nat} (h : M < 1024) : (nI M).toBitVec.toNat < 1024 := by
  show M % 2 ^ 32 < 1024
  rw [Nat.mod_eq_of_lt (by omega)]
  exact h
noncomputable def vq_k1 (x a : Nat) : Nat := if x = a then 0 else 1
noncomputable def vq_k2 (x a b : Nat) : Nat := if x = a then 0 else vq_k1 x b
noncomputable def vq_k3 (x a b c : Nat) : Nat := if x = a then 0 else vq_k2 x b c
theorem vq_n1N {x a : Nat} (hx : x ≤ 9) (ha : a ≤ 9) : vq_n1 (nI x) (nI a) = nI (vq_k1 x a) := by
  unfold vq_n1 vq_k1
  by_cases e : x = a
  · rw [if_pos e, if_pos (by rw [e])]
    rfl
  · rw [if_neg e, if_neg (fun h => e ((nI_eq (by omega) (by omega)).mp h))]
    rfl
theorem vq_n2N {x a b : Nat} (hx : x ≤ 9) (ha : a ≤ 9) (hb : b ≤ 9) : vq_n2 (nI x) (nI a) (nI b) = nI (vq_k2 x a b) := by
  unfold vq_n2 vq_k2
  by_cases e : x = a
  · rw [if_pos e, if_pos (by rw [e])]
    rfl
  · rw [if_neg e, if_neg (fun h => e ((nI_eq (by omega) (by omega)).mp h)), vq_n1N hx hb]
theorem vq_n3N {x a b c : Nat} (hx : x ≤ 9) (ha : a ≤ 9) (hb : b ≤ 9) (hc : c ≤ 9) : vq_n3 (nI x) (nI a) (nI b) (nI c) = nI (vq_k3 x a b c) := by
  unfold vq_n3 vq_k3
  by_cases e : x = a
  · rw [if_pos e, if_pos (by rw [e])]
    rfl
  · rw [if_neg e, if_neg (fun h => e ((nI_eq (by omega) (by omega)).mp h)), vq_n2N hx hb hc]
set_option maxRecDepth 100000 in
theorem vq_sq10 : ∀ a, a < 10 → ∀ b, b < 10 → ∀ c, c < 10 → ∀ d, d < 10 → vq_ct (((2 ^ a ||| 2 ^ c) ||| 2 ^ b) ||| 2 ^ d) = 1 + vq_k1 b a + vq_k2 c a b + vq_k3 d a b c := by decide +kernel
theorem vq_sq4 {F : Nat → Nat → Int32} {a b c d : Nat} (ha : a ≤ 9) (hb : b ≤ 9) (hc : c ≤ 9) (hd : d ≤ 9) (e1 : F 0 0 = nI a) (e2 : F 1 0 = nI b) (e3 : F 0 1 = nI c) (e4 : F 1 1 = nI d) : vq_pl 1024 (vq_orr F 2 2) 0 = vq_sq (nI a) (nI b) (nI c) (nI d) := by
  have e : vq_orr F 2 2 = nI (((2 ^ a ||| 2 ^ c) ||| 2 ^ b) ||| 2 ^ d) := by
    show (((nI 0 ||| (1 <<< (F 0 0 &&& 31))) ||| (1 <<< (F 0 1 &&& 31))) ||| (1 <<< (F 1 0 &&& 31))) ||| (1 <<< (F 1 1 &&& 31)) = _
    rw [e1, e2, e3, e4, nI_bit ha, nI_bit hb, nI_bit hc, nI_bit hd, nI_or, nI_or, nI_or, nI_or, Nat.zero_or]
  have p : ∀ k, k ≤ 9 → 2 ^ k < 2 ^ 10 := fun k hk => Nat.pow_lt_pow_right (by decide) (by omega)
  have hM : ((2 ^ a ||| 2 ^ c) ||| 2 ^ b) ||| 2 ^ d < 2 ^ 10 := Nat.or_lt_two_pow (Nat.or_lt_two_pow (Nat.or_lt_two_pow (p a ha) (p c hc)) (p b hb)) (p d hd)
  rw [e, vq_pl_ct hM, vq_sq10 a (by omega) b (by omega) c (by omega) d (by omega)]
  unfold vq_sq
  rw [vq_n1N hb ha, vq_n2N hc ha hb, vq_n3N hd ha hb hc, show (1 : Int32) = nI 1 from rfl, nI_add, nI_add, nI_add]
noncomputable def vq_t2 (v : Int32) : Int32 := if v ≤ 2 then 0 else 1
theorem vq_t2a {v s : Int32} (h : v ≤ 2) : s + vq_t2 v = s := by
  unfold vq_t2
  rw [if_pos h, Int32.add_zero]
theorem vq_t2b {v s : Int32} (h : ¬ v ≤ 2) : s + vq_t2 v = s + 1 := by
  unfold vq_t2
  rw [if_neg h]
theorem vq_t23 (v : Int32) : vq_t2 v = vq_t3 v := by
  have e2 : (2 : Int32).toInt = 2 := by decide
  have e3 : (3 : Int32).toInt = 3 := by decide
  unfold vq_t2 vq_t3
  by_cases h : v ≤ 2
  · rw [if_pos h, if_pos]
    rw [Int32.le_iff_toInt_le, e2] at h
    rw [Int32.lt_iff_toInt_lt, e3]
    omega
  · rw [if_neg h, if_neg]
    rw [Int32.le_iff_toInt_le, e2] at h
    rw [Int32.lt_iff_toInt_lt, e3]
    omega
noncomputable def vq_q1 (f : Nat → Int32) (W H i j : Nat) : Int32 := if i + 1 < W then (if j + 1 < H then vq_t2 (vq_pl 1024 (vq_orr (fun a b => f (((j + b) * 6) + (i + a))) 2 2) 0) else 0) else 0
theorem vq_q1a {f : Nat → Int32} {W H i j : Nat} {s : Int32} (h : ¬ i + 1 < W) : s + vq_q1 f W H i j = s := by
  unfold vq_q1
  rw [if_neg h, Int32.add_zero]
theorem vq_q1b {f : Nat → Int32} {W H i j : Nat} {s : Int32} (h : ¬ j + 1 < H) : s + vq_q1 f W H i j = s := by
  unfold vq_q1
  rw [if_neg h, ite_self, Int32.add_zero]
theorem vq_q1c {f : Nat → Int32} {W H i j : Nat} {s z : Int32} (h1 : i + 1 < W) (h2 : j + 1 < H) (h : s + vq_t2 (vq_pl 1024 (vq_orr (fun a b => f (((j + b) * 6) + (i + a))) 2 2) 0) = z) : s + vq_q1 f W H i j = z := by
  unfold vq_q1
  rw [if_pos h1, if_pos h2]
  exact h
theorem vq_q1z {f : Nat → Int32} {W H i j : Nat} (h : W ≤ i + 1 ∨ H ≤ j + 1) : vq_q1 f W H i j = 0 := by
  unfold vq_q1
  by_cases h1 : i + 1 < W
  · rw [if_pos h1, if_neg (by omega)]
  · rw [if_neg h1]
theorem vq_q1q {f : Nat → Int32} {W H i j : Nat} (hc : ∀ i, i < 36 → sm_colB (f i)) (hW : W ≤ 6) (hH : H ≤ 6) (h1 : i + 1 < W) (h2 : j + 1 < H) : vq_q1 f W H i j = vq_t3 (vq_sq (f ((j * 6) + i)) (f ((j * 6) + (i + 1))) (f (((j + 1) * 6) + i)) (f (((j + 1) * 6) + (i + 1)))) := by
  obtain ⟨a, ha, ea⟩ := sm_colN (hc ((j * 6) + i) (by omega))
  obtain ⟨b, hb, eb⟩ := sm_colN (hc ((j * 6) + (i + 1)) (by omega))
  obtain ⟨c, hcc, ec⟩ := sm_colN (hc (((j + 1) * 6) + i) (by omega))
  obtain ⟨d, hd, ed⟩ := sm_colN (hc (((j + 1) * 6) + (i + 1)) (by omega))
  unfold vq_q1
  rw [if_pos h1, if_pos h2, vq_sq4 (F := fun a b => f (((j + b) * 6) + (i + a))) ha hb hcc hd ea eb ec ed, vq_t23, ea, eb, ec, ed]
/-! colours of a picture: counted one by one, and by bits -/
noncomputable def vq_gz (v : Int32) : Int32 := if v ≤ 0 then 0 else 1
theorem vq_gza {v s : Int32} (h : v ≤ 0) : s + vq_gz v = s := by
  unfold vq_gz
  rw [if_pos h, Int32.add_zero]
theorem vq_gzb {v s : Int32} (h : ¬ v ≤ 0) : s + vq_gz v = s + 1 := by
  unfold vq_gz
  rw [if_neg h]
theorem vq_sum_pos {M : Nat} (hM : M ≤ 6) : ∀ (n : Nat) (g : Nat → Int32), n ≤ 20 → (∀ k, k < n → 0 ≤ (g k).toInt ∧ (g k).toInt ≤ (M : Int)) → (0 < (vq_sum n g).toInt ↔ ∃ k, k < n ∧ 0 < (g k).toInt) := by
  intro n
  induction n with
  | zero =>
    intro g _ _
    have e : (vq_sum 0 g).toInt = 0 := by
      show (0 : Int32).toInt = 0
      decide
    constructor
    · intro h
      omega
    · rintro ⟨k, hk, -⟩
      omega
  | succ n ih =>
    intro g hn h
    have hi := ih (fun k => g (k + 1)) (by omega) (fun k hk => h (k + 1) (by omega))
    obtain ⟨i1, i2⟩ := vq_sum_le hM n (fun k => g (k + 1)) (by omega) (fun k hk => h (k + 1) (by omega))
    obtain ⟨h1, h2⟩ := h 0 (by omega)
    have h3 : n * M ≤ 20 * 6 := Nat.mul_le_mul (by omega) hM
    have e : (vq_sum (n + 1) g).toInt = (g 0).toInt + (vq_sum n (fun k => g (k + 1))).toInt := by
      show (g 0 + vq_sum n (fun k => g (k + 1))).toInt = _
      exact sm_add (by omega) (by omega)
    rw [e]
    constructor
    · intro hp
      by_cases h0 : 0 < (g 0).toInt
      · exact ⟨0, by omega, h0⟩
      · obtain ⟨k, hk, hk2⟩ := hi.mp (by omega)
        exact ⟨k + 1, by omega, hk2⟩
    · rintro ⟨k, hk, hk2⟩
      rcases Nat.eq_zero_or_pos k with h0 | h0
      · rw [h0] at hk2
        omega
      · have := hi.mpr ⟨k - 1, by omega, by rw [show k - 1 + 1 = k by omega]; exact hk2⟩
        omega
theorem vq_is_pos {f : Nat → Int32} {W H : Nat} {x y c : Int32} : 0 < (vq_is f W H x y c).toInt ↔ (0 ≤ x.toInt ∧ x.toInt < (W : Int) ∧ 0 ≤ y.toInt ∧ y.toInt < (H : Int)) ∧ f (y.toInt.toNat * 6 + x.toInt.toNat) = c := by
  have e0 : (0 : Int32).toInt = 0 := by decide
  have e1 : (1 : Int32).toInt = 1 := by decide
  unfold vq_is
  by_cases q : 0 ≤ x.toInt ∧ x.toInt < (W : Int) ∧ 0 ≤ y.toInt ∧ y.toInt < (H : Int)
  · rw [if_pos q]
    by_cases p : f (y.toInt.toNat * 6 + x.toInt.toNat) = c
    · rw [if_pos p, e1]
      exact ⟨fun _ => ⟨q, p⟩, fun _ => by decide⟩
    · rw [if_neg p, e0]
      exact ⟨fun h => absurd h (by decide), fun h => absurd h.2 p⟩
  · rw [if_neg q, e0]
    exact ⟨fun h => absurd h (by decide), fun h => absurd h.1 q⟩
theorem vq_ar_pos {f : Nat → Int32} {W H : Nat} (hW : W ≤ 6) (hH : H ≤ 6) (c : Int32) : 0 < (vq_ar f W H 0 0 6 c).toInt ↔ ∃ a b, a < W ∧ b < H ∧ f (b * 6 + a) = c := by
  have hB0 : sm_B 1000 (0 : Int32) := by
    unfold sm_B
    decide
  have hB6 : sm_B 1000 (6 : Int32) := by
    unfold sm_B
    decide
  obtain ⟨i1, i2⟩ := vq_fu_le hB0 hB6 (by decide)
  have e : vq_ar f W H 0 0 6 c = 0 + vq_sum 13 (fun k => vq_sum 13 (fun l => vq_is f W H (0 - 6 + nI k) (0 - 6 + nI l) c)) := by
    unfold vq_ar
    rw [show (fun x s => vq_fold (fun y s => s + vq_is f W H x y c) (fun y => 0 + 6 < y) (vq_fu 0 6) (0 - 6) s) = fun x s => s + vq_sum (vq_fu 0 6) (fun k => vq_is f W H x (0 - 6 + nI k) c) from funext fun x => funext fun s => vq_fold_sum (fun y => vq_is f W H x y c) i2 _ _ _ i1]
    rw [vq_fold_sum (fun x => vq_sum (vq_fu 0 6) (fun k => vq_is f W H x (0 - 6 + nI k) c)) i2 _ _ _ i1, vq_fu6]
  rw [e, Int32.zero_add]
  have hin : ∀ x, 0 ≤ (vq_sum 13 (fun l => vq_is f W H x (0 - 6 + nI l) c)).toInt ∧ (vq_sum 13 (fun l => vq_is f W H x (0 - 6 + nI l) c)).toInt ≤ ((6 * 1 : Nat) : Int) := fun x => vq_sum13 (by decide) _ (fun k _ => vq_is01) (fun k hk => vq_isz (by rw [vq_c6 (show k < 13 by omega)]; omega))
  rw [vq_sum_pos (M := 6) (by decide) 13 (fun k => vq_sum 13 (fun l => vq_is f W H (0 - 6 + nI k) (0 - 6 + nI l) c)) (by decide) (fun k _ => hin _)]
  constructor
  · rintro ⟨k, hk, h⟩
    obtain ⟨l, hl, h2⟩ := (vq_sum_pos (M := 1) (by decide) 13 (fun l => vq_is f W H (0 - 6 + nI k) (0 - 6 + nI l) c) (by decide) (fun l _ => vq_is01)).mp h
    obtain ⟨h3, h4⟩ := vq_is_pos.mp h2
    rw [vq_c6 hk, vq_c6 hl] at h3 h4
    exact ⟨((k : Int) - 6).toNat, ((l : Int) - 6).toNat, by omega, by omega, h4⟩
  · rintro ⟨a, b, ha, hb, h⟩
    refine ⟨a + 6, by omega, (vq_sum_pos (M := 1) (by decide) 13 (fun l => vq_is f W H (0 - 6 + nI (a + 6)) (0 - 6 + nI l) c) (by decide) (fun l _ => vq_is01)).mpr ⟨b + 6, by omega, vq_is_pos.mpr ?_⟩⟩
    rw [vq_c6 (show a + 6 < 13 by omega), vq_c6 (show b + 6 < 13 by omega), show (((a + 6 : Nat) : Int) - 6).toNat = a by omega, show (((b + 6 : Nat) : Int) - 6).toNat = b by omega]
    exact ⟨by omega, h⟩
theorem vq_gzN {f : Nat → Int32} {W H M c : Nat} (hW : W ≤ 6) (hH : H ≤ 6) (h : M.testBit c = true ↔ ∃ a b, a < W ∧ b < H ∧ f (b * 6 + a) = nI c) : vq_gz (vq_ar f W H 0 0 6 (nI c)) = nI (vq_tb M c) := by
  have e0 : (0 : Int32).toInt = 0 := by decide
  have hp := vq_ar_pos (f := f) hW hH (nI c)
  unfold vq_gz vq_tb
  by_cases q : M.testBit c = true
  · rw [if_pos q, if_neg]
    · rfl
    · rw [Int32.le_iff_toInt_le, e0]
      have := hp.mpr (h.mp q)
      omega
  · rw [if_neg q, if_pos]
    · rfl
    · rw [Int32.le_iff_toInt_le, e0]
      have h2 : ¬ 0 < (vq_ar f W H 0 0 6 (nI c)).toInt := fun z => q (h.mpr (hp.mp z))
      omega
theorem vq_cols {f : Nat → Int32} {W H : Nat} (hW : W ≤ 6) (hH : H ≤ 6) (hc : ∀ i, i < 36 → sm_colB (f i)) : vq_pl 1024 (vq_orr (fun a b => f (((0 + b) * 6) + (0 + a))) W H) 0 = vq_fn (fun c s => s + vq_gz (vq_ar f W H 0 0 6 (nI c))) 10 0 0 := by
  obtain ⟨M, hM, e, hb⟩ := vq_orrN (F := fun a b => f (((0 + b) * 6) + (0 + a))) (P := W) (Q := H) (fun a b ha hb => sm_colN (hc _ (by omega)))
  have hb2 : ∀ c, c ≤ 9 → (M.testBit c = true ↔ ∃ a b, a < W ∧ b < H ∧ f (b * 6 + a) = nI c) := fun c hc => by
    rw [hb c hc]
    constructor
    · rintro ⟨a, b, h1, h2, h3⟩
      have h4 : f (((0 + b) * 6) + (0 + a)) = nI c := h3
      rw [Nat.zero_add, Nat.zero_add] at h4
      exact ⟨a, b, h1, h2, h4⟩
    · rintro ⟨a, b, h1, h2, h3⟩
      refine ⟨a, b, h1, h2, ?_⟩
      show f (((0 + b) * 6) + (0 + a)) = nI c
      rw [Nat.zero_add, Nat.zero_add]
      exact h3
  have g : ∀ c, c ≤ 9 → vq_gz (vq_ar f W H 0 0 6 (nI c)) = nI (vq_tb M c) := fun c hc => vq_gzN hW hH (hb2 c hc)
  rw [e, vq_pl_ct hM, vq_fn_sum0 (fun c => vq_gz (vq_ar f W H 0 0 6 (nI c))) 10 0, Int32.zero_add, vq_sum_eq 10 (fun c => vq_gz (vq_ar f W H 0 0 6 (nI c))) (fun c => nI (vq_tb M c)) (fun k hk => g k (by omega))]
  show nI (vq_ct M) = nI (vq_tb M 0) + (nI (vq_tb M 1) + (nI (vq_tb M 2) + (nI (vq_tb M 3) + (nI (vq_tb M 4) + (nI (vq_tb M 5) + (nI (vq_tb M 6) + (nI (vq_tb M 7) + (nI (vq_tb M 8) + (nI (vq_tb M 9) + nI 0)))))))))
  rw [nI_add, nI_add, nI_add, nI_add, nI_add, nI_add, nI_add, nI_add, nI_add, nI_add]
  refine congrArg nI ?_
  unfold vq_ct
  omega
set_option maxHeartbeats 4000000 in
set_option maxRecDepth 100000 in
theorem vr_col {m : mz_M} {A B : Nat} (hA : A < 6) (hB : B < 6) {a b : Int32} (ea : a = nI A) (eb : b = nI B) : mz_Me 3 mz_r186 [.ref 65, .int a, .int b] m (some (.int (m 66 ((70 + (6 * B)) + A)))) m := by
  subst ea
  subst eb
  refine ⟨?_, rfl⟩
  refine mz_go 9 (c' := (13, [some (.ref 65), some (.int (nI A)), some (.int (nI B))], [.int ((70 + (6 * (nI B))) + (nI A)), .ref 66], m)) rfl ?_
  refine mz_arr (c' := (14, [some (.ref 65), some (.int (nI A)), some (.int (nI B))], [.int (m 66 (((70 + (6 * (nI B))) + (nI A)).toNatClampNeg))], m)) rfl (show mz_in ((70 + (6 * (nI B))) + (nI A)) 650 = true from sm_inN (sm_addN (sm_addN rfl (sm_mulN rfl rfl)) rfl) (show ((70 + (6 * B)) + A) < 650 by omega) (by decide)) ?_
  rw [show ((70 + (6 * (nI B))) + (nI A) : Int32).toNatClampNeg = ((70 + (6 * B)) + A) from sm_clN (sm_addN (sm_addN rfl (sm_mulN rfl rfl)) rfl) (show ((70 + (6 * B)) + A) < 2 ^ 31 by omega)]
  exact mz_ret rfl
theorem vr_colw {w m : mz_M} (hbc : ∀ i, i < 36 → m 66 (70 + i) = w 21 i) {A B : Nat} (hA : A < 6) (hB : B < 6) {a b : Int32} (ea : a = nI A) (eb : b = nI B) : mz_Me 3 mz_r186 [.ref 65, .int a, .int b] m (some (.int (w 21 ((B * 6) + A)))) m := by
  rw [← hbc ((B * 6) + A) (by omega), show 70 + ((B * 6) + A) = (70 + (6 * B)) + A by omega]
  exact vr_col hA hB ea eb
set_option maxHeartbeats 4000000 in
set_option maxRecDepth 100000 in
theorem vc_aroi {m : mz_M} {WW HH : Nat} (hWW : WW ≤ 6) (hHH : HH ≤ 6) (h202 : m 20 2 = nI WW) (h203 : m 20 3 = nI HH) {i j d : Int32} (hBi : sm_B 1000 i) (hBj : sm_B 1000 j) (hBd : sm_B 1000 d) (c : Int32) (x6 : Int32) {po : Int32 → Prop} {AA : Int32} (HX : ∀ (x7 : Int32) (x5 : Int32) (hv : x5 = AA), ∃ v, mz_Ex 14 mz_k10 (62, [some (.ref 20), some (.int i), some (.int j), some (.int d), some (.int c), some (.int x5), some (.int x6), some (.int x7)], [], m) (some (.int v), m) ∧ po v) : ∀ fu : Nat, ∀ x7 : Int32, (i + d).toInt - x7.toInt < (fu : Int) → ∀ (x5 : Int32), (hv : vq_fold (fun a s => s + vq_is (m 21) WW HH a x6 c) (fun a => i + d < a) fu x7 x5 = AA) → ∃ v, mz_Ex 14 mz_k10 (21, [some (.ref 20), some (.int i), some (.int j), some (.int d), some (.int c), some (.int x5), some (.int x6), some (.int x7)], [], m) (some (.int v), m) ∧ po v := by
  intro fu
  induction fu with
  | zero =>
    intro x7 hms x5 hv
    have hmz : (i + d) < x7 := sm_mz1 hms
    obtain ⟨vr, hr, hpo⟩ := HX x7 x5 ((vq_fold_out (g := (fun a s => s + vq_is (m 21) WW HH a x6 c)) (o := (fun a => i + d < a)) hmz).symm.trans hv)
    refine ⟨vr, ?_, hpo⟩
    refine mz_go 5 (c' := (if (i + d) < x7 then 62 else 29, [some (.ref 20), some (.int i), some (.int j), some (.int d), some (.int c), some (.int x5), some (.int x6), some (.int x7)], [], m)) rfl ?_
    refine mz_ifT hmz ?_
    exact hr
  | succ fu ih =>
    intro x7 hms x5 hv
    by_cases q1 : (i + d) < x7
    · obtain ⟨vr, hr, hpo⟩ := HX x7 x5 ((vq_fold_out (g := (fun a s => s + vq_is (m 21) WW HH a x6 c)) (o := (fun a => i + d < a)) q1).symm.trans hv)
      refine ⟨vr, ?_, hpo⟩
      refine mz_go 5 (c' := (if (i + d) < x7 then 62 else 29, [some (.ref 20), some (.int i), some (.int j), some (.int d), some (.int c), some (.int x5), some (.int x6), some (.int x7)], [], m)) rfl ?_
      refine mz_ifT q1 ?_
      exact hr
    · by_cases q2 : x7 < 0
      · obtain ⟨vr, hr, hpo⟩ := ih (x7 + 1) (sm_me1 (sm_hA hBi hBd) q1 hms) x5 ((vq_fold_in (g := (fun a s => s + vq_is (m 21) WW HH a x6 c)) (o := (fun a => i + d < a)) q1 (vq_s1 q2)).symm.trans hv)
        refine ⟨vr, ?_, hpo⟩
        refine mz_go 5 (c' := (if (i + d) < x7 then 62 else 29, [some (.ref 20), some (.int i), some (.int j), some (.int d), some (.int c), some (.int x5), some (.int x6), some (.int x7)], [], m)) rfl ?_
        refine mz_ifF q1 ?_
        refine mz_go 3 (c' := (34, [some (.ref 20), some (.int i), some (.int j), some (.int d), some (.int c), some (.int x5), some (.int x6), some (.int x7)], [.int x6, .int x7, .ref 20], m)) rfl ?_
        refine mz_do (R := mz_r4) (as := [.ref 20, .int x7, .int x6]) (rest := []) (r1 := some (.int 0)) (m1 := m) rfl ⟨?_, rfl⟩ ?_
        · refine mz_go 2 (c' := (if x7 < 0 then 40 else 4, [some (.ref 20), some (.int x7), some (.int x6)], [], m)) rfl ?_
          refine mz_ifT q2 ?_
          refine mz_go 1 (c' := (41, [some (.ref 20), some (.int x7), some (.int x6)], [.int 0], m)) rfl ?_
          exact mz_ret rfl
        refine mz_go 3 (c' := (21, [some (.ref 20), some (.int i), some (.int j), some (.int d), some (.int c), some (.int x5), some (.int x6), some (.int (x7 + 1))], [], m)) rfl ?_
        exact hr
      · obtain ⟨jx7, hjx7, rfl⟩ := nI_of q2
        by_cases q3 : WW ≤ jx7
        · obtain ⟨vr, hr, hpo⟩ := ih ((nI jx7) + 1) (sm_me1 (sm_hA hBi hBd) q1 hms) x5 ((vq_fold_in (g := (fun a s => s + vq_is (m 21) WW HH a x6 c)) (o := (fun a => i + d < a)) q1 (vq_s2 hjx7 (by omega))).symm.trans hv)
          refine ⟨vr, ?_, hpo⟩
          refine mz_go 5 (c' := (if (i + d) < (nI jx7) then 62 else 29, [some (.ref 20), some (.int i), some (.int j), some (.int d), some (.int c), some (.int x5), some (.int x6), some (.int (nI jx7))], [], m)) rfl ?_
          refine mz_ifF q1 ?_
          refine mz_go 3 (c' := (34, [some (.ref 20), some (.int i), some (.int j), some (.int d), some (.int c), some (.int x5), some (.int x6), some (.int (nI jx7))], [.int x6, .int (nI jx7), .ref 20], m)) rfl ?_
          refine mz_do (R := mz_r4) (as := [.ref 20, .int (nI jx7), .int x6]) (rest := []) (r1 := some (.int 0)) (m1 := m) rfl ⟨?_, rfl⟩ ?_
          · refine mz_go 2 (c' := (if (nI jx7) < 0 then 40 else 4, [some (.ref 20), some (.int (nI jx7)), some (.int x6)], [], m)) rfl ?_
            refine mz_ifF q2 ?_
            refine mz_go 3 (c' := (9, [some (.ref 20), some (.int (nI jx7)), some (.int x6)], [.int (m 20 2), .int (nI jx7)], m)) rfl ?_
            rw [h202]
            refine mz_go 1 (c' := (if (nI WW) ≤ (nI jx7) then 40 else 12, [some (.ref 20), some (.int (nI jx7)), some (.int x6)], [], m)) rfl ?_
            refine mz_ifT (show ((nI WW) ≤ (nI jx7)) from (sm_leN rfl rfl (show WW ≤ jx7 by omega) (show jx7 < 2 ^ 31 by omega))) ?_
            refine mz_go 1 (c' := (41, [some (.ref 20), some (.int (nI jx7)), some (.int x6)], [.int 0], m)) rfl ?_
            exact mz_ret rfl
          refine mz_go 3 (c' := (21, [some (.ref 20), some (.int i), some (.int j), some (.int d), some (.int c), some (.int x5), some (.int x6), some (.int ((nI jx7) + 1))], [], m)) rfl ?_
          exact hr
        · by_cases q4 : x6 < 0
          · obtain ⟨vr, hr, hpo⟩ := ih ((nI jx7) + 1) (sm_me1 (sm_hA hBi hBd) q1 hms) x5 ((vq_fold_in (g := (fun a s => s + vq_is (m 21) WW HH a x6 c)) (o := (fun a => i + d < a)) q1 (vq_s3 q4)).symm.trans hv)
            refine ⟨vr, ?_, hpo⟩
            refine mz_go 5 (c' := (if (i + d) < (nI jx7) then 62 else 29, [some (.ref 20), some (.int i), some (.int j), some (.int d), some (.int c), some (.int x5), some (.int x6), some (.int (nI jx7))], [], m)) rfl ?_
            refine mz_ifF q1 ?_
            refine mz_go 3 (c' := (34, [some (.ref 20), some (.int i), some (.int j), some (.int d), some (.int c), some (.int x5), some (.int x6), some (.int (nI jx7))], [.int x6, .int (nI jx7), .ref 20], m)) rfl ?_
            refine mz_do (R := mz_r4) (as := [.ref 20, .int (nI jx7), .int x6]) (rest := []) (r1 := some (.int 0)) (m1 := m) rfl ⟨?_, rfl⟩ ?_
            · refine mz_go 2 (c' := (if (nI jx7) < 0 then 40 else 4, [some (.ref 20), some (.int (nI jx7)), some (.int x6)], [], m)) rfl ?_
              refine mz_ifF q2 ?_
              refine mz_go 3 (c' := (9, [some (.ref 20), some (.int (nI jx7)), some (.int x6)], [.int (m 20 2), .int (nI jx7)], m)) rfl ?_
              rw [h202]
              refine mz_go 1 (c' := (if (nI WW) ≤ (nI jx7) then 40 else 12, [some (.ref 20), some (.int (nI jx7)), some (.int x6)], [], m)) rfl ?_
              refine mz_ifF (show ¬ ((nI WW) ≤ (nI jx7)) from (sm_nleN rfl rfl (show jx7 < WW by omega) (show WW < 2 ^ 31 by omega))) ?_
              refine mz_go 3 (c' := (if 6 ≤ (nI jx7) then 40 else 18, [some (.ref 20), some (.int (nI jx7)), some (.int x6)], [], m)) rfl ?_
              refine mz_ifF (show ¬ (6 ≤ (nI jx7)) from (sm_nleN rfl rfl (show jx7 < 6 by omega) (show 6 < 2 ^ 31 by omega))) ?_
              refine mz_go 2 (c' := (if x6 < 0 then 40 else 22, [some (.ref 20), some (.int (nI jx7)), some (.int x6)], [], m)) rfl ?_
              refine mz_ifT q4 ?_
              refine mz_go 1 (c' := (41, [some (.ref 20), some (.int (nI jx7)), some (.int x6)], [.int 0], m)) rfl ?_
              exact mz_ret rfl
            refine mz_go 3 (c' := (21, [some (.ref 20), some (.int i), some (.int j), some (.int d), some (.int c), some (.int x5), some (.int x6), some (.int ((nI jx7) + 1))], [], m)) rfl ?_
            exact hr
          · obtain ⟨jx6, hjx6, rfl⟩ := nI_of q4
            by_cases q5 : HH ≤ jx6
            · obtain ⟨vr, hr, hpo⟩ := ih ((nI jx7) + 1) (sm_me1 (sm_hA hBi hBd) q1 hms) x5 ((vq_fold_in (g := (fun a s => s + vq_is (m 21) WW HH a (nI jx6) c)) (o := (fun a => i + d < a)) q1 (vq_s4 hjx6 (by omega))).symm.trans hv)
              refine ⟨vr, ?_, hpo⟩
              refine mz_go 5 (c' := (if (i + d) < (nI jx7) then 62 else 29, [some (.ref 20), some (.int i), some (.int j), some (.int d), some (.int c), some (.int x5), some (.int (nI jx6)), some (.int (nI jx7))], [], m)) rfl ?_
              refine mz_ifF q1 ?_
              refine mz_go 3 (c' := (34, [some (.ref 20), some (.int i), some (.int j), some (.int d), some (.int c), some (.int x5), some (.int (nI jx6)), some (.int (nI jx7))], [.int (nI jx6), .int (nI jx7), .ref 20], m)) rfl ?_
              refine mz_do (R := mz_r4) (as := [.ref 20, .int (nI jx7), .int (nI jx6)]) (rest := []) (r1 := some (.int 0)) (m1 := m) rfl ⟨?_, rfl⟩ ?_
              · refine mz_go 2 (c' := (if (nI jx7) < 0 then 40 else 4, [some (.ref 20), some (.int (nI jx7)), some (.int (nI jx6))], [], m)) rfl ?_
                refine mz_ifF q2 ?_
                refine mz_go 3 (c' := (9, [some (.ref 20), some (.int (nI jx7)), some (.int (nI jx6))], [.int (m 20 2), .int (nI jx7)], m)) rfl ?_
                rw [h202]
                refine mz_go 1 (c' := (if (nI WW) ≤ (nI jx7) then 40 else 12, [some (.ref 20), some (.int (nI jx7)), some (.int (nI jx6))], [], m)) rfl ?_
                refine mz_ifF (show ¬ ((nI WW) ≤ (nI jx7)) from (sm_nleN rfl rfl (show jx7 < WW by omega) (show WW < 2 ^ 31 by omega))) ?_
                refine mz_go 3 (c' := (if 6 ≤ (nI jx7) then 40 else 18, [some (.ref 20), some (.int (nI jx7)), some (.int (nI jx6))], [], m)) rfl ?_
                refine mz_ifF (show ¬ (6 ≤ (nI jx7)) from (sm_nleN rfl rfl (show jx7 < 6 by omega) (show 6 < 2 ^ 31 by omega))) ?_
                refine mz_go 2 (c' := (if (nI jx6) < 0 then 40 else 22, [some (.ref 20), some (.int (nI jx7)), some (.int (nI jx6))], [], m)) rfl ?_
                refine mz_ifF q4 ?_
                refine mz_go 3 (c' := (27, [some (.ref 20), some (.int (nI jx7)), some (.int (nI jx6))], [.int (m 20 3), .int (nI jx6)], m)) rfl ?_
                rw [h203]
                refine mz_go 1 (c' := (if (nI HH) ≤ (nI jx6) then 40 else 30, [some (.ref 20), some (.int (nI jx7)), some (.int (nI jx6))], [], m)) rfl ?_
                refine mz_ifT (show ((nI HH) ≤ (nI jx6)) from (sm_leN rfl rfl (show HH ≤ jx6 by omega) (show jx6 < 2 ^ 31 by omega))) ?_
                refine mz_go 1 (c' := (41, [some (.ref 20), some (.int (nI jx7)), some (.int (nI jx6))], [.int 0], m)) rfl ?_
                exact mz_ret rfl
              refine mz_go 3 (c' := (21, [some (.ref 20), some (.int i), some (.int j), some (.int d), some (.int c), some (.int x5), some (.int (nI jx6)), some (.int ((nI jx7) + 1))], [], m)) rfl ?_
              exact hr
            · by_cases q6 : (m 21 ((jx6 * 6) + jx7)) = c
              · obtain ⟨vr, hr, hpo⟩ := ih ((nI jx7) + 1) (sm_me1 (sm_hA hBi hBd) q1 hms) (x5 + 1) ((vq_fold_in (g := (fun a s => s + vq_is (m 21) WW HH a (nI jx6) c)) (o := (fun a => i + d < a)) q1 (vq_s5 (f := (m 21)) (by omega) (by omega) hWW hHH q6)).symm.trans hv)
                refine ⟨vr, ?_, hpo⟩
                refine mz_go 5 (c' := (if (i + d) < (nI jx7) then 62 else 29, [some (.ref 20), some (.int i), some (.int j), some (.int d), some (.int c), some (.int x5), some (.int (nI jx6)), some (.int (nI jx7))], [], m)) rfl ?_
                refine mz_ifF q1 ?_
                refine mz_go 3 (c' := (34, [some (.ref 20), some (.int i), some (.int j), some (.int d), some (.int c), some (.int x5), some (.int (nI jx6)), some (.int (nI jx7))], [.int (nI jx6), .int (nI jx7), .ref 20], m)) rfl ?_
                refine mz_do (R := mz_r4) (as := [.ref 20, .int (nI jx7), .int (nI jx6)]) (rest := []) (r1 := some (.int 1)) (m1 := m) rfl ⟨?_, rfl⟩ ?_
                · refine mz_go 2 (c' := (if (nI jx7) < 0 then 40 else 4, [some (.ref 20), some (.int (nI jx7)), some (.int (nI jx6))], [], m)) rfl ?_
                  refine mz_ifF q2 ?_
                  refine mz_go 3 (c' := (9, [some (.ref 20), some (.int (nI jx7)), some (.int (nI jx6))], [.int (m 20 2), .int (nI jx7)], m)) rfl ?_
                  rw [h202]
                  refine mz_go 1 (c' := (if (nI WW) ≤ (nI jx7) then 40 else 12, [some (.ref 20), some (.int (nI jx7)), some (.int (nI jx6))], [], m)) rfl ?_
                  refine mz_ifF (show ¬ ((nI WW) ≤ (nI jx7)) from (sm_nleN rfl rfl (show jx7 < WW by omega) (show WW < 2 ^ 31 by omega))) ?_
                  refine mz_go 3 (c' := (if 6 ≤ (nI jx7) then 40 else 18, [some (.ref 20), some (.int (nI jx7)), some (.int (nI jx6))], [], m)) rfl ?_
                  refine mz_ifF (show ¬ (6 ≤ (nI jx7)) from (sm_nleN rfl rfl (show jx7 < 6 by omega) (show 6 < 2 ^ 31 by omega))) ?_
                  refine mz_go 2 (c' := (if (nI jx6) < 0 then 40 else 22, [some (.ref 20), some (.int (nI jx7)), some (.int (nI jx6))], [], m)) rfl ?_
                  refine mz_ifF q4 ?_
                  refine mz_go 3 (c' := (27, [some (.ref 20), some (.int (nI jx7)), some (.int (nI jx6))], [.int (m 20 3), .int (nI jx6)], m)) rfl ?_
                  rw [h203]
                  refine mz_go 1 (c' := (if (nI HH) ≤ (nI jx6) then 40 else 30, [some (.ref 20), some (.int (nI jx7)), some (.int (nI jx6))], [], m)) rfl ?_
                  refine mz_ifF (show ¬ ((nI HH) ≤ (nI jx6)) from (sm_nleN rfl rfl (show jx6 < HH by omega) (show HH < 2 ^ 31 by omega))) ?_
                  refine mz_go 3 (c' := (if 6 ≤ (nI jx6) then 40 else 36, [some (.ref 20), some (.int (nI jx7)), some (.int (nI jx6))], [], m)) rfl ?_
                  refine mz_ifF (show ¬ (6 ≤ (nI jx6)) from (sm_nleN rfl rfl (show jx6 < 6 by omega) (show 6 < 2 ^ 31 by omega))) ?_
                  refine mz_go 2 (c' := (41, [some (.ref 20), some (.int (nI jx7)), some (.int (nI jx6))], [.int 1], m)) rfl ?_
                  exact mz_ret rfl
                refine mz_go 4 (c' := (45, [some (.ref 20), some (.int i), some (.int j), some (.int d), some (.int c), some (.int x5), some (.int (nI jx6)), some (.int (nI jx7))], [.int (nI jx6), .int (nI jx7), .ref 20], m)) rfl ?_
                refine mz_do (R := mz_r7) (as := [.ref 20, .int (nI jx7), .int (nI jx6)]) (rest := []) (r1 := some (.int (m 21 ((jx6 * 6) + jx7)))) (m1 := m) rfl ⟨?_, rfl⟩ ?_
                · refine mz_go 3 (c' := (3, [some (.ref 20), some (.int (nI jx7)), some (.int (nI jx6))], [.int (nI jx6), .int (nI jx7), .ref 20], m)) rfl ?_
                  refine mz_do (R := mz_r4) (as := [.ref 20, .int (nI jx7), .int (nI jx6)]) (rest := []) (r1 := some (.int 1)) (m1 := m) rfl ⟨?_, rfl⟩ ?_
                  · refine mz_go 2 (c' := (if (nI jx7) < 0 then 40 else 4, [some (.ref 20), some (.int (nI jx7)), some (.int (nI jx6))], [], m)) rfl ?_
                    refine mz_ifF q2 ?_
                    refine mz_go 3 (c' := (9, [some (.ref 20), some (.int (nI jx7)), some (.int (nI jx6))], [.int (m 20 2), .int (nI jx7)], m)) rfl ?_
                    rw [h202]
                    refine mz_go 1 (c' := (if (nI WW) ≤ (nI jx7) then 40 else 12, [some (.ref 20), some (.int (nI jx7)), some (.int (nI jx6))], [], m)) rfl ?_
                    refine mz_ifF (show ¬ ((nI WW) ≤ (nI jx7)) from (sm_nleN rfl rfl (show jx7 < WW by omega) (show WW < 2 ^ 31 by omega))) ?_
                    refine mz_go 3 (c' := (if 6 ≤ (nI jx7) then 40 else 18, [some (.ref 20), some (.int (nI jx7)), some (.int (nI jx6))], [], m)) rfl ?_
                    refine mz_ifF (show ¬ (6 ≤ (nI jx7)) from (sm_nleN rfl rfl (show jx7 < 6 by omega) (show 6 < 2 ^ 31 by omega))) ?_
                    refine mz_go 2 (c' := (if (nI jx6) < 0 then 40 else 22, [some (.ref 20), some (.int (nI jx7)), some (.int (nI jx6))], [], m)) rfl ?_
                    refine mz_ifF q4 ?_
                    refine mz_go 3 (c' := (27, [some (.ref 20), some (.int (nI jx7)), some (.int (nI jx6))], [.int (m 20 3), .int (nI jx6)], m)) rfl ?_
                    rw [h203]
                    refine mz_go 1 (c' := (if (nI HH) ≤ (nI jx6) then 40 else 30, [some (.ref 20), some (.int (nI jx7)), some (.int (nI jx6))], [], m)) rfl ?_
                    refine mz_ifF (show ¬ ((nI HH) ≤ (nI jx6)) from (sm_nleN rfl rfl (show jx6 < HH by omega) (show HH < 2 ^ 31 by omega))) ?_
                    refine mz_go 3 (c' := (if 6 ≤ (nI jx6) then 40 else 36, [some (.ref 20), some (.int (nI jx7)), some (.int (nI jx6))], [], m)) rfl ?_
                    refine mz_ifF (show ¬ (6 ≤ (nI jx6)) from (sm_nleN rfl rfl (show jx6 < 6 by omega) (show 6 < 2 ^ 31 by omega))) ?_
                    refine mz_go 2 (c' := (41, [some (.ref 20), some (.int (nI jx7)), some (.int (nI jx6))], [.int 1], m)) rfl ?_
                    exact mz_ret rfl
                  refine mz_go 8 (c' := (19, [some (.ref 20), some (.int (nI jx7)), some (.int (nI jx6))], [.int (((nI jx6) * 6) + (nI jx7)), .ref 21], m)) rfl ?_
                  refine mz_arr (c' := (20, [some (.ref 20), some (.int (nI jx7)), some (.int (nI jx6))], [.int (m 21 ((((nI jx6) * 6) + (nI jx7)).toNatClampNeg))], m)) rfl (show mz_in (((nI jx6) * 6) + (nI jx7)) 36 = true from sm_inN (sm_addN (sm_mulN rfl rfl) rfl) (show ((jx6 * 6) + jx7) < 36 by omega) (by decide)) ?_
                  rw [show (((nI jx6) * 6) + (nI jx7) : Int32).toNatClampNeg = ((jx6 * 6) + jx7) from sm_clN (sm_addN (sm_mulN rfl rfl) rfl) (show ((jx6 * 6) + jx7) < 2 ^ 31 by omega)]
                  refine mz_go 1 (c' := (25, [some (.ref 20), some (.int (nI jx7)), some (.int (nI jx6))], [.int (m 21 ((jx6 * 6) + jx7))], m)) rfl ?_
                  exact mz_ret rfl
                refine mz_go 2 (c' := (if (m 21 ((jx6 * 6) + jx7)) = c then 53 else 56, [some (.ref 20), some (.int i), some (.int j), some (.int d), some (.int c), some (.int x5), some (.int (nI jx6)), some (.int (nI jx7))], [], m)) rfl ?_
                refine mz_ifT q6 ?_
                refine mz_go 3 (c' := (21, [some (.ref 20), some (.int i), some (.int j), some (.int d), some (.int c), some (.int (x5 + 1)), some (.int (nI jx6)), some (.int ((nI jx7) + 1))], [], m)) rfl ?_
                exact hr
              · obtain ⟨vr, hr, hpo⟩ := ih ((nI jx7) + 1) (sm_me1 (sm_hA hBi hBd) q1 hms) x5 ((vq_fold_in (g := (fun a s => s + vq_is (m 21) WW HH a (nI jx6) c)) (o := (fun a => i + d < a)) q1 (vq_s6 (f := (m 21)) (by omega) (by omega) hWW hHH q6)).symm.trans hv)
                refine ⟨vr, ?_, hpo⟩
                refine mz_go 5 (c' := (if (i + d) < (nI jx7) then 62 else 29, [some (.ref 20), some (.int i), some (.int j), some (.int d), some (.int c), some (.int x5), some (.int (nI jx6)), some (.int (nI jx7))], [], m)) rfl ?_
                refine mz_ifF q1 ?_
                refine mz_go 3 (c' := (34, [some (.ref 20), some (.int i), some (.int j), some (.int d), some (.int c), some (.int x5), some (.int (nI jx6)), some (.int (nI jx7))], [.int (nI jx6), .int (nI jx7), .ref 20], m)) rfl ?_
                refine mz_do (R := mz_r4) (as := [.ref 20, .int (nI jx7), .int (nI jx6)]) (rest := []) (r1 := some (.int 1)) (m1 := m) rfl ⟨?_, rfl⟩ ?_
                · refine mz_go 2 (c' := (if (nI jx7) < 0 then 40 else 4, [some (.ref 20), some (.int (nI jx7)), some (.int (nI jx6))], [], m)) rfl ?_
                  refine mz_ifF q2 ?_
                  refine mz_go 3 (c' := (9, [some (.ref 20), some (.int (nI jx7)), some (.int (nI jx6))], [.int (m 20 2), .int (nI jx7)], m)) rfl ?_
                  rw [h202]
                  refine mz_go 1 (c' := (if (nI WW) ≤ (nI jx7) then 40 else 12, [some (.ref 20), some (.int (nI jx7)), some (.int (nI jx6))], [], m)) rfl ?_
                  refine mz_ifF (show ¬ ((nI WW) ≤ (nI jx7)) from (sm_nleN rfl rfl (show jx7 < WW by omega) (show WW < 2 ^ 31 by omega))) ?_
                  refine mz_go 3 (c' := (if 6 ≤ (nI jx7) then 40 else 18, [some (.ref 20), some (.int (nI jx7)), some (.int (nI jx6))], [], m)) rfl ?_
                  refine mz_ifF (show ¬ (6 ≤ (nI jx7)) from (sm_nleN rfl rfl (show jx7 < 6 by omega) (show 6 < 2 ^ 31 by omega))) ?_
                  refine mz_go 2 (c' := (if (nI jx6) < 0 then 40 else 22, [some (.ref 20), some (.int (nI jx7)), some (.int (nI jx6))], [], m)) rfl ?_
                  refine mz_ifF q4 ?_
                  refine mz_go 3 (c' := (27, [some (.ref 20), some (.int (nI jx7)), some (.int (nI jx6))], [.int (m 20 3), .int (nI jx6)], m)) rfl ?_
                  rw [h203]
                  refine mz_go 1 (c' := (if (nI HH) ≤ (nI jx6) then 40 else 30, [some (.ref 20), some (.int (nI jx7)), some (.int (nI jx6))], [], m)) rfl ?_
                  refine mz_ifF (show ¬ ((nI HH) ≤ (nI jx6)) from (sm_nleN rfl rfl (show jx6 < HH by omega) (show HH < 2 ^ 31 by omega))) ?_
                  refine mz_go 3 (c' := (if 6 ≤ (nI jx6) then 40 else 36, [some (.ref 20), some (.int (nI jx7)), some (.int (nI jx6))], [], m)) rfl ?_
                  refine mz_ifF (show ¬ (6 ≤ (nI jx6)) from (sm_nleN rfl rfl (show jx6 < 6 by omega) (show 6 < 2 ^ 31 by omega))) ?_
                  refine mz_go 2 (c' := (41, [some (.ref 20), some (.int (nI jx7)), some (.int (nI jx6))], [.int 1], m)) rfl ?_
                  exact mz_ret rfl
                refine mz_go 4 (c' := (45, [some (.ref 20), some (.int i), some (.int j), some (.int d), some (.int c), some (.int x5), some (.int (nI jx6)), some (.int (nI jx7))], [.int (nI jx6), .int (nI jx7), .ref 20], m)) rfl ?_
                refine mz_do (R := mz_r7) (as := [.ref 20, .int (nI jx7), .int (nI jx6)]) (rest := []) (r1 := some (.int (m 21 ((jx6 * 6) + jx7)))) (m1 := m) rfl ⟨?_, rfl⟩ ?_
                · refine mz_go 3 (c' := (3, [some (.ref 20), some (.int (nI jx7)), some (.int (nI jx6))], [.int (nI jx6), .int (nI jx7), .ref 20], m)) rfl ?_
                  refine mz_do (R := mz_r4) (as := [.ref 20, .int (nI jx7), .int (nI jx6)]) (rest := []) (r1 := some (.int 1)) (m1 := m) rfl ⟨?_, rfl⟩ ?_
                  · refine mz_go 2 (c' := (if (nI jx7) < 0 then 40 else 4, [some (.ref 20), some (.int (nI jx7)), some (.int (nI jx6))], [], m)) rfl ?_
                    refine mz_ifF q2 ?_
                    refine mz_go 3 (c' := (9, [some (.ref 20), some (.int (nI jx7)), some (.int (nI jx6))], [.int (m 20 2), .int (nI jx7)], m)) rfl ?_
                    rw [h202]
                    refine mz_go 1 (c' := (if (nI WW) ≤ (nI jx7) then 40 else 12, [some (.ref 20), some (.int (nI jx7)), some (.int (nI jx6))], [], m)) rfl ?_
                    refine mz_ifF (show ¬ ((nI WW) ≤ (nI jx7)) from (sm_nleN rfl rfl (show jx7 < WW by omega) (show WW < 2 ^ 31 by omega))) ?_
                    refine mz_go 3 (c' := (if 6 ≤ (nI jx7) then 40 else 18, [some (.ref 20), some (.int (nI jx7)), some (.int (nI jx6))], [], m)) rfl ?_
                    refine mz_ifF (show ¬ (6 ≤ (nI jx7)) from (sm_nleN rfl rfl (show jx7 < 6 by omega) (show 6 < 2 ^ 31 by omega))) ?_
                    refine mz_go 2 (c' := (if (nI jx6) < 0 then 40 else 22, [some (.ref 20), some (.int (nI jx7)), some (.int (nI jx6))], [], m)) rfl ?_
                    refine mz_ifF q4 ?_
                    refine mz_go 3 (c' := (27, [some (.ref 20), some (.int (nI jx7)), some (.int (nI jx6))], [.int (m 20 3), .int (nI jx6)], m)) rfl ?_
                    rw [h203]
                    refine mz_go 1 (c' := (if (nI HH) ≤ (nI jx6) then 40 else 30, [some (.ref 20), some (.int (nI jx7)), some (.int (nI jx6))], [], m)) rfl ?_
                    refine mz_ifF (show ¬ ((nI HH) ≤ (nI jx6)) from (sm_nleN rfl rfl (show jx6 < HH by omega) (show HH < 2 ^ 31 by omega))) ?_
                    refine mz_go 3 (c' := (if 6 ≤ (nI jx6) then 40 else 36, [some (.ref 20), some (.int (nI jx7)), some (.int (nI jx6))], [], m)) rfl ?_
                    refine mz_ifF (show ¬ (6 ≤ (nI jx6)) from (sm_nleN rfl rfl (show jx6 < 6 by omega) (show 6 < 2 ^ 31 by omega))) ?_
                    refine mz_go 2 (c' := (41, [some (.ref 20), some (.int (nI jx7)), some (.int (nI jx6))], [.int 1], m)) rfl ?_
                    exact mz_ret rfl
                  refine mz_go 8 (c' := (19, [some (.ref 20), some (.int (nI jx7)), some (.int (nI jx6))], [.int (((nI jx6) * 6) + (nI jx7)), .ref 21], m)) rfl ?_
                  refine mz_arr (c' := (20, [some (.ref 20), some (.int (nI jx7)), some (.int (nI jx6))], [.int (m 21 ((((nI jx6) * 6) + (nI jx7)).toNatClampNeg))], m)) rfl (show mz_in (((nI jx6) * 6) + (nI jx7)) 36 = true from sm_inN (sm_addN (sm_mulN rfl rfl) rfl) (show ((jx6 * 6) + jx7) < 36 by omega) (by decide)) ?_
                  rw [show (((nI jx6) * 6) + (nI jx7) : Int32).toNatClampNeg = ((jx6 * 6) + jx7) from sm_clN (sm_addN (sm_mulN rfl rfl) rfl) (show ((jx6 * 6) + jx7) < 2 ^ 31 by omega)]
                  refine mz_go 1 (c' := (25, [some (.ref 20), some (.int (nI jx7)), some (.int (nI jx6))], [.int (m 21 ((jx6 * 6) + jx7))], m)) rfl ?_
                  exact mz_ret rfl
                refine mz_go 2 (c' := (if (m 21 ((jx6 * 6) + jx7)) = c then 53 else 56, [some (.ref 20), some (.int i), some (.int j), some (.int d), some (.int c), some (.int x5), some (.int (nI jx6)), some (.int (nI jx7))], [], m)) rfl ?_
                refine mz_ifF q6 ?_
                refine mz_go 2 (c' := (21, [some (.ref 20), some (.int i), some (.int j), some (.int d), some (.int c), some (.int x5), some (.int (nI jx6)), some (.int ((nI jx7) + 1))], [], m)) rfl ?_
                exact hr
set_option maxHeartbeats 4000000 in
set_option maxRecDepth 100000 in
theorem vc_aroj {m : mz_M} {WW HH : Nat} (hWW : WW ≤ 6) (hHH : HH ≤ 6) (h202 : m 20 2 = nI WW) (h203 : m 20 3 = nI HH) {i j d : Int32} (hBi : sm_B 1000 i) (hBj : sm_B 1000 j) (hBd : sm_B 1000 d) (c : Int32)  {po : Int32 → Prop} {AA : Int32} (HX : ∀ (x6 : Int32) (x5 : Int32) (x7 : Option Value) (hv : x5 = AA), ∃ v, mz_Ex 14 mz_k10 (68, [some (.ref 20), some (.int i), some (.int j), some (.int d), some (.int c), some (.int x5), some (.int x6), x7], [], m) (some (.int v), m) ∧ po v) : ∀ fu : Nat, ∀ x6 : Int32, (j + d).toInt - x6.toInt < (fu : Int) → ∀ (x5 : Int32) (x7 : Option Value), (hv : vq_fold (fun b s => vq_fold (fun a s => s + vq_is (m 21) WW HH a b c) (fun a => i + d < a) (vq_fu i d) (i - d) s) (fun b => j + d < b) fu x6 x5 = AA) → ∃ v, mz_Ex 14 mz_k10 (8, [some (.ref 20), some (.int i), some (.int j), some (.int d), some (.int c), some (.int x5), some (.int x6), x7], [], m) (some (.int v), m) ∧ po v := by
  intro fu
  induction fu with
  | zero =>
    intro x6 hms x5 x7 hv
    have hmz : (j + d) < x6 := sm_mz1 hms
    obtain ⟨vr, hr, hpo⟩ := HX x6 x5 x7 ((vq_fold_out (g := (fun b s => vq_fold (fun a s => s + vq_is (m 21) WW HH a b c) (fun a => i + d < a) (vq_fu i d) (i - d) s)) (o := (fun b => j + d < b)) hmz).symm.trans hv)
    refine ⟨vr, ?_, hpo⟩
    refine mz_go 5 (c' := (if (j + d) < x6 then 68 else 16, [some (.ref 20), some (.int i), some (.int j), some (.int d), some (.int c), some (.int x5), some (.int x6), x7], [], m)) rfl ?_
    refine mz_ifT hmz ?_
    exact hr
  | succ fu ih =>
    intro x6 hms x5 x7 hv
    by_cases q1 : (j + d) < x6
    · obtain ⟨vr, hr, hpo⟩ := HX x6 x5 x7 ((vq_fold_out (g := (fun b s => vq_fold (fun a s => s + vq_is (m 21) WW HH a b c) (fun a => i + d < a) (vq_fu i d) (i - d) s)) (o := (fun b => j + d < b)) q1).symm.trans hv)
      refine ⟨vr, ?_, hpo⟩
      refine mz_go 5 (c' := (if (j + d) < x6 then 68 else 16, [some (.ref 20), some (.int i), some (.int j), some (.int d), some (.int c), some (.int x5), some (.int x6), x7], [], m)) rfl ?_
      refine mz_ifT q1 ?_
      exact hr
    · have HX1 : ∀ (x7_1 : Int32) (x5_1 : Int32) (hv_1 : x5_1 = vq_fold (fun a s => s + vq_is (m 21) WW HH a x6 c) (fun a => i + d < a) (((i + d : Int32).toInt - (i - d : Int32).toInt + 1).toNat) (i - d) x5), ∃ v, mz_Ex 14 mz_k10 (62, [some (.ref 20), some (.int i), some (.int j), some (.int d), some (.int c), some (.int x5_1), some (.int x6), some (.int x7_1)], [], m) (some (.int v), m) ∧ po v := by
        intro x7_1 x5_1 hv_1
        obtain ⟨vr, hr, hpo⟩ := ih (x6 + 1) (sm_me1 (sm_hA hBj hBd) q1 hms) x5_1 (some (.int x7_1)) ((vq_fold_in (g := (fun b s => vq_fold (fun a s => s + vq_is (m 21) WW HH a b c) (fun a => i + d < a) (vq_fu i d) (i - d) s)) (o := (fun b => j + d < b)) q1 hv_1.symm).symm.trans hv)
        refine ⟨vr, ?_, hpo⟩
        refine mz_go 2 (c' := (8, [some (.ref 20), some (.int i), some (.int j), some (.int d), some (.int c), some (.int x5_1), some (.int (x6 + 1)), some (.int x7_1)], [], m)) rfl ?_
        exact hr
      obtain ⟨vr, hr, hpo⟩ := vc_aroi hWW hHH h202 h203 hBi hBj hBd c x6 HX1 ((i + d : Int32).toInt - (i - d : Int32).toInt + 1).toNat (i - d) (by omega) x5 rfl
      refine ⟨vr, ?_, hpo⟩
      refine mz_go 5 (c' := (if (j + d) < x6 then 68 else 16, [some (.ref 20), some (.int i), some (.int j), some (.int d), some (.int c), some (.int x5), some (.int x6), x7], [], m)) rfl ?_
      refine mz_ifF q1 ?_
      refine mz_go 4 (c' := (21, [some (.ref 20), some (.int i), some (.int j), some (.int d), some (.int c), some (.int x5), some (.int x6), some (.int (i - d))], [], m)) rfl ?_
      exact hr
set_option maxHeartbeats 4000000 in
set_option maxRecDepth 100000 in
theorem vc_aro {m : mz_M} {WW HH : Nat} (hWW : WW ≤ 6) (hHH : HH ≤ 6) (h202 : m 20 2 = nI WW) (h203 : m 20 3 = nI HH) {i j d : Int32} (hBi : sm_B 1000 i) (hBj : sm_B 1000 j) (hBd : sm_B 1000 d) (c : Int32) : ∃ v, mz_Me 14 mz_r10 [.ref 20, .int i, .int j, .int d, .int c] m (some (.int v)) m ∧ (v = vq_ac (m 21) WW HH i j d c) := by
  have HX2 : ∀ (x6_2 : Int32) (x5_2 : Int32) (x7_2 : Option Value) (hv_2 : x5_2 = vq_fold (fun b s => vq_fold (fun a s => s + vq_is (m 21) WW HH a b c) (fun a => i + d < a) (vq_fu i d) (i - d) s) (fun b => j + d < b) (((j + d : Int32).toInt - (j - d : Int32).toInt + 1).toNat) (j - d) 0), ∃ v, mz_Ex 14 mz_k10 (68, [some (.ref 20), some (.int i), some (.int j), some (.int d), some (.int c), some (.int x5_2), some (.int x6_2), x7_2], [], m) (some (.int v), m) ∧ (v = vq_ac (m 21) WW HH i j d c) := by
    intro x6_2 x5_2 x7_2 hv_2
    refine ⟨x5_2, ?_, hv_2⟩
    refine mz_go 1 (c' := (70, [some (.ref 20), some (.int i), some (.int j), some (.int d), some (.int c), some (.int x5_2), some (.int x6_2), x7_2], [.int x5_2], m)) rfl ?_
    exact mz_ret rfl
  obtain ⟨vr, hr, hpo⟩ := vc_aroj hWW hHH h202 h203 hBi hBj hBd c  HX2 ((j + d : Int32).toInt - (j - d : Int32).toInt + 1).toNat (j - d) (by omega) 0 none rfl
  refine ⟨vr, ⟨?_, rfl⟩, hpo⟩
  refine mz_go 6 (c' := (8, [some (.ref 20), some (.int i), some (.int j), some (.int d), some (.int c), some (.int 0), some (.int (j - d)), none], [], m)) rfl ?_
  exact hr
set_option maxHeartbeats 4000000 in
set_option maxRecDepth 100000 in
theorem vr_aroi {m : mz_M} {WW HH : Nat} (hWW : WW ≤ 6) (hHH : HH ≤ 6) (hWH : WW = 0 ↔ HH = 0) (h6660 : m 66 60 = nI WW) (h6661 : m 66 61 = nI HH) (c : Int32) {i j d : Int32} (hBi : sm_B 1000 i) (hBj : sm_B 1000 j) (hBd : sm_B 1000 d) (x6 : Int32) {po : Int32 → Prop} {AA : Int32} (HX : ∀ (x7 : Int32) (x5 : Int32) (hv : x5 = AA), ∃ v, mz_Ex 14 mz_k192 (72, [some (.ref 65), some (.int c), some (.int i), some (.int j), some (.int d), some (.int x5), some (.int x6), some (.int x7)], [], m) (some (.int v), m) ∧ po v) : ∀ fu : Nat, ∀ x7 : Int32, (j + d).toInt - x7.toInt < (fu : Int) → ∀ (x5 : Int32), (hv : vq_fold (fun b s => s + vq_is (fun i => m 66 (70 + i)) WW HH x6 b c) (fun b => j + d < b) fu x7 x5 = AA) → ∃ v, mz_Ex 14 mz_k192 (24, [some (.ref 65), some (.int c), some (.int i), some (.int j), some (.int d), some (.int x5), some (.int x6), some (.int x7)], [], m) (some (.int v), m) ∧ po v := by
  intro fu
  induction fu with
  | zero =>
    intro x7 hms x5 hv
    have hmz : (j + d) < x7 := sm_mz1 hms
    obtain ⟨vr, hr, hpo⟩ := HX x7 x5 ((vq_fold_out (g := (fun b s => s + vq_is (fun i => m 66 (70 + i)) WW HH x6 b c)) (o := (fun b => j + d < b)) hmz).symm.trans hv)
    refine ⟨vr, ?_, hpo⟩
    refine mz_go 5 (c' := (if (j + d) < x7 then 72 else 33, [some (.ref 65), some (.int c), some (.int i), some (.int j), some (.int d), some (.int x5), some (.int x6), some (.int x7)], [], m)) rfl ?_
    refine mz_ifT hmz ?_
    exact hr
  | succ fu ih =>
    intro x7 hms x5 hv
    by_cases q1 : (j + d) < x7
    · obtain ⟨vr, hr, hpo⟩ := HX x7 x5 ((vq_fold_out (g := (fun b s => s + vq_is (fun i => m 66 (70 + i)) WW HH x6 b c)) (o := (fun b => j + d < b)) q1).symm.trans hv)
      refine ⟨vr, ?_, hpo⟩
      refine mz_go 5 (c' := (if (j + d) < x7 then 72 else 33, [some (.ref 65), some (.int c), some (.int i), some (.int j), some (.int d), some (.int x5), some (.int x6), some (.int x7)], [], m)) rfl ?_
      refine mz_ifT q1 ?_
      exact hr
    · by_cases q2 : WW = 0
      · by_cases q3 : x6 < 0
        · obtain ⟨vr, hr, hpo⟩ := ih (x7 + 1) (sm_me1 (sm_hA hBj hBd) q1 hms) (x5 + 0) ((vq_fold_in (g := (fun b s => s + vq_is (fun i => m 66 (70 + i)) WW HH x6 b c)) (o := (fun b => j + d < b)) q1 ((vq_s0 q2).trans (Int32.add_zero _).symm)).symm.trans hv)
          refine ⟨vr, ?_, hpo⟩
          refine mz_go 5 (c' := (if (j + d) < x7 then 72 else 33, [some (.ref 65), some (.int c), some (.int i), some (.int j), some (.int d), some (.int x5), some (.int x6), some (.int x7)], [], m)) rfl ?_
          refine mz_ifF q1 ?_
          refine mz_go 4 (c' := (40, [some (.ref 65), some (.int c), some (.int i), some (.int j), some (.int d), some (.int x5), some (.int x6), some (.int x7)], [.int x7, .int x6, .ref 65, .int x5], m)) rfl ?_
          refine mz_do (R := mz_r187) (as := [.ref 65, .int x6, .int x7]) (rest := [.int x5]) (r1 := some (.int 0)) (m1 := m) rfl ⟨?_, rfl⟩ ?_
          · refine mz_go 3 (c' := (3, [some (.ref 65), some (.int x6), some (.int x7)], [.ref 65, .int 0, .int x6], m)) rfl ?_
            refine mz_do (R := mz_r183) (as := [.ref 65]) (rest := [.int 0, .int x6]) (r1 := some (.int (nI WW))) (m1 := m) rfl ⟨?_, rfl⟩ ?_
            · refine mz_go 4 (c' := (7, [some (.ref 65)], [.int (m 66 60)], m)) rfl ?_
              rw [h6660]
              exact mz_ret rfl
            refine mz_go 2 (c' := (8, [some (.ref 65), some (.int x6), some (.int x7)], [.int ((nI WW) - 1), .int 0, .int x6], m)) rfl ?_
            rw [show nI WW - 1 = -1 from by rw [show WW = 0 by omega]; decide]
            refine mz_do (R := mz_r128) (as := [.int x6, .int 0, .int (-1)]) (rest := []) (r1 := some (.int 0)) (m1 := m) rfl ((ct_inL (m := m) (v := x6) (a := 0) (b := (-1)) q3).deep (by decide)) ?_
            refine mz_go 2 (c' := (33, [some (.ref 65), some (.int x6), some (.int x7)], [.int 0], m)) rfl ?_
            exact mz_ret rfl
          refine mz_go 6 (c' := (24, [some (.ref 65), some (.int c), some (.int i), some (.int j), some (.int d), some (.int (x5 + 0)), some (.int x6), some (.int (x7 + 1))], [], m)) rfl ?_
          exact hr
        · obtain ⟨vr, hr, hpo⟩ := ih (x7 + 1) (sm_me1 (sm_hA hBj hBd) q1 hms) (x5 + 0) ((vq_fold_in (g := (fun b s => s + vq_is (fun i => m 66 (70 + i)) WW HH x6 b c)) (o := (fun b => j + d < b)) q1 ((vq_s0 q2).trans (Int32.add_zero _).symm)).symm.trans hv)
          refine ⟨vr, ?_, hpo⟩
          refine mz_go 5 (c' := (if (j + d) < x7 then 72 else 33, [some (.ref 65), some (.int c), some (.int i), some (.int j), some (.int d), some (.int x5), some (.int x6), some (.int x7)], [], m)) rfl ?_
          refine mz_ifF q1 ?_
          refine mz_go 4 (c' := (40, [some (.ref 65), some (.int c), some (.int i), some (.int j), some (.int d), some (.int x5), some (.int x6), some (.int x7)], [.int x7, .int x6, .ref 65, .int x5], m)) rfl ?_
          refine mz_do (R := mz_r187) (as := [.ref 65, .int x6, .int x7]) (rest := [.int x5]) (r1 := some (.int 0)) (m1 := m) rfl ⟨?_, rfl⟩ ?_
          · refine mz_go 3 (c' := (3, [some (.ref 65), some (.int x6), some (.int x7)], [.ref 65, .int 0, .int x6], m)) rfl ?_
            refine mz_do (R := mz_r183) (as := [.ref 65]) (rest := [.int 0, .int x6]) (r1 := some (.int (nI WW))) (m1 := m) rfl ⟨?_, rfl⟩ ?_
            · refine mz_go 4 (c' := (7, [some (.ref 65)], [.int (m 66 60)], m)) rfl ?_
              rw [h6660]
              exact mz_ret rfl
            refine mz_go 2 (c' := (8, [some (.ref 65), some (.int x6), some (.int x7)], [.int ((nI WW) - 1), .int 0, .int x6], m)) rfl ?_
            rw [show nI WW - 1 = -1 from by rw [show WW = 0 by omega]; decide]
            refine mz_do (R := mz_r128) (as := [.int x6, .int 0, .int (-1)]) (rest := []) (r1 := some (.int 0)) (m1 := m) rfl ((ct_inG (m := m) (v := x6) (a := 0) (b := (-1)) q3 (by have hl : (0 : Int) ≤ (x6).toInt := Int32.le_iff_toInt_le.mp (Int32.not_lt.mp q3); exact Int32.lt_iff_toInt_lt.mpr (show (-1 : Int) < (x6).toInt by omega))).deep (by decide)) ?_
            refine mz_go 2 (c' := (33, [some (.ref 65), some (.int x6), some (.int x7)], [.int 0], m)) rfl ?_
            exact mz_ret rfl
          refine mz_go 6 (c' := (24, [some (.ref 65), some (.int c), some (.int i), some (.int j), some (.int d), some (.int (x5 + 0)), some (.int x6), some (.int (x7 + 1))], [], m)) rfl ?_
          exact hr
      · by_cases q4 : x6 < 0
        · obtain ⟨vr, hr, hpo⟩ := ih (x7 + 1) (sm_me1 (sm_hA hBj hBd) q1 hms) (x5 + 0) ((vq_fold_in (g := (fun b s => s + vq_is (fun i => m 66 (70 + i)) WW HH x6 b c)) (o := (fun b => j + d < b)) q1 ((vq_s1 q4).trans (Int32.add_zero _).symm)).symm.trans hv)
          refine ⟨vr, ?_, hpo⟩
          refine mz_go 5 (c' := (if (j + d) < x7 then 72 else 33, [some (.ref 65), some (.int c), some (.int i), some (.int j), some (.int d), some (.int x5), some (.int x6), some (.int x7)], [], m)) rfl ?_
          refine mz_ifF q1 ?_
          refine mz_go 4 (c' := (40, [some (.ref 65), some (.int c), some (.int i), some (.int j), some (.int d), some (.int x5), some (.int x6), some (.int x7)], [.int x7, .int x6, .ref 65, .int x5], m)) rfl ?_
          refine mz_do (R := mz_r187) (as := [.ref 65, .int x6, .int x7]) (rest := [.int x5]) (r1 := some (.int 0)) (m1 := m) rfl ⟨?_, rfl⟩ ?_
          · refine mz_go 3 (c' := (3, [some (.ref 65), some (.int x6), some (.int x7)], [.ref 65, .int 0, .int x6], m)) rfl ?_
            refine mz_do (R := mz_r183) (as := [.ref 65]) (rest := [.int 0, .int x6]) (r1 := some (.int (nI WW))) (m1 := m) rfl ⟨?_, rfl⟩ ?_
            · refine mz_go 4 (c' := (7, [some (.ref 65)], [.int (m 66 60)], m)) rfl ?_
              rw [h6660]
              exact mz_ret rfl
            refine mz_go 2 (c' := (8, [some (.ref 65), some (.int x6), some (.int x7)], [.int ((nI WW) - 1), .int 0, .int x6], m)) rfl ?_
            refine mz_do (R := mz_r128) (as := [.int x6, .int 0, .int ((nI WW) - 1)]) (rest := []) (r1 := some (.int 0)) (m1 := m) rfl ((ct_inL (m := m) (v := x6) (a := 0) (b := (nI WW) - 1) q4).deep (by decide)) ?_
            refine mz_go 2 (c' := (33, [some (.ref 65), some (.int x6), some (.int x7)], [.int 0], m)) rfl ?_
            exact mz_ret rfl
          refine mz_go 6 (c' := (24, [some (.ref 65), some (.int c), some (.int i), some (.int j), some (.int d), some (.int (x5 + 0)), some (.int x6), some (.int (x7 + 1))], [], m)) rfl ?_
          exact hr
        · obtain ⟨jx6, hjx6, rfl⟩ := nI_of q4
          by_cases q5 : (WW - 1) < jx6
          · obtain ⟨vr, hr, hpo⟩ := ih (x7 + 1) (sm_me1 (sm_hA hBj hBd) q1 hms) (x5 + 0) ((vq_fold_in (g := (fun b s => s + vq_is (fun i => m 66 (70 + i)) WW HH (nI jx6) b c)) (o := (fun b => j + d < b)) q1 ((vq_s2 hjx6 (by omega)).trans (Int32.add_zero _).symm)).symm.trans hv)
            refine ⟨vr, ?_, hpo⟩
            refine mz_go 5 (c' := (if (j + d) < x7 then 72 else 33, [some (.ref 65), some (.int c), some (.int i), some (.int j), some (.int d), some (.int x5), some (.int (nI jx6)), some (.int x7)], [], m)) rfl ?_
            refine mz_ifF q1 ?_
            refine mz_go 4 (c' := (40, [some (.ref 65), some (.int c), some (.int i), some (.int j), some (.int d), some (.int x5), some (.int (nI jx6)), some (.int x7)], [.int x7, .int (nI jx6), .ref 65, .int x5], m)) rfl ?_
            refine mz_do (R := mz_r187) (as := [.ref 65, .int (nI jx6), .int x7]) (rest := [.int x5]) (r1 := some (.int 0)) (m1 := m) rfl ⟨?_, rfl⟩ ?_
            · refine mz_go 3 (c' := (3, [some (.ref 65), some (.int (nI jx6)), some (.int x7)], [.ref 65, .int 0, .int (nI jx6)], m)) rfl ?_
              refine mz_do (R := mz_r183) (as := [.ref 65]) (rest := [.int 0, .int (nI jx6)]) (r1 := some (.int (nI WW))) (m1 := m) rfl ⟨?_, rfl⟩ ?_
              · refine mz_go 4 (c' := (7, [some (.ref 65)], [.int (m 66 60)], m)) rfl ?_
                rw [h6660]
                exact mz_ret rfl
              refine mz_go 2 (c' := (8, [some (.ref 65), some (.int (nI jx6)), some (.int x7)], [.int ((nI WW) - 1), .int 0, .int (nI jx6)], m)) rfl ?_
              refine mz_do (R := mz_r128) (as := [.int (nI jx6), .int 0, .int ((nI WW) - 1)]) (rest := []) (r1 := some (.int 0)) (m1 := m) rfl ((ct_inG (m := m) (v := nI jx6) (a := 0) (b := (nI WW) - 1) q4 (show (((nI WW) - 1) < (nI jx6)) from (sm_ltN (sm_subN (a := WW) (b := 1) rfl rfl (by omega)) rfl (show (WW - 1) < jx6 by omega) (show jx6 < 2 ^ 31 by omega)))).deep (by decide)) ?_
              refine mz_go 2 (c' := (33, [some (.ref 65), some (.int (nI jx6)), some (.int x7)], [.int 0], m)) rfl ?_
              exact mz_ret rfl
            refine mz_go 6 (c' := (24, [some (.ref 65), some (.int c), some (.int i), some (.int j), some (.int d), some (.int (x5 + 0)), some (.int (nI jx6)), some (.int (x7 + 1))], [], m)) rfl ?_
            exact hr
          · by_cases q6 : x7 < 0
            · obtain ⟨vr, hr, hpo⟩ := ih (x7 + 1) (sm_me1 (sm_hA hBj hBd) q1 hms) (x5 + 0) ((vq_fold_in (g := (fun b s => s + vq_is (fun i => m 66 (70 + i)) WW HH (nI jx6) b c)) (o := (fun b => j + d < b)) q1 ((vq_s3 q6).trans (Int32.add_zero _).symm)).symm.trans hv)
              refine ⟨vr, ?_, hpo⟩
              refine mz_go 5 (c' := (if (j + d) < x7 then 72 else 33, [some (.ref 65), some (.int c), some (.int i), some (.int j), some (.int d), some (.int x5), some (.int (nI jx6)), some (.int x7)], [], m)) rfl ?_
              refine mz_ifF q1 ?_
              refine mz_go 4 (c' := (40, [some (.ref 65), some (.int c), some (.int i), some (.int j), some (.int d), some (.int x5), some (.int (nI jx6)), some (.int x7)], [.int x7, .int (nI jx6), .ref 65, .int x5], m)) rfl ?_
              refine mz_do (R := mz_r187) (as := [.ref 65, .int (nI jx6), .int x7]) (rest := [.int x5]) (r1 := some (.int 0)) (m1 := m) rfl ⟨?_, rfl⟩ ?_
              · refine mz_go 3 (c' := (3, [some (.ref 65), some (.int (nI jx6)), some (.int x7)], [.ref 65, .int 0, .int (nI jx6)], m)) rfl ?_
                refine mz_do (R := mz_r183) (as := [.ref 65]) (rest := [.int 0, .int (nI jx6)]) (r1 := some (.int (nI WW))) (m1 := m) rfl ⟨?_, rfl⟩ ?_
                · refine mz_go 4 (c' := (7, [some (.ref 65)], [.int (m 66 60)], m)) rfl ?_
                  rw [h6660]
                  exact mz_ret rfl
                refine mz_go 2 (c' := (8, [some (.ref 65), some (.int (nI jx6)), some (.int x7)], [.int ((nI WW) - 1), .int 0, .int (nI jx6)], m)) rfl ?_
                refine mz_do (R := mz_r128) (as := [.int (nI jx6), .int 0, .int ((nI WW) - 1)]) (rest := []) (r1 := some (.int 1)) (m1 := m) rfl ((ct_in1 (m := m) (v := nI jx6) (a := 0) (b := (nI WW) - 1) q4 (show ¬ (((nI WW) - 1) < (nI jx6)) from (sm_nltN (sm_subN (a := WW) (b := 1) rfl rfl (by omega)) rfl (show jx6 ≤ (WW - 1) by omega) (show (WW - 1) < 2 ^ 31 by omega)))).deep (by decide)) ?_
                refine mz_go 4 (c' := (17, [some (.ref 65), some (.int (nI jx6)), some (.int x7)], [.ref 65, .int 0, .int x7], m)) rfl ?_
                refine mz_do (R := mz_r184) (as := [.ref 65]) (rest := [.int 0, .int x7]) (r1 := some (.int (nI HH))) (m1 := m) rfl ⟨?_, rfl⟩ ?_
                · refine mz_go 4 (c' := (7, [some (.ref 65)], [.int (m 66 61)], m)) rfl ?_
                  rw [h6661]
                  exact mz_ret rfl
                refine mz_go 2 (c' := (22, [some (.ref 65), some (.int (nI jx6)), some (.int x7)], [.int ((nI HH) - 1), .int 0, .int x7], m)) rfl ?_
                refine mz_do (R := mz_r128) (as := [.int x7, .int 0, .int ((nI HH) - 1)]) (rest := []) (r1 := some (.int 0)) (m1 := m) rfl ((ct_inL (m := m) (v := x7) (a := 0) (b := (nI HH) - 1) q6).deep (by decide)) ?_
                refine mz_go 2 (c' := (33, [some (.ref 65), some (.int (nI jx6)), some (.int x7)], [.int 0], m)) rfl ?_
                exact mz_ret rfl
              refine mz_go 6 (c' := (24, [some (.ref 65), some (.int c), some (.int i), some (.int j), some (.int d), some (.int (x5 + 0)), some (.int (nI jx6)), some (.int (x7 + 1))], [], m)) rfl ?_
              exact hr
            · obtain ⟨jx7, hjx7, rfl⟩ := nI_of q6
              by_cases q7 : (HH - 1) < jx7
              · obtain ⟨vr, hr, hpo⟩ := ih ((nI jx7) + 1) (sm_me1 (sm_hA hBj hBd) q1 hms) (x5 + 0) ((vq_fold_in (g := (fun b s => s + vq_is (fun i => m 66 (70 + i)) WW HH (nI jx6) b c)) (o := (fun b => j + d < b)) q1 ((vq_s4 hjx7 (by omega)).trans (Int32.add_zero _).symm)).symm.trans hv)
                refine ⟨vr, ?_, hpo⟩
                refine mz_go 5 (c' := (if (j + d) < (nI jx7) then 72 else 33, [some (.ref 65), some (.int c), some (.int i), some (.int j), some (.int d), some (.int x5), some (.int (nI jx6)), some (.int (nI jx7))], [], m)) rfl ?_
                refine mz_ifF q1 ?_
                refine mz_go 4 (c' := (40, [some (.ref 65), some (.int c), some (.int i), some (.int j), some (.int d), some (.int x5), some (.int (nI jx6)), some (.int (nI jx7))], [.int (nI jx7), .int (nI jx6), .ref 65, .int x5], m)) rfl ?_
                refine mz_do (R := mz_r187) (as := [.ref 65, .int (nI jx6), .int (nI jx7)]) (rest := [.int x5]) (r1 := some (.int 0)) (m1 := m) rfl ⟨?_, rfl⟩ ?_
                · refine mz_go 3 (c' := (3, [some (.ref 65), some (.int (nI jx6)), some (.int (nI jx7))], [.ref 65, .int 0, .int (nI jx6)], m)) rfl ?_
                  refine mz_do (R := mz_r183) (as := [.ref 65]) (rest := [.int 0, .int (nI jx6)]) (r1 := some (.int (nI WW))) (m1 := m) rfl ⟨?_, rfl⟩ ?_
                  · refine mz_go 4 (c' := (7, [some (.ref 65)], [.int (m 66 60)], m)) rfl ?_
                    rw [h6660]
                    exact mz_ret rfl
                  refine mz_go 2 (c' := (8, [some (.ref 65), some (.int (nI jx6)), some (.int (nI jx7))], [.int ((nI WW) - 1), .int 0, .int (nI jx6)], m)) rfl ?_
                  refine mz_do (R := mz_r128) (as := [.int (nI jx6), .int 0, .int ((nI WW) - 1)]) (rest := []) (r1 := some (.int 1)) (m1 := m) rfl ((ct_in1 (m := m) (v := nI jx6) (a := 0) (b := (nI WW) - 1) q4 (show ¬ (((nI WW) - 1) < (nI jx6)) from (sm_nltN (sm_subN (a := WW) (b := 1) rfl rfl (by omega)) rfl (show jx6 ≤ (WW - 1) by omega) (show (WW - 1) < 2 ^ 31 by omega)))).deep (by decide)) ?_
                  refine mz_go 4 (c' := (17, [some (.ref 65), some (.int (nI jx6)), some (.int (nI jx7))], [.ref 65, .int 0, .int (nI jx7)], m)) rfl ?_
                  refine mz_do (R := mz_r184) (as := [.ref 65]) (rest := [.int 0, .int (nI jx7)]) (r1 := some (.int (nI HH))) (m1 := m) rfl ⟨?_, rfl⟩ ?_
                  · refine mz_go 4 (c' := (7, [some (.ref 65)], [.int (m 66 61)], m)) rfl ?_
                    rw [h6661]
                    exact mz_ret rfl
                  refine mz_go 2 (c' := (22, [some (.ref 65), some (.int (nI jx6)), some (.int (nI jx7))], [.int ((nI HH) - 1), .int 0, .int (nI jx7)], m)) rfl ?_
                  refine mz_do (R := mz_r128) (as := [.int (nI jx7), .int 0, .int ((nI HH) - 1)]) (rest := []) (r1 := some (.int 0)) (m1 := m) rfl ((ct_inG (m := m) (v := nI jx7) (a := 0) (b := (nI HH) - 1) q6 (show (((nI HH) - 1) < (nI jx7)) from (sm_ltN (sm_subN (a := HH) (b := 1) rfl rfl (by omega)) rfl (show (HH - 1) < jx7 by omega) (show jx7 < 2 ^ 31 by omega)))).deep (by decide)) ?_
                  refine mz_go 2 (c' := (33, [some (.ref 65), some (.int (nI jx6)), some (.int (nI jx7))], [.int 0], m)) rfl ?_
                  exact mz_ret rfl
                refine mz_go 6 (c' := (24, [some (.ref 65), some (.int c), some (.int i), some (.int j), some (.int d), some (.int (x5 + 0)), some (.int (nI jx6)), some (.int ((nI jx7) + 1))], [], m)) rfl ?_
                exact hr
              · by_cases q8 : (m 66 ((70 + (6 * jx7)) + jx6)) = c
                · obtain ⟨vr, hr, hpo⟩ := ih ((nI jx7) + 1) (sm_me1 (sm_hA hBj hBd) q1 hms) (x5 + 1) ((vq_fold_in (g := (fun b s => s + vq_is (fun i => m 66 (70 + i)) WW HH (nI jx6) b c)) (o := (fun b => j + d < b)) q1 (vq_s5 (f := (fun i => m 66 (70 + i))) (by omega) (by omega) hWW hHH (show (fun i => m 66 (70 + i)) (jx7 * 6 + jx6) = c from (congrArg (m 66) (show 70 + (jx7 * 6 + jx6) = (70 + (6 * jx7)) + jx6 by omega)).trans q8))).symm.trans hv)
                  refine ⟨vr, ?_, hpo⟩
                  refine mz_go 5 (c' := (if (j + d) < (nI jx7) then 72 else 33, [some (.ref 65), some (.int c), some (.int i), some (.int j), some (.int d), some (.int x5), some (.int (nI jx6)), some (.int (nI jx7))], [], m)) rfl ?_
                  refine mz_ifF q1 ?_
                  refine mz_go 4 (c' := (40, [some (.ref 65), some (.int c), some (.int i), some (.int j), some (.int d), some (.int x5), some (.int (nI jx6)), some (.int (nI jx7))], [.int (nI jx7), .int (nI jx6), .ref 65, .int x5], m)) rfl ?_
                  refine mz_do (R := mz_r187) (as := [.ref 65, .int (nI jx6), .int (nI jx7)]) (rest := [.int x5]) (r1 := some (.int 1)) (m1 := m) rfl ⟨?_, rfl⟩ ?_
                  · refine mz_go 3 (c' := (3, [some (.ref 65), some (.int (nI jx6)), some (.int (nI jx7))], [.ref 65, .int 0, .int (nI jx6)], m)) rfl ?_
                    refine mz_do (R := mz_r183) (as := [.ref 65]) (rest := [.int 0, .int (nI jx6)]) (r1 := some (.int (nI WW))) (m1 := m) rfl ⟨?_, rfl⟩ ?_
                    · refine mz_go 4 (c' := (7, [some (.ref 65)], [.int (m 66 60)], m)) rfl ?_
                      rw [h6660]
                      exact mz_ret rfl
                    refine mz_go 2 (c' := (8, [some (.ref 65), some (.int (nI jx6)), some (.int (nI jx7))], [.int ((nI WW) - 1), .int 0, .int (nI jx6)], m)) rfl ?_
                    refine mz_do (R := mz_r128) (as := [.int (nI jx6), .int 0, .int ((nI WW) - 1)]) (rest := []) (r1 := some (.int 1)) (m1 := m) rfl ((ct_in1 (m := m) (v := nI jx6) (a := 0) (b := (nI WW) - 1) q4 (show ¬ (((nI WW) - 1) < (nI jx6)) from (sm_nltN (sm_subN (a := WW) (b := 1) rfl rfl (by omega)) rfl (show jx6 ≤ (WW - 1) by omega) (show (WW - 1) < 2 ^ 31 by omega)))).deep (by decide)) ?_
                    refine mz_go 4 (c' := (17, [some (.ref 65), some (.int (nI jx6)), some (.int (nI jx7))], [.ref 65, .int 0, .int (nI jx7)], m)) rfl ?_
                    refine mz_do (R := mz_r184) (as := [.ref 65]) (rest := [.int 0, .int (nI jx7)]) (r1 := some (.int (nI HH))) (m1 := m) rfl ⟨?_, rfl⟩ ?_
                    · refine mz_go 4 (c' := (7, [some (.ref 65)], [.int (m 66 61)], m)) rfl ?_
                      rw [h6661]
                      exact mz_ret rfl
                    refine mz_go 2 (c' := (22, [some (.ref 65), some (.int (nI jx6)), some (.int (nI jx7))], [.int ((nI HH) - 1), .int 0, .int (nI jx7)], m)) rfl ?_
                    refine mz_do (R := mz_r128) (as := [.int (nI jx7), .int 0, .int ((nI HH) - 1)]) (rest := []) (r1 := some (.int 1)) (m1 := m) rfl ((ct_in1 (m := m) (v := nI jx7) (a := 0) (b := (nI HH) - 1) q6 (show ¬ (((nI HH) - 1) < (nI jx7)) from (sm_nltN (sm_subN (a := HH) (b := 1) rfl rfl (by omega)) rfl (show jx7 ≤ (HH - 1) by omega) (show (HH - 1) < 2 ^ 31 by omega)))).deep (by decide)) ?_
                    refine mz_go 3 (c' := (33, [some (.ref 65), some (.int (nI jx6)), some (.int (nI jx7))], [.int 1], m)) rfl ?_
                    exact mz_ret rfl
                  refine mz_go 4 (c' := (51, [some (.ref 65), some (.int c), some (.int i), some (.int j), some (.int d), some (.int x5), some (.int (nI jx6)), some (.int (nI jx7))], [.int (nI jx7), .int (nI jx6), .ref 65, .int x5], m)) rfl ?_
                  refine mz_do (R := mz_r186) (as := [.ref 65, .int (nI jx6), .int (nI jx7)]) (rest := [.int x5]) (r1 := some (.int (m 66 ((70 + (6 * jx7)) + jx6)))) (m1 := m) rfl ((vr_col (m := m) (A := jx6) (B := jx7) (by omega) (by omega) (a := nI jx6) (b := nI jx7) rfl rfl).deep (by decide)) ?_
                  refine mz_go 2 (c' := (if (m 66 ((70 + (6 * jx7)) + jx6)) = c then 58 else 62, [some (.ref 65), some (.int c), some (.int i), some (.int j), some (.int d), some (.int x5), some (.int (nI jx6)), some (.int (nI jx7))], [.int x5], m)) rfl ?_
                  refine mz_ifT q8 ?_
                  refine mz_go 6 (c' := (24, [some (.ref 65), some (.int c), some (.int i), some (.int j), some (.int d), some (.int (x5 + 1)), some (.int (nI jx6)), some (.int ((nI jx7) + 1))], [], m)) rfl ?_
                  exact hr
                · obtain ⟨vr, hr, hpo⟩ := ih ((nI jx7) + 1) (sm_me1 (sm_hA hBj hBd) q1 hms) (x5 + 0) ((vq_fold_in (g := (fun b s => s + vq_is (fun i => m 66 (70 + i)) WW HH (nI jx6) b c)) (o := (fun b => j + d < b)) q1 ((vq_s6 (f := (fun i => m 66 (70 + i))) (by omega) (by omega) hWW hHH (fun z => q8 ((congrArg (m 66) (show 70 + (jx7 * 6 + jx6) = (70 + (6 * jx7)) + jx6 by omega)).symm.trans z))).trans (Int32.add_zero _).symm)).symm.trans hv)
                  refine ⟨vr, ?_, hpo⟩
                  refine mz_go 5 (c' := (if (j + d) < (nI jx7) then 72 else 33, [some (.ref 65), some (.int c), some (.int i), some (.int j), some (.int d), some (.int x5), some (.int (nI jx6)), some (.int (nI jx7))], [], m)) rfl ?_
                  refine mz_ifF q1 ?_
                  refine mz_go 4 (c' := (40, [some (.ref 65), some (.int c), some (.int i), some (.int j), some (.int d), some (.int x5), some (.int (nI jx6)), some (.int (nI jx7))], [.int (nI jx7), .int (nI jx6), .ref 65, .int x5], m)) rfl ?_
                  refine mz_do (R := mz_r187) (as := [.ref 65, .int (nI jx6), .int (nI jx7)]) (rest := [.int x5]) (r1 := some (.int 1)) (m1 := m) rfl ⟨?_, rfl⟩ ?_
                  · refine mz_go 3 (c' := (3, [some (.ref 65), some (.int (nI jx6)), some (.int (nI jx7))], [.ref 65, .int 0, .int (nI jx6)], m)) rfl ?_
                    refine mz_do (R := mz_r183) (as := [.ref 65]) (rest := [.int 0, .int (nI jx6)]) (r1 := some (.int (nI WW))) (m1 := m) rfl ⟨?_, rfl⟩ ?_
                    · refine mz_go 4 (c' := (7, [some (.ref 65)], [.int (m 66 60)], m)) rfl ?_
                      rw [h6660]
                      exact mz_ret rfl
                    refine mz_go 2 (c' := (8, [some (.ref 65), some (.int (nI jx6)), some (.int (nI jx7))], [.int ((nI WW) - 1), .int 0, .int (nI jx6)], m)) rfl ?_
                    refine mz_do (R := mz_r128) (as := [.int (nI jx6), .int 0, .int ((nI WW) - 1)]) (rest := []) (r1 := some (.int 1)) (m1 := m) rfl ((ct_in1 (m := m) (v := nI jx6) (a := 0) (b := (nI WW) - 1) q4 (show ¬ (((nI WW) - 1) < (nI jx6)) from (sm_nltN (sm_subN (a := WW) (b := 1) rfl rfl (by omega)) rfl (show jx6 ≤ (WW - 1) by omega) (show (WW - 1) < 2 ^ 31 by omega)))).deep (by decide)) ?_
                    refine mz_go 4 (c' := (17, [some (.ref 65), some (.int (nI jx6)), some (.int (nI jx7))], [.ref 65, .int 0, .int (nI jx7)], m)) rfl ?_
                    refine mz_do (R := mz_r184) (as := [.ref 65]) (rest := [.int 0, .int (nI jx7)]) (r1 := some (.int (nI HH))) (m1 := m) rfl ⟨?_, rfl⟩ ?_
                    · refine mz_go 4 (c' := (7, [some (.ref 65)], [.int (m 66 61)], m)) rfl ?_
                      rw [h6661]
                      exact mz_ret rfl
                    refine mz_go 2 (c' := (22, [some (.ref 65), some (.int (nI jx6)), some (.int (nI jx7))], [.int ((nI HH) - 1), .int 0, .int (nI jx7)], m)) rfl ?_
                    refine mz_do (R := mz_r128) (as := [.int (nI jx7), .int 0, .int ((nI HH) - 1)]) (rest := []) (r1 := some (.int 1)) (m1 := m) rfl ((ct_in1 (m := m) (v := nI jx7) (a := 0) (b := (nI HH) - 1) q6 (show ¬ (((nI HH) - 1) < (nI jx7)) from (sm_nltN (sm_subN (a := HH) (b := 1) rfl rfl (by omega)) rfl (show jx7 ≤ (HH - 1) by omega) (show (HH - 1) < 2 ^ 31 by omega)))).deep (by decide)) ?_
                    refine mz_go 3 (c' := (33, [some (.ref 65), some (.int (nI jx6)), some (.int (nI jx7))], [.int 1], m)) rfl ?_
                    exact mz_ret rfl
                  refine mz_go 4 (c' := (51, [some (.ref 65), some (.int c), some (.int i), some (.int j), some (.int d), some (.int x5), some (.int (nI jx6)), some (.int (nI jx7))], [.int (nI jx7), .int (nI jx6), .ref 65, .int x5], m)) rfl ?_
                  refine mz_do (R := mz_r186) (as := [.ref 65, .int (nI jx6), .int (nI jx7)]) (rest := [.int x5]) (r1 := some (.int (m 66 ((70 + (6 * jx7)) + jx6)))) (m1 := m) rfl ((vr_col (m := m) (A := jx6) (B := jx7) (by omega) (by omega) (a := nI jx6) (b := nI jx7) rfl rfl).deep (by decide)) ?_
                  refine mz_go 2 (c' := (if (m 66 ((70 + (6 * jx7)) + jx6)) = c then 58 else 62, [some (.ref 65), some (.int c), some (.int i), some (.int j), some (.int d), some (.int x5), some (.int (nI jx6)), some (.int (nI jx7))], [.int x5], m)) rfl ?_
                  refine mz_ifF q8 ?_
                  refine mz_go 5 (c' := (24, [some (.ref 65), some (.int c), some (.int i), some (.int j), some (.int d), some (.int (x5 + 0)), some (.int (nI jx6)), some (.int ((nI jx7) + 1))], [], m)) rfl ?_
                  exact hr
set_option maxHeartbeats 4000000 in
set_option maxRecDepth 100000 in
theorem vr_aroj {m : mz_M} {WW HH : Nat} (hWW : WW ≤ 6) (hHH : HH ≤ 6) (hWH : WW = 0 ↔ HH = 0) (h6660 : m 66 60 = nI WW) (h6661 : m 66 61 = nI HH) (c : Int32) {i j d : Int32} (hBi : sm_B 1000 i) (hBj : sm_B 1000 j) (hBd : sm_B 1000 d)  {po : Int32 → Prop} {AA : Int32} (HX : ∀ (x6 : Int32) (x5 : Int32) (x7 : Option Value) (hv : x5 = AA), ∃ v, mz_Ex 14 mz_k192 (78, [some (.ref 65), some (.int c), some (.int i), some (.int j), some (.int d), some (.int x5), some (.int x6), x7], [], m) (some (.int v), m) ∧ po v) : ∀ fu : Nat, ∀ x6 : Int32, (i + d).toInt - x6.toInt < (fu : Int) → ∀ (x5 : Int32) (x7 : Option Value), (hv : vq_fold (fun a s => vq_fold (fun b s => s + vq_is (fun i => m 66 (70 + i)) WW HH a b c) (fun b => j + d < b) (vq_fu j d) (j - d) s) (fun a => i + d < a) fu x6 x5 = AA) → ∃ v, mz_Ex 14 mz_k192 (9, [some (.ref 65), some (.int c), some (.int i), some (.int j), some (.int d), some (.int x5), some (.int x6), x7], [], m) (some (.int v), m) ∧ po v := by
  intro fu
  induction fu with
  | zero =>
    intro x6 hms x5 x7 hv
    have hmz : (i + d) < x6 := sm_mz1 hms
    obtain ⟨vr, hr, hpo⟩ := HX x6 x5 x7 ((vq_fold_out (g := (fun a s => vq_fold (fun b s => s + vq_is (fun i => m 66 (70 + i)) WW HH a b c) (fun b => j + d < b) (vq_fu j d) (j - d) s)) (o := (fun a => i + d < a)) hmz).symm.trans hv)
    refine ⟨vr, ?_, hpo⟩
    refine mz_go 5 (c' := (if (i + d) < x6 then 78 else 18, [some (.ref 65), some (.int c), some (.int i), some (.int j), some (.int d), some (.int x5), some (.int x6), x7], [], m)) rfl ?_
    refine mz_ifT hmz ?_
    exact hr
  | succ fu ih =>
    intro x6 hms x5 x7 hv
    by_cases q1 : (i + d) < x6
    · obtain ⟨vr, hr, hpo⟩ := HX x6 x5 x7 ((vq_fold_out (g := (fun a s => vq_fold (fun b s => s + vq_is (fun i => m 66 (70 + i)) WW HH a b c) (fun b => j + d < b) (vq_fu j d) (j - d) s)) (o := (fun a => i + d < a)) q1).symm.trans hv)
      refine ⟨vr, ?_, hpo⟩
      refine mz_go 5 (c' := (if (i + d) < x6 then 78 else 18, [some (.ref 65), some (.int c), some (.int i), some (.int j), some (.int d), some (.int x5), some (.int x6), x7], [], m)) rfl ?_
      refine mz_ifT q1 ?_
      exact hr
    · have HX1 : ∀ (x7_1 : Int32) (x5_1 : Int32) (hv_1 : x5_1 = vq_fold (fun b s => s + vq_is (fun i => m 66 (70 + i)) WW HH x6 b c) (fun b => j + d < b) (((j + d : Int32).toInt - (j - d : Int32).toInt + 1).toNat) (j - d) x5), ∃ v, mz_Ex 14 mz_k192 (72, [some (.ref 65), some (.int c), some (.int i), some (.int j), some (.int d), some (.int x5_1), some (.int x6), some (.int x7_1)], [], m) (some (.int v), m) ∧ po v := by
        intro x7_1 x5_1 hv_1
        obtain ⟨vr, hr, hpo⟩ := ih (x6 + 1) (sm_me1 (sm_hA hBi hBd) q1 hms) x5_1 (some (.int x7_1)) ((vq_fold_in (g := (fun a s => vq_fold (fun b s => s + vq_is (fun i => m 66 (70 + i)) WW HH a b c) (fun b => j + d < b) (vq_fu j d) (j - d) s)) (o := (fun a => i + d < a)) q1 hv_1.symm).symm.trans hv)
        refine ⟨vr, ?_, hpo⟩
        refine mz_go 2 (c' := (9, [some (.ref 65), some (.int c), some (.int i), some (.int j), some (.int d), some (.int x5_1), some (.int (x6 + 1)), some (.int x7_1)], [], m)) rfl ?_
        exact hr
      obtain ⟨vr, hr, hpo⟩ := vr_aroi hWW hHH hWH h6660 h6661 c hBi hBj hBd x6 HX1 ((j + d : Int32).toInt - (j - d : Int32).toInt + 1).toNat (j - d) (by omega) x5 rfl
      refine ⟨vr, ?_, hpo⟩
      refine mz_go 5 (c' := (if (i + d) < x6 then 78 else 18, [some (.ref 65), some (.int c), some (.int i), some (.int j), some (.int d), some (.int x5), some (.int x6), x7], [], m)) rfl ?_
      refine mz_ifF q1 ?_
      refine mz_go 4 (c' := (24, [some (.ref 65), some (.int c), some (.int i), some (.int j), some (.int d), some (.int x5), some (.int x6), some (.int (j - d))], [], m)) rfl ?_
      exact hr
set_option maxHeartbeats 4000000 in
set_option maxRecDepth 100000 in
theorem vr_aro {m : mz_M} {WW HH : Nat} (hWW : WW ≤ 6) (hHH : HH ≤ 6) (hWH : WW = 0 ↔ HH = 0) (h6660 : m 66 60 = nI WW) (h6661 : m 66 61 = nI HH) (c : Int32) {i j d : Int32} (hBi : sm_B 1000 i) (hBj : sm_B 1000 j) (hBd : sm_B 1000 d) : ∃ v, mz_Me 14 mz_r192 [.ref 65, .int c, .int i, .int j, .int d] m (some (.int v)) m ∧ (v = vq_ar (fun i => m 66 (70 + i)) WW HH i j d c) := by
  have HX2 : ∀ (x6_2 : Int32) (x5_2 : Int32) (x7_2 : Option Value) (hv_2 : x5_2 = vq_fold (fun a s => vq_fold (fun b s => s + vq_is (fun i => m 66 (70 + i)) WW HH a b c) (fun b => j + d < b) (vq_fu j d) (j - d) s) (fun a => i + d < a) (((i + d : Int32).toInt - (i - d : Int32).toInt + 1).toNat) (i - d) 0), ∃ v, mz_Ex 14 mz_k192 (78, [some (.ref 65), some (.int c), some (.int i), some (.int j), some (.int d), some (.int x5_2), some (.int x6_2), x7_2], [], m) (some (.int v), m) ∧ (v = vq_ar (fun i => m 66 (70 + i)) WW HH i j d c) := by
    intro x6_2 x5_2 x7_2 hv_2
    refine ⟨x5_2, ?_, hv_2⟩
    refine mz_go 1 (c' := (80, [some (.ref 65), some (.int c), some (.int i), some (.int j), some (.int d), some (.int x5_2), some (.int x6_2), x7_2], [.int x5_2], m)) rfl ?_
    exact mz_ret rfl
  obtain ⟨vr, hr, hpo⟩ := vr_aroj hWW hHH hWH h6660 h6661 c hBi hBj hBd  HX2 ((i + d : Int32).toInt - (i - d : Int32).toInt + 1).toNat (i - d) (by omega) 0 none rfl
  refine ⟨vr, ⟨?_, rfl⟩, hpo⟩
  refine mz_go 6 (c' := (9, [some (.ref 65), some (.int c), some (.int i), some (.int j), some (.int d), some (.int 0), some (.int (i - d)), none], [], m)) rfl ?_
  exact hr
set_option maxHeartbeats 4000000 in
set_option maxRecDepth 100000 in
theorem ve_caro {m : mz_M} {WW HH : Nat} (hWW : WW ≤ 6) (hHH : HH ≤ 6) (h202 : m 20 2 = nI WW) (h203 : m 20 3 = nI HH) {i j d : Int32} (hBi : sm_B 1000 i) (hBj : sm_B 1000 j) (hBd : sm_B 1000 d) (h0 : 0 ≤ d.toInt) (c : Int32) : mz_Me 14 mz_r10 [.ref 20, .int i, .int j, .int d, .int c] m (some (.int (vq_ar (m 21) WW HH i j d c))) m := by
  obtain ⟨v, E, e⟩ := vc_aro hWW hHH h202 h203 hBi hBj hBd c
  rw [e, vq_ac_ar hBi hBj hBd h0] at E
  exact E
set_option maxHeartbeats 4000000 in
set_option maxRecDepth 100000 in
theorem ve_raro {w : mz_M} {m : mz_M} {WW HH : Nat} (hWW : WW ≤ 6) (hHH : HH ≤ 6) (hWH : WW = 0 ↔ HH = 0) (h6660 : m 66 60 = nI WW) (h6661 : m 66 61 = nI HH) (c : Int32) {i j d : Int32} (hBi : sm_B 1000 i) (hBj : sm_B 1000 j) (hBd : sm_B 1000 d) (h : ∀ i, i < 36 → m 66 (70 + i) = w 21 i) : mz_Me 14 mz_r192 [.ref 65, .int c, .int i, .int j, .int d] m (some (.int (vq_ar (w 21) WW HH i j d c))) m := by
  obtain ⟨v, E, e⟩ := vr_aro hWW hHH hWH h6660 h6661 c hBi hBj hBd
  rw [e, vq_ar_eq (f := (fun i => m 66 (70 + i))) (g := w 21) hWW hHH h] at E
  exact E
set_option maxHeartbeats 4000000 in
set_option maxRecDepth 100000 in
theorem vc_colsl {w : mz_M} {WW HH : Nat} (hWW : WW ≤ 6) (hHH : HH ≤ 6) (h202 : w 20 2 = nI WW) (h203 : w 20 3 = nI HH) : ∀ j k : Nat, k + j = 10 → ∀ (a0 : Int32), ∀ r, mz_Ex 18 mz_k11 (27, [some (.ref 20), some (.int (vq_fn (fun c s => s + vq_gz (vq_ar (w 21) WW HH 0 0 6 (nI c))) j k a0)), some (.int (nI 10))], [], w) r → mz_Ex 18 mz_k11 (4, [some (.ref 20), some (.int a0), some (.int (nI k))], [], w) r := by
  intro j
  induction j with
  | zero =>
    intro k hk a0
    rw [show k = 10 by omega]
    exact fun r hr => (by
      refine mz_go 3 (c' := (if 10 ≤ (nI 10) then 27 else 10, [some (.ref 20), some (.int a0), some (.int (nI 10))], [], w)) rfl ?_
      refine mz_ifT (show (10 ≤ (nI 10)) from (sm_leN rfl rfl (show 10 ≤ 10 by omega) (show 10 < 2 ^ 31 by omega))) ?_
      exact hr)
  | succ j ih =>
    intro k hk a0
    by_cases q1 : (vq_ar (w 21) WW HH 0 0 6 (nI k)) ≤ 0
    · have Er := ih (k + 1) (by omega) a0
      refine fun r hr0 => ?_
      have hst : vq_fn (fun c s => s + vq_gz (vq_ar (w 21) WW HH 0 0 6 (nI c))) (j + 1) k a0 = vq_fn (fun c s => s + vq_gz (vq_ar (w 21) WW HH 0 0 6 (nI c))) j (k + 1) a0 := vq_fn_in (vq_gza q1)
      rw [hst] at hr0
      have hr := Er r hr0
      rw [nI_succ k] at hr
      refine mz_go 3 (c' := (if 10 ≤ (nI k) then 27 else 10, [some (.ref 20), some (.int a0), some (.int (nI k))], [], w)) rfl ?_
      refine mz_ifF (show ¬ (10 ≤ (nI k)) from (sm_nleN rfl rfl (show k < 10 by omega) (show 10 < 2 ^ 31 by omega))) ?_
      refine mz_go 2 (c' := (12, [some (.ref 20), some (.int a0), some (.int (nI k))], [.int (nI k), .ref 20], w)) rfl ?_
      refine mz_do (R := mz_r9) (as := [.ref 20, .int (nI k)]) (rest := []) (r1 := some (.int (vq_ar (w 21) WW HH 0 0 6 (nI k)))) (m1 := w) rfl ⟨?_, rfl⟩ ?_
      · refine mz_go 5 (c' := (6, [some (.ref 20), some (.int (nI k))], [.int (nI k), .int 6, .int 0, .int 0, .ref 20], w)) rfl ?_
        refine mz_do (R := mz_r10) (as := [.ref 20, .int 0, .int 0, .int 6, .int (nI k)]) (rest := []) (r1 := some (.int (vq_ar (w 21) WW HH 0 0 6 (nI k)))) (m1 := w) rfl ((ve_caro (m := w) hWW hHH h202 h203 (show sm_B 1000 0 by unfold sm_B; decide) (show sm_B 1000 0 by unfold sm_B; decide) (show sm_B 1000 6 by unfold sm_B; decide) (show (0 : Int) ≤ (6 : Int32).toInt by decide) (nI k)).deep (by decide)) ?_
        exact mz_ret rfl
      refine mz_go 1 (c' := (if (vq_ar (w 21) WW HH 0 0 6 (nI k)) ≤ 0 then 21 else 18, [some (.ref 20), some (.int a0), some (.int (nI k))], [], w)) rfl ?_
      refine mz_ifT q1 ?_
      refine mz_go 2 (c' := (4, [some (.ref 20), some (.int a0), some (.int ((nI k) + 1))], [], w)) rfl ?_
      exact hr
    · have Er := ih (k + 1) (by omega) (a0 + 1)
      refine fun r hr0 => ?_
      have hst : vq_fn (fun c s => s + vq_gz (vq_ar (w 21) WW HH 0 0 6 (nI c))) (j + 1) k a0 = vq_fn (fun c s => s + vq_gz (vq_ar (w 21) WW HH 0 0 6 (nI c))) j (k + 1) (a0 + 1) := vq_fn_in (vq_gzb q1)
      rw [hst] at hr0
      have hr := Er r hr0
      rw [nI_succ k] at hr
      refine mz_go 3 (c' := (if 10 ≤ (nI k) then 27 else 10, [some (.ref 20), some (.int a0), some (.int (nI k))], [], w)) rfl ?_
      refine mz_ifF (show ¬ (10 ≤ (nI k)) from (sm_nleN rfl rfl (show k < 10 by omega) (show 10 < 2 ^ 31 by omega))) ?_
      refine mz_go 2 (c' := (12, [some (.ref 20), some (.int a0), some (.int (nI k))], [.int (nI k), .ref 20], w)) rfl ?_
      refine mz_do (R := mz_r9) (as := [.ref 20, .int (nI k)]) (rest := []) (r1 := some (.int (vq_ar (w 21) WW HH 0 0 6 (nI k)))) (m1 := w) rfl ⟨?_, rfl⟩ ?_
      · refine mz_go 5 (c' := (6, [some (.ref 20), some (.int (nI k))], [.int (nI k), .int 6, .int 0, .int 0, .ref 20], w)) rfl ?_
        refine mz_do (R := mz_r10) (as := [.ref 20, .int 0, .int 0, .int 6, .int (nI k)]) (rest := []) (r1 := some (.int (vq_ar (w 21) WW HH 0 0 6 (nI k)))) (m1 := w) rfl ((ve_caro (m := w) hWW hHH h202 h203 (show sm_B 1000 0 by unfold sm_B; decide) (show sm_B 1000 0 by unfold sm_B; decide) (show sm_B 1000 6 by unfold sm_B; decide) (show (0 : Int) ≤ (6 : Int32).toInt by decide) (nI k)).deep (by decide)) ?_
        exact mz_ret rfl
      refine mz_go 1 (c' := (if (vq_ar (w 21) WW HH 0 0 6 (nI k)) ≤ 0 then 21 else 18, [some (.ref 20), some (.int a0), some (.int (nI k))], [], w)) rfl ?_
      refine mz_ifF q1 ?_
      refine mz_go 3 (c' := (4, [some (.ref 20), some (.int (a0 + 1)), some (.int ((nI k) + 1))], [], w)) rfl ?_
      exact hr
set_option maxHeartbeats 4000000 in
set_option maxRecDepth 100000 in
theorem vc_cols {w : mz_M} {WW HH : Nat} (hWW : WW ≤ 6) (hHH : HH ≤ 6) (h202 : w 20 2 = nI WW) (h203 : w 20 3 = nI HH) : mz_Me 18 mz_r11 [.ref 20] w (some (.int (vq_fn (fun c s => s + vq_gz (vq_ar (w 21) WW HH 0 0 6 (nI c))) 10 0 0))) w := by
  have El := vc_colsl hWW hHH h202 h203 10 0 rfl 0
  refine ⟨?_, rfl⟩
  refine mz_go 4 (c' := (4, [some (.ref 20), some (.int 0), some (.int 0)], [], w)) rfl ?_
  refine El _ ?_
  refine mz_go 1 (c' := (28, [some (.ref 20), some (.int (vq_fn (fun c s => s + vq_gz (vq_ar (w 21) WW HH 0 0 6 (nI c))) 10 0 0)), some (.int (nI 10))], [.int (vq_fn (fun c s => s + vq_gz (vq_ar (w 21) WW HH 0 0 6 (nI c))) 10 0 0)], w)) rfl ?_
  exact mz_ret rfl
set_option maxHeartbeats 4000000 in
set_option maxRecDepth 100000 in
theorem vr_orb {w b : mz_M} (hbc : ∀ i, i < 36 → b 66 (70 + i) = w 21 i) {I J P Q : Nat} (h1 : I + P ≤ 6) (h2 : J + Q ≤ 6) {A : Nat} (hA : A < P) : ∀ j k : Nat, k + j = Q → ∀ (a0 : Int32), ∀ r, mz_Ex 16 mz_k189 (47, [some (.ref 65), some (.int (nI I)), some (.int (nI J)), some (.int (nI P)), some (.int (nI Q)), some (.int (vq_fn (fun b s => s ||| (1 <<< (w 21 (((J + b) * 6) + (I + A)) &&& 31))) j k a0)), some (.int (nI A)), some (.int (nI Q))], [], b) r → mz_Ex 16 mz_k189 (15, [some (.ref 65), some (.int (nI I)), some (.int (nI J)), some (.int (nI P)), some (.int (nI Q)), some (.int a0), some (.int (nI A)), some (.int (nI k))], [], b) r := by
  intro j
  induction j with
  | zero =>
    intro k hk a0
    rw [show k = Q by omega]
    exact fun r hr => (by
      refine mz_go 3 (c' := (if (nI Q) ≤ (nI Q) then 47 else 22, [some (.ref 65), some (.int (nI I)), some (.int (nI J)), some (.int (nI P)), some (.int (nI Q)), some (.int a0), some (.int (nI A)), some (.int (nI Q))], [], b)) rfl ?_
      refine mz_ifT (show ((nI Q) ≤ (nI Q)) from (sm_leN rfl rfl (show Q ≤ Q by omega) (show Q < 2 ^ 31 by omega))) ?_
      exact hr)
  | succ j ih =>
    intro k hk a0
    have Er := ih (k + 1) (by omega) (a0 ||| (1 <<< ((w 21 (((J + k) * 6) + (I + A))) &&& 31)))
    refine fun r hr0 => ?_
    have hst : vq_fn (fun b s => s ||| (1 <<< (w 21 (((J + b) * 6) + (I + A)) &&& 31))) (j + 1) k a0 = vq_fn (fun b s => s ||| (1 <<< (w 21 (((J + b) * 6) + (I + A)) &&& 31))) j (k + 1) (a0 ||| (1 <<< ((w 21 (((J + k) * 6) + (I + A))) &&& 31))) := vq_fn_in rfl
    rw [hst] at hr0
    have hr := Er r hr0
    rw [nI_succ k] at hr
    refine mz_go 3 (c' := (if (nI Q) ≤ (nI k) then 47 else 22, [some (.ref 65), some (.int (nI I)), some (.int (nI J)), some (.int (nI P)), some (.int (nI Q)), some (.int a0), some (.int (nI A)), some (.int (nI k))], [], b)) rfl ?_
    refine mz_ifF (show ¬ ((nI Q) ≤ (nI k)) from (sm_nleN rfl rfl (show k < Q by omega) (show Q < 2 ^ 31 by omega))) ?_
    refine mz_go 9 (c' := (34, [some (.ref 65), some (.int (nI I)), some (.int (nI J)), some (.int (nI P)), some (.int (nI Q)), some (.int a0), some (.int (nI A)), some (.int (nI k))], [.int ((nI J) + (nI k)), .int ((nI I) + (nI A)), .ref 65, .int 1, .int a0], b)) rfl ?_
    refine mz_do (R := mz_r186) (as := [.ref 65, .int ((nI I) + (nI A)), .int ((nI J) + (nI k))]) (rest := [.int 1, .int a0]) (r1 := some (.int (w 21 (((J + k) * 6) + (I + A))))) (m1 := b) rfl ((vr_colw (w := w) (m := b) hbc (A := (I + A)) (B := (J + k)) (by omega) (by omega) (a := (nI I) + (nI A)) (b := (nI J) + (nI k)) (sm_addN rfl rfl) (sm_addN rfl rfl)).deep (by decide)) ?_
    refine mz_go 5 (c' := (15, [some (.ref 65), some (.int (nI I)), some (.int (nI J)), some (.int (nI P)), some (.int (nI Q)), some (.int (a0 ||| (1 <<< ((w 21 (((J + k) * 6) + (I + A))) &&& 31)))), some (.int (nI A)), some (.int ((nI k) + 1))], [], b)) rfl ?_
    exact hr
set_option maxHeartbeats 4000000 in
set_option maxRecDepth 100000 in
theorem vr_ora {w b : mz_M} (hbc : ∀ i, i < 36 → b 66 (70 + i) = w 21 i) {I J P Q : Nat} (h1 : I + P ≤ 6) (h2 : J + Q ≤ 6) : ∀ j k : Nat, k + j = P → ∀ (a0 : Int32) (o0 : Option Value), ∃ (p0 : Option Value), ∀ r, mz_Ex 16 mz_k189 (53, [some (.ref 65), some (.int (nI I)), some (.int (nI J)), some (.int (nI P)), some (.int (nI Q)), some (.int (vq_fn (fun a s => vq_fn (fun b s => s ||| (1 <<< (w 21 (((J + b) * 6) + (I + a)) &&& 31))) Q 0 s) j k a0)), some (.int (nI P)), p0], [], b) r → mz_Ex 16 mz_k189 (6, [some (.ref 65), some (.int (nI I)), some (.int (nI J)), some (.int (nI P)), some (.int (nI Q)), some (.int a0), some (.int (nI k)), o0], [], b) r := by
  intro j
  induction j with
  | zero =>
    intro k hk a0 o0
    rw [show k = P by omega]
    exact ⟨o0, fun r hr => by
      refine mz_go 3 (c' := (if (nI P) ≤ (nI P) then 53 else 12, [some (.ref 65), some (.int (nI I)), some (.int (nI J)), some (.int (nI P)), some (.int (nI Q)), some (.int a0), some (.int (nI P)), o0], [], b)) rfl ?_
      refine mz_ifT (show ((nI P) ≤ (nI P)) from (sm_leN rfl rfl (show P ≤ P by omega) (show P < 2 ^ 31 by omega))) ?_
      exact hr⟩
  | succ j ih =>
    intro k hk a0 o0
    have Ey1 := vr_orb hbc h1 h2 (A := k) (by omega) Q 0 (by omega) a0
    obtain ⟨p0, Er⟩ := ih (k + 1) (by omega) (vq_fn (fun b s => s ||| (1 <<< (w 21 (((J + b) * 6) + (I + k)) &&& 31))) Q 0 a0) (some (.int (nI Q)))
    refine ⟨p0, fun r hr0 => ?_⟩
    have hst : vq_fn (fun a s => vq_fn (fun b s => s ||| (1 <<< (w 21 (((J + b) * 6) + (I + a)) &&& 31))) Q 0 s) (j + 1) k a0 = vq_fn (fun a s => vq_fn (fun b s => s ||| (1 <<< (w 21 (((J + b) * 6) + (I + a)) &&& 31))) Q 0 s) j (k + 1) (vq_fn (fun b s => s ||| (1 <<< (w 21 (((J + b) * 6) + (I + k)) &&& 31))) Q 0 a0) := vq_fn_in rfl
    rw [hst] at hr0
    have hr := Er r hr0
    rw [nI_succ k] at hr
    refine mz_go 3 (c' := (if (nI P) ≤ (nI k) then 53 else 12, [some (.ref 65), some (.int (nI I)), some (.int (nI J)), some (.int (nI P)), some (.int (nI Q)), some (.int a0), some (.int (nI k)), o0], [], b)) rfl ?_
    refine mz_ifF (show ¬ ((nI P) ≤ (nI k)) from (sm_nleN rfl rfl (show k < P by omega) (show P < 2 ^ 31 by omega))) ?_
    refine mz_go 2 (c' := (15, [some (.ref 65), some (.int (nI I)), some (.int (nI J)), some (.int (nI P)), some (.int (nI Q)), some (.int a0), some (.int (nI k)), some (.int 0)], [], b)) rfl ?_
    refine Ey1 _ ?_
    refine mz_go 2 (c' := (6, [some (.ref 65), some (.int (nI I)), some (.int (nI J)), some (.int (nI P)), some (.int (nI Q)), some (.int (vq_fn (fun b s => s ||| (1 <<< (w 21 (((J + b) * 6) + (I + k)) &&& 31))) Q 0 a0)), some (.int ((nI k) + 1)), some (.int (nI Q))], [], b)) rfl ?_
    exact hr
set_option maxHeartbeats 4000000 in
set_option maxRecDepth 100000 in
theorem vr_pop {b : mz_M} {I J P Q : Nat} : ∀ (fu : Nat) (x n : Int32) (o7 : Option Value), x.toBitVec.toNat < fu → ∃ (y : Int32) (p7 : Option Value), ∀ r, mz_Ex 16 mz_k189 (76, [some (.ref 65), some (.int (nI I)), some (.int (nI J)), some (.int (nI P)), some (.int (nI Q)), some (.int y), some (.int (vq_pl fu x n)), p7], [], b) r → mz_Ex 16 mz_k189 (56, [some (.ref 65), some (.int (nI I)), some (.int (nI J)), some (.int (nI P)), some (.int (nI Q)), some (.int x), some (.int n), o7], [], b) r := by
  intro fu
  induction fu with
  | zero =>
    intro x n o7 hms
    exact absurd hms (Nat.not_lt_zero _)
  | succ fu ih =>
    intro x n o7 hms
    by_cases q : x = 0
    · refine ⟨x, o7, fun r hr => ?_⟩
      rw [vq_pl0 q] at hr
      refine mz_go 2 (c' := (if x = 0 then 76 else 61, [some (.ref 65), some (.int (nI I)), some (.int (nI J)), some (.int (nI P)), some (.int (nI Q)), some (.int x), some (.int n), o7], [], b)) rfl ?_
      refine mz_ifT q ?_
      exact hr
    · obtain ⟨y, p7, Er⟩ := ih (x &&& (x - 1)) (n + 1) o7 (Nat.lt_of_lt_of_le (sm_pop q) (Nat.le_of_lt_succ hms))
      refine ⟨y, p7, fun r hr0 => ?_⟩
      rw [vq_pl1 q] at hr0
      have hr := Er r hr0
      refine mz_go 2 (c' := (if x = 0 then 76 else 61, [some (.ref 65), some (.int (nI I)), some (.int (nI J)), some (.int (nI P)), some (.int (nI Q)), some (.int x), some (.int n), o7], [], b)) rfl ?_
      refine mz_ifF q ?_
      refine mz_go 8 (c' := (56, [some (.ref 65), some (.int (nI I)), some (.int (nI J)), some (.int (nI P)), some (.int (nI Q)), some (.int (x &&& (x - 1))), some (.int (n + 1)), o7], [], b)) rfl ?_
      exact hr
set_option maxHeartbeats 4000000 in
set_option maxRecDepth 100000 in
theorem vr_cin {w b : mz_M} (hbc : ∀ i, i < 36 → b 66 (70 + i) = w 21 i) (hcb : ∀ i, i < 36 → sm_colB (w 21 i)) {I J P Q : Nat} (h1 : I + P ≤ 6) (h2 : J + Q ≤ 6) {i j p q : Int32} (ei : i = nI I) (ej : j = nI J) (ep : p = nI P) (eq : q = nI Q) : mz_Me 16 mz_r189 [.ref 65, .int i, .int j, .int p, .int q] b (some (.int (vq_pl 1024 (vq_orr (fun a b => w 21 (((J + b) * 6) + (I + a))) P Q) 0))) b := by
  subst ei
  subst ej
  subst ep
  subst eq
  have hms : (vq_orr (fun a b => w 21 (((J + b) * 6) + (I + a))) P Q).toBitVec.toNat < 1024 := by
    obtain ⟨M, hM, eM, -⟩ := vq_orrN (F := (fun a b => w 21 (((J + b) * 6) + (I + a)))) (P := P) (Q := Q) (fun a b ha hb => sm_colN (hcb _ (by omega)))
    rw [eM]
    exact nI_bv hM
  obtain ⟨pA, EA⟩ := vr_ora hbc h1 h2 P 0 (by omega) 0 none
  obtain ⟨yB, pB, EB⟩ := vr_pop (b := b) (I := I) (J := J) (P := P) (Q := Q) 1024 (vq_orr (fun a b => w 21 (((J + b) * 6) + (I + a))) P Q) 0 pA hms
  refine ⟨?_, rfl⟩
  refine mz_go 4 (c' := (6, [some (.ref 65), some (.int (nI I)), some (.int (nI J)), some (.int (nI P)), some (.int (nI Q)), some (.int 0), some (.int 0), none], [], b)) rfl ?_
  refine EA _ ?_
  refine mz_go 2 (c' := (56, [some (.ref 65), some (.int (nI I)), some (.int (nI J)), some (.int (nI P)), some (.int (nI Q)), some (.int (vq_orr (fun a b => w 21 (((J + b) * 6) + (I + a))) P Q)), some (.int 0), pA], [], b)) rfl ?_
  refine EB _ ?_
  refine mz_go 1 (c' := (78, [some (.ref 65), some (.int (nI I)), some (.int (nI J)), some (.int (nI P)), some (.int (nI Q)), some (.int yB), some (.int (vq_pl 1024 (vq_orr (fun a b => w 21 (((J + b) * 6) + (I + a))) P Q) 0)), pB], [.int (vq_pl 1024 (vq_orr (fun a b => w 21 (((J + b) * 6) + (I + a))) P Q) 0)], b)) rfl ?_
  exact mz_ret rfl
set_option maxHeartbeats 4000000 in
set_option maxRecDepth 100000 in
theorem cs_pici {m w : mz_M} {N : Nat} (hWl : sm_Wl m w) (hw : sm_W w N) (hr5 : w 7 5 = 1 ∨ w 7 5 = 2) (hr80 : sm_N 80 (w 7 2)) {W H : Nat} (hW : W ≤ 6) (hH : H ≤ 6) (h202 : m 20 2 = nI W) (h203 : m 20 3 = nI H) {xa xb xc xd : Int32} (hbx : ∀ k, k < W → sm_B 100 (xa + nI k * xd)) (hby : ∀ k, k < H → sm_B 100 (xb + nI k * xd)) {J : Nat} (hJ : J < H) : ∀ j k : Nat, k + j = W → ∀ (r f g : Nat → Int32) (o : Option Value), ∃ (r' f' g' : Nat → Int32) (o' : Option Value), ∀ res, mz_Ex 100 mz_k85 (186, [some (.ref 0), some (.int xa), some (.int xb), some (.int xc), some (.int xd), some (.int (nI W)), some (.int (nI H)), some (.ref 20), some (.int (nI J)), some (.int (nI W)), o'], [], mz_set (mz_set (mz_set (mz_set (mz_set m 21 (sm_pic W J W (fun i j => sm_end w (w 7 5) (xa + nI i * xd) (xb + nI j * xd) 0 0) (m 21))) 22 (sm_pic W J W (fun i j => sm_last w (w 7 5) (xa + nI i * xd) (xb + nI j * xd) 0 0 4) (m 22))) 50 r') 51 f') 52 g') res → mz_Ex 100 mz_k85 (118, [some (.ref 0), some (.int xa), some (.int xb), some (.int xc), some (.int xd), some (.int (nI W)), some (.int (nI H)), some (.ref 20), some (.int (nI J)), some (.int (nI k)), o], [], mz_set (mz_set (mz_set (mz_set (mz_set m 21 (sm_pic W J k (fun i j => sm_end w (w 7 5) (xa + nI i * xd) (xb + nI j * xd) 0 0) (m 21))) 22 (sm_pic W J k (fun i j => sm_last w (w 7 5) (xa + nI i * xd) (xb + nI j * xd) 0 0 4) (m 22))) 50 r) 51 f) 52 g) res := by
  have h75 : m 7 5 = w 7 5 := by rw [hWl 7 (by decide) (by decide)]
  intro j
  induction j with
  | zero =>
    intro k hk r f g o
    rw [show k = W by omega]
    exact ⟨r, f, g, o, fun res hr => by
      refine mz_go 3 (c' := (if (nI W) ≤ (nI W) then 186 else 125, [some (.ref 0), some (.int xa), some (.int xb), some (.int xc), some (.int xd), some (.int (nI W)), some (.int (nI H)), some (.ref 20), some (.int (nI J)), some (.int (nI W)), o], [], mz_set (mz_set (mz_set (mz_set (mz_set m 21 (sm_pic W J W (fun i j => sm_end w (w 7 5) (xa + nI i * xd) (xb + nI j * xd) 0 0) (m 21))) 22 (sm_pic W J W (fun i j => sm_last w (w 7 5) (xa + nI i * xd) (xb + nI j * xd) 0 0 4) (m 22))) 50 r) 51 f) 52 g)) rfl ?_
      refine mz_ifT (show ((nI W) ≤ (nI W)) from (sm_leN rfl rfl (show W ≤ W by omega) (show W < 2 ^ 31 by omega))) ?_
      exact hr⟩
  | succ j ih =>
    intro k hk r f g o
    obtain ⟨re1, fe1, ge1, le1, Ee1⟩ := cw_end (m := mz_set (mz_set (mz_set (mz_set (mz_set m 21 (sm_pic W J k (fun i j => sm_end w (w 7 5) (xa + nI i * xd) (xb + nI j * xd) 0 0) (m 21))) 22 (sm_pic W J k (fun i j => sm_last w (w 7 5) (xa + nI i * xd) (xb + nI j * xd) 0 0 4) (m 22))) 50 r) 51 f) 52 g) (w := w) (sm_Wl_s (by decide) (sm_Wl_s (by decide) (sm_Wl_s (by decide) (sm_Wl_s (by decide) (sm_Wl_s (by decide) hWl))))) hw (hr5.imp id Or.inl) hr80 (hbx k (by omega)) (hby J (by omega)) 0 0
    have e21 : (mz_up (mz_up (mz_set (mz_set (mz_set (mz_set (mz_set (mz_set (mz_set (mz_set m 21 (sm_pic W J k (fun i j => sm_end w (w 7 5) (xa + nI i * xd) (xb + nI j * xd) 0 0) (m 21))) 22 (sm_pic W J k (fun i j => sm_last w (w 7 5) (xa + nI i * xd) (xb + nI j * xd) 0 0 4) (m 22))) 50 r) 51 f) 52 g) 50 re1) 51 fe1) 52 ge1) 21 ((J * 6) + k) (sm_end w (w 7 5) (xa + ((nI k) * xd)) (xb + ((nI J) * xd)) 0 0)) 22 ((J * 6) + k) (sm_last w (w 7 5) (xa + ((nI k) * xd)) (xb + ((nI J) * xd)) 0 0 4)) 21 = sm_pic W J (k + 1) (fun i j => sm_end w (w 7 5) (xa + nI i * xd) (xb + nI j * xd) 0 0) (m 21) := by
      rw [mz_up_ne (show (21 : Nat) ≠ 22 by decide), sm_up_row, mz_set_ne (show (21 : Nat) ≠ 52 by decide), mz_set_ne (show (21 : Nat) ≠ 51 by decide), mz_set_ne (show (21 : Nat) ≠ 50 by decide), mz_set_ne (show (21 : Nat) ≠ 52 by decide), mz_set_ne (show (21 : Nat) ≠ 51 by decide), mz_set_ne (show (21 : Nat) ≠ 50 by decide), mz_set_ne (show (21 : Nat) ≠ 22 by decide), mz_set_eq]
      exact sm_pic_step (E := (fun i j => sm_end w (w 7 5) (xa + nI i * xd) (xb + nI j * xd) 0 0)) hW (by omega)
    have e22 : (mz_up (mz_up (mz_set (mz_set (mz_set (mz_set (mz_set (mz_set (mz_set (mz_set m 21 (sm_pic W J k (fun i j => sm_end w (w 7 5) (xa + nI i * xd) (xb + nI j * xd) 0 0) (m 21))) 22 (sm_pic W J k (fun i j => sm_last w (w 7 5) (xa + nI i * xd) (xb + nI j * xd) 0 0 4) (m 22))) 50 r) 51 f) 52 g) 50 re1) 51 fe1) 52 ge1) 21 ((J * 6) + k) (sm_end w (w 7 5) (xa + ((nI k) * xd)) (xb + ((nI J) * xd)) 0 0)) 22 ((J * 6) + k) (sm_last w (w 7 5) (xa + ((nI k) * xd)) (xb + ((nI J) * xd)) 0 0 4)) 22 = sm_pic W J (k + 1) (fun i j => sm_last w (w 7 5) (xa + nI i * xd) (xb + nI j * xd) 0 0 4) (m 22) := by
      rw [sm_up_row, mz_up_ne (show (22 : Nat) ≠ 21 by decide), mz_set_ne (show (22 : Nat) ≠ 52 by decide), mz_set_ne (show (22 : Nat) ≠ 51 by decide), mz_set_ne (show (22 : Nat) ≠ 50 by decide), mz_set_ne (show (22 : Nat) ≠ 52 by decide), mz_set_ne (show (22 : Nat) ≠ 51 by decide), mz_set_ne (show (22 : Nat) ≠ 50 by decide), mz_set_eq]
      exact sm_pic_step (E := (fun i j => sm_last w (w 7 5) (xa + nI i * xd) (xb + nI j * xd) 0 0 4)) hW (by omega)
    have hm : mz_up (mz_up (mz_set (mz_set (mz_set (mz_set (mz_set (mz_set (mz_set (mz_set m 21 (sm_pic W J k (fun i j => sm_end w (w 7 5) (xa + nI i * xd) (xb + nI j * xd) 0 0) (m 21))) 22 (sm_pic W J k (fun i j => sm_last w (w 7 5) (xa + nI i * xd) (xb + nI j * xd) 0 0 4) (m 22))) 50 r) 51 f) 52 g) 50 re1) 51 fe1) 52 ge1) 21 ((J * 6) + k) (sm_end w (w 7 5) (xa + ((nI k) * xd)) (xb + ((nI J) * xd)) 0 0)) 22 ((J * 6) + k) (sm_last w (w 7 5) (xa + ((nI k) * xd)) (xb + ((nI J) * xd)) 0 0 4) = mz_set (mz_set (mz_set (mz_set (mz_set m 21 (sm_pic W J (k + 1) (fun i j => sm_end w (w 7 5) (xa + nI i * xd) (xb + nI j * xd) 0 0) (m 21))) 22 (sm_pic W J (k + 1) (fun i j => sm_last w (w 7 5) (xa + nI i * xd) (xb + nI j * xd) 0 0 4) (m 22))) 50 re1) 51 fe1) 52 ge1 := by
      have h := sm_of5 (m := m) (m' := mz_up (mz_up (mz_set (mz_set (mz_set (mz_set (mz_set (mz_set (mz_set (mz_set m 21 (sm_pic W J k (fun i j => sm_end w (w 7 5) (xa + nI i * xd) (xb + nI j * xd) 0 0) (m 21))) 22 (sm_pic W J k (fun i j => sm_last w (w 7 5) (xa + nI i * xd) (xb + nI j * xd) 0 0 4) (m 22))) 50 r) 51 f) 52 g) 50 re1) 51 fe1) 52 ge1) 21 ((J * 6) + k) (sm_end w (w 7 5) (xa + ((nI k) * xd)) (xb + ((nI J) * xd)) 0 0)) 22 ((J * 6) + k) (sm_last w (w 7 5) (xa + ((nI k) * xd)) (xb + ((nI J) * xd)) 0 0 4)) (a := 21) (b := 22) (c := 50) (d := 51) (e := 52) (fun i h1 h2 h3 h4 h5 => by simp only [mz_set_ne h1, mz_set_ne h2, mz_set_ne h3, mz_set_ne h4, mz_set_ne h5, mz_up_ne h1, mz_up_ne h2])
      rw [e21, e22] at h
      exact h
    obtain ⟨r', f', g', o', E⟩ := ih (k + 1) (by omega) re1 fe1 ge1 (some (.int (sm_end w (w 7 5) (xa + ((nI k) * xd)) (xb + ((nI J) * xd)) 0 0)))
    refine ⟨r', f', g', o', fun res hr0 => ?_⟩
    have hr := E res hr0
    rw [nI_succ k, ← hm] at hr
    refine mz_go 3 (c' := (if (nI W) ≤ (nI k) then 186 else 125, [some (.ref 0), some (.int xa), some (.int xb), some (.int xc), some (.int xd), some (.int (nI W)), some (.int (nI H)), some (.ref 20), some (.int (nI J)), some (.int (nI k)), o], [], mz_set (mz_set (mz_set (mz_set (mz_set m 21 (sm_pic W J k (fun i j => sm_end w (w 7 5) (xa + nI i * xd) (xb + nI j * xd) 0 0) (m 21))) 22 (sm_pic W J k (fun i j => sm_last w (w 7 5) (xa + nI i * xd) (xb + nI j * xd) 0 0 4) (m 22))) 50 r) 51 f) 52 g)) rfl ?_
    refine mz_ifF (show ¬ ((nI W) ≤ (nI k)) from (sm_nleN rfl rfl (show k < W by omega) (show W < 2 ^ 31 by omega))) ?_
    refine mz_go 19 (c' := (154, [some (.ref 0), some (.int xa), some (.int xb), some (.int xc), some (.int xd), some (.int (nI W)), some (.int (nI H)), some (.ref 20), some (.int (nI J)), some (.int (nI k)), o], [.int (m 7 5), .int 0, .int 0, .int (xb + ((nI J) * xd)), .int (xa + ((nI k) * xd)), .ref 49], mz_set (mz_set (mz_set (mz_set (mz_set m 21 (sm_pic W J k (fun i j => sm_end w (w 7 5) (xa + nI i * xd) (xb + nI j * xd) 0 0) (m 21))) 22 (sm_pic W J k (fun i j => sm_last w (w 7 5) (xa + nI i * xd) (xb + nI j * xd) 0 0 4) (m 22))) 50 r) 51 f) 52 g)) rfl ?_
    rw [h75]
    refine mz_do (R := mz_r36) (as := [.ref 49, .int (xa + ((nI k) * xd)), .int (xb + ((nI J) * xd)), .int 0, .int 0, .int (w 7 5)]) (rest := []) (r1 := some (.int (sm_end w (w 7 5) (xa + ((nI k) * xd)) (xb + ((nI J) * xd)) 0 0))) (m1 := mz_set (mz_set (mz_set (mz_set (mz_set (mz_set (mz_set (mz_set m 21 (sm_pic W J k (fun i j => sm_end w (w 7 5) (xa + nI i * xd) (xb + nI j * xd) 0 0) (m 21))) 22 (sm_pic W J k (fun i j => sm_last w (w 7 5) (xa + nI i * xd) (xb + nI j * xd) 0 0 4) (m 22))) 50 r) 51 f) 52 g) 50 re1) 51 fe1) 52 ge1) rfl (Ee1.deep (by decide)) ?_
    refine mz_go 9 (c' := (177, [some (.ref 0), some (.int xa), some (.int xb), some (.int xc), some (.int xd), some (.int (nI W)), some (.int (nI H)), some (.ref 20), some (.int (nI J)), some (.int (nI k)), some (.int (sm_end w (w 7 5) (xa + ((nI k) * xd)) (xb + ((nI J) * xd)) 0 0))], [.int (re1 4), .int (sm_end w (w 7 5) (xa + ((nI k) * xd)) (xb + ((nI J) * xd)) 0 0), .int (nI J), .int (nI k), .ref 20], mz_set (mz_set (mz_set (mz_set (mz_set (mz_set (mz_set (mz_set m 21 (sm_pic W J k (fun i j => sm_end w (w 7 5) (xa + nI i * xd) (xb + nI j * xd) 0 0) (m 21))) 22 (sm_pic W J k (fun i j => sm_last w (w 7 5) (xa + nI i * xd) (xb + nI j * xd) 0 0 4) (m 22))) 50 r) 51 f) 52 g) 50 re1) 51 fe1) 52 ge1)) rfl ?_
    rw [le1.2.2.2.2]
    refine mz_do (R := mz_r6) (as := [.ref 20, .int (nI k), .int (nI J), .int (sm_end w (w 7 5) (xa + ((nI k) * xd)) (xb + ((nI J) * xd)) 0 0), .int (sm_last w (w 7 5) (xa + ((nI k) * xd)) (xb + ((nI J) * xd)) 0 0 4)]) (rest := []) (r1 := none) (m1 := mz_up (mz_up (mz_set (mz_set (mz_set (mz_set (mz_set (mz_set (mz_set (mz_set m 21 (sm_pic W J k (fun i j => sm_end w (w 7 5) (xa + nI i * xd) (xb + nI j * xd) 0 0) (m 21))) 22 (sm_pic W J k (fun i j => sm_last w (w 7 5) (xa + nI i * xd) (xb + nI j * xd) 0 0 4) (m 22))) 50 r) 51 f) 52 g) 50 re1) 51 fe1) 52 ge1) 21 ((J * 6) + k) (sm_end w (w 7 5) (xa + ((nI k) * xd)) (xb + ((nI J) * xd)) 0 0)) 22 ((J * 6) + k) (sm_last w (w 7 5) (xa + ((nI k) * xd)) (xb + ((nI J) * xd)) 0 0 4)) rfl ⟨?_, rfl⟩ ?_
    · refine mz_go 3 (c' := (3, [some (.ref 20), some (.int (nI k)), some (.int (nI J)), some (.int (sm_end w (w 7 5) (xa + ((nI k) * xd)) (xb + ((nI J) * xd)) 0 0)), some (.int (sm_last w (w 7 5) (xa + ((nI k) * xd)) (xb + ((nI J) * xd)) 0 0 4))], [.int (nI J), .int (nI k), .ref 20], mz_set (mz_set (mz_set (mz_set (mz_set (mz_set (mz_set (mz_set m 21 (sm_pic W J k (fun i j => sm_end w (w 7 5) (xa + nI i * xd) (xb + nI j * xd) 0 0) (m 21))) 22 (sm_pic W J k (fun i j => sm_last w (w 7 5) (xa + nI i * xd) (xb + nI j * xd) 0 0 4) (m 22))) 50 r) 51 f) 52 g) 50 re1) 51 fe1) 52 ge1)) rfl ?_
      refine mz_do (R := mz_r4) (as := [.ref 20, .int (nI k), .int (nI J)]) (rest := []) (r1 := some (.int 1)) (m1 := mz_set (mz_set (mz_set (mz_set (mz_set (mz_set (mz_set (mz_set m 21 (sm_pic W J k (fun i j => sm_end w (w 7 5) (xa + nI i * xd) (xb + nI j * xd) 0 0) (m 21))) 22 (sm_pic W J k (fun i j => sm_last w (w 7 5) (xa + nI i * xd) (xb + nI j * xd) 0 0 4) (m 22))) 50 r) 51 f) 52 g) 50 re1) 51 fe1) 52 ge1) rfl ⟨?_, rfl⟩ ?_
      · refine mz_go 2 (c' := (if (nI k) < 0 then 40 else 4, [some (.ref 20), some (.int (nI k)), some (.int (nI J))], [], mz_set (mz_set (mz_set (mz_set (mz_set (mz_set (mz_set (mz_set m 21 (sm_pic W J k (fun i j => sm_end w (w 7 5) (xa + nI i * xd) (xb + nI j * xd) 0 0) (m 21))) 22 (sm_pic W J k (fun i j => sm_last w (w 7 5) (xa + nI i * xd) (xb + nI j * xd) 0 0 4) (m 22))) 50 r) 51 f) 52 g) 50 re1) 51 fe1) 52 ge1)) rfl ?_
        refine mz_ifF (show ¬ ((nI k) < 0) from (sm_nltN rfl rfl (show 0 ≤ k by omega) (show k < 2 ^ 31 by omega))) ?_
        refine mz_go 3 (c' := (9, [some (.ref 20), some (.int (nI k)), some (.int (nI J))], [.int (m 20 2), .int (nI k)], mz_set (mz_set (mz_set (mz_set (mz_set (mz_set (mz_set (mz_set m 21 (sm_pic W J k (fun i j => sm_end w (w 7 5) (xa + nI i * xd) (xb + nI j * xd) 0 0) (m 21))) 22 (sm_pic W J k (fun i j => sm_last w (w 7 5) (xa + nI i * xd) (xb + nI j * xd) 0 0 4) (m 22))) 50 r) 51 f) 52 g) 50 re1) 51 fe1) 52 ge1)) rfl ?_
        rw [h202]
        refine mz_go 1 (c' := (if (nI W) ≤ (nI k) then 40 else 12, [some (.ref 20), some (.int (nI k)), some (.int (nI J))], [], mz_set (mz_set (mz_set (mz_set (mz_set (mz_set (mz_set (mz_set m 21 (sm_pic W J k (fun i j => sm_end w (w 7 5) (xa + nI i * xd) (xb + nI j * xd) 0 0) (m 21))) 22 (sm_pic W J k (fun i j => sm_last w (w 7 5) (xa + nI i * xd) (xb + nI j * xd) 0 0 4) (m 22))) 50 r) 51 f) 52 g) 50 re1) 51 fe1) 52 ge1)) rfl ?_
        refine mz_ifF (show ¬ ((nI W) ≤ (nI k)) from (sm_nleN rfl rfl (show k < W by omega) (show W < 2 ^ 31 by omega))) ?_
        refine mz_go 3 (c' := (if 6 ≤ (nI k) then 40 else 18, [some (.ref 20), some (.int (nI k)), some (.int (nI J))], [], mz_set (mz_set (mz_set (mz_set (mz_set (mz_set (mz_set (mz_set m 21 (sm_pic W J k (fun i j => sm_end w (w 7 5) (xa + nI i * xd) (xb + nI j * xd) 0 0) (m 21))) 22 (sm_pic W J k (fun i j => sm_last w (w 7 5) (xa + nI i * xd) (xb + nI j * xd) 0 0 4) (m 22))) 50 r) 51 f) 52 g) 50 re1) 51 fe1) 52 ge1)) rfl ?_
        refine mz_ifF (show ¬ (6 ≤ (nI k)) from (sm_nleN rfl rfl (show k < 6 by omega) (show 6 < 2 ^ 31 by omega))) ?_
        refine mz_go 2 (c' := (if (nI J) < 0 then 40 else 22, [some (.ref 20), some (.int (nI k)), some (.int (nI J))], [], mz_set (mz_set (mz_set (mz_set (mz_set (mz_set (mz_set (mz_set m 21 (sm_pic W J k (fun i j => sm_end w (w 7 5) (xa + nI i * xd) (xb + nI j * xd) 0 0) (m 21))) 22 (sm_pic W J k (fun i j => sm_last w (w 7 5) (xa + nI i * xd) (xb + nI j * xd) 0 0 4) (m 22))) 50 r) 51 f) 52 g) 50 re1) 51 fe1) 52 ge1)) rfl ?_
        refine mz_ifF (show ¬ ((nI J) < 0) from (sm_nltN rfl rfl (show 0 ≤ J by omega) (show J < 2 ^ 31 by omega))) ?_
        refine mz_go 3 (c' := (27, [some (.ref 20), some (.int (nI k)), some (.int (nI J))], [.int (m 20 3), .int (nI J)], mz_set (mz_set (mz_set (mz_set (mz_set (mz_set (mz_set (mz_set m 21 (sm_pic W J k (fun i j => sm_end w (w 7 5) (xa + nI i * xd) (xb + nI j * xd) 0 0) (m 21))) 22 (sm_pic W J k (fun i j => sm_last w (w 7 5) (xa + nI i * xd) (xb + nI j * xd) 0 0 4) (m 22))) 50 r) 51 f) 52 g) 50 re1) 51 fe1) 52 ge1)) rfl ?_
        rw [h203]
        refine mz_go 1 (c' := (if (nI H) ≤ (nI J) then 40 else 30, [some (.ref 20), some (.int (nI k)), some (.int (nI J))], [], mz_set (mz_set (mz_set (mz_set (mz_set (mz_set (mz_set (mz_set m 21 (sm_pic W J k (fun i j => sm_end w (w 7 5) (xa + nI i * xd) (xb + nI j * xd) 0 0) (m 21))) 22 (sm_pic W J k (fun i j => sm_last w (w 7 5) (xa + nI i * xd) (xb + nI j * xd) 0 0 4) (m 22))) 50 r) 51 f) 52 g) 50 re1) 51 fe1) 52 ge1)) rfl ?_
        refine mz_ifF (show ¬ ((nI H) ≤ (nI J)) from (sm_nleN rfl rfl (show J < H by omega) (show H < 2 ^ 31 by omega))) ?_
        refine mz_go 3 (c' := (if 6 ≤ (nI J) then 40 else 36, [some (.ref 20), some (.int (nI k)), some (.int (nI J))], [], mz_set (mz_set (mz_set (mz_set (mz_set (mz_set (mz_set (mz_set m 21 (sm_pic W J k (fun i j => sm_end w (w 7 5) (xa + nI i * xd) (xb + nI j * xd) 0 0) (m 21))) 22 (sm_pic W J k (fun i j => sm_last w (w 7 5) (xa + nI i * xd) (xb + nI j * xd) 0 0 4) (m 22))) 50 r) 51 f) 52 g) 50 re1) 51 fe1) 52 ge1)) rfl ?_
        refine mz_ifF (show ¬ (6 ≤ (nI J)) from (sm_nleN rfl rfl (show J < 6 by omega) (show 6 < 2 ^ 31 by omega))) ?_
        refine mz_go 2 (c' := (41, [some (.ref 20), some (.int (nI k)), some (.int (nI J))], [.int 1], mz_set (mz_set (mz_set (mz_set (mz_set (mz_set (mz_set (mz_set m 21 (sm_pic W J k (fun i j => sm_end w (w 7 5) (xa + nI i * xd) (xb + nI j * xd) 0 0) (m 21))) 22 (sm_pic W J k (fun i j => sm_last w (w 7 5) (xa + nI i * xd) (xb + nI j * xd) 0 0 4) (m 22))) 50 r) 51 f) 52 g) 50 re1) 51 fe1) 52 ge1)) rfl ?_
        exact mz_ret rfl
      refine mz_go 9 (c' := (20, [some (.ref 20), some (.int (nI k)), some (.int (nI J)), some (.int (sm_end w (w 7 5) (xa + ((nI k) * xd)) (xb + ((nI J) * xd)) 0 0)), some (.int (sm_last w (w 7 5) (xa + ((nI k) * xd)) (xb + ((nI J) * xd)) 0 0 4))], [.int (sm_end w (w 7 5) (xa + ((nI k) * xd)) (xb + ((nI J) * xd)) 0 0), .int (((nI J) * 6) + (nI k)), .ref 21], mz_set (mz_set (mz_set (mz_set (mz_set (mz_set (mz_set (mz_set m 21 (sm_pic W J k (fun i j => sm_end w (w 7 5) (xa + nI i * xd) (xb + nI j * xd) 0 0) (m 21))) 22 (sm_pic W J k (fun i j => sm_last w (w 7 5) (xa + nI i * xd) (xb + nI j * xd) 0 0 4) (m 22))) 50 r) 51 f) 52 g) 50 re1) 51 fe1) 52 ge1)) rfl ?_
      refine mz_arr (c' := (21, [some (.ref 20), some (.int (nI k)), some (.int (nI J)), some (.int (sm_end w (w 7 5) (xa + ((nI k) * xd)) (xb + ((nI J) * xd)) 0 0)), some (.int (sm_last w (w 7 5) (xa + ((nI k) * xd)) (xb + ((nI J) * xd)) 0 0 4))], [], mz_up (mz_set (mz_set (mz_set (mz_set (mz_set (mz_set (mz_set (mz_set m 21 (sm_pic W J k (fun i j => sm_end w (w 7 5) (xa + nI i * xd) (xb + nI j * xd) 0 0) (m 21))) 22 (sm_pic W J k (fun i j => sm_last w (w 7 5) (xa + nI i * xd) (xb + nI j * xd) 0 0 4) (m 22))) 50 r) 51 f) 52 g) 50 re1) 51 fe1) 52 ge1) 21 ((((nI J) * 6) + (nI k)).toNatClampNeg) (sm_end w (w 7 5) (xa + ((nI k) * xd)) (xb + ((nI J) * xd)) 0 0))) rfl (show mz_in (((nI J) * 6) + (nI k)) 36 = true from sm_inN (sm_addN (sm_mulN rfl rfl) rfl) (show ((J * 6) + k) < 36 by omega) (by decide)) ?_
      rw [show (((nI J) * 6) + (nI k) : Int32).toNatClampNeg = ((J * 6) + k) from sm_clN (sm_addN (sm_mulN rfl rfl) rfl) (show ((J * 6) + k) < 2 ^ 31 by omega)]
      refine mz_go 8 (c' := (33, [some (.ref 20), some (.int (nI k)), some (.int (nI J)), some (.int (sm_end w (w 7 5) (xa + ((nI k) * xd)) (xb + ((nI J) * xd)) 0 0)), some (.int (sm_last w (w 7 5) (xa + ((nI k) * xd)) (xb + ((nI J) * xd)) 0 0 4))], [.int (sm_last w (w 7 5) (xa + ((nI k) * xd)) (xb + ((nI J) * xd)) 0 0 4), .int (((nI J) * 6) + (nI k)), .ref 22], mz_up (mz_set (mz_set (mz_set (mz_set (mz_set (mz_set (mz_set (mz_set m 21 (sm_pic W J k (fun i j => sm_end w (w 7 5) (xa + nI i * xd) (xb + nI j * xd) 0 0) (m 21))) 22 (sm_pic W J k (fun i j => sm_last w (w 7 5) (xa + nI i * xd) (xb + nI j * xd) 0 0 4) (m 22))) 50 r) 51 f) 52 g) 50 re1) 51 fe1) 52 ge1) 21 ((J * 6) + k) (sm_end w (w 7 5) (xa + ((nI k) * xd)) (xb + ((nI J) * xd)) 0 0))) rfl ?_
      refine mz_arr (c' := (34, [some (.ref 20), some (.int (nI k)), some (.int (nI J)), some (.int (sm_end w (w 7 5) (xa + ((nI k) * xd)) (xb + ((nI J) * xd)) 0 0)), some (.int (sm_last w (w 7 5) (xa + ((nI k) * xd)) (xb + ((nI J) * xd)) 0 0 4))], [], mz_up (mz_up (mz_set (mz_set (mz_set (mz_set (mz_set (mz_set (mz_set (mz_set m 21 (sm_pic W J k (fun i j => sm_end w (w 7 5) (xa + nI i * xd) (xb + nI j * xd) 0 0) (m 21))) 22 (sm_pic W J k (fun i j => sm_last w (w 7 5) (xa + nI i * xd) (xb + nI j * xd) 0 0 4) (m 22))) 50 r) 51 f) 52 g) 50 re1) 51 fe1) 52 ge1) 21 ((J * 6) + k) (sm_end w (w 7 5) (xa + ((nI k) * xd)) (xb + ((nI J) * xd)) 0 0)) 22 ((((nI J) * 6) + (nI k)).toNatClampNeg) (sm_last w (w 7 5) (xa + ((nI k) * xd)) (xb + ((nI J) * xd)) 0 0 4))) rfl (show mz_in (((nI J) * 6) + (nI k)) 36 = true from sm_inN (sm_addN (sm_mulN rfl rfl) rfl) (show ((J * 6) + k) < 36 by omega) (by decide)) ?_
      rw [show (((nI J) * 6) + (nI k) : Int32).toNatClampNeg = ((J * 6) + k) from sm_clN (sm_addN (sm_mulN rfl rfl) rfl) (show ((J * 6) + k) < 2 ^ 31 by omega)]
      exact mz_ret rfl
    refine mz_go 2 (c' := (118, [some (.ref 0), some (.int xa), some (.int xb), some (.int xc), some (.int xd), some (.int (nI W)), some (.int (nI H)), some (.ref 20), some (.int (nI J)), some (.int ((nI k) + 1)), some (.int (sm_end w (w 7 5) (xa + ((nI k) * xd)) (xb + ((nI J) * xd)) 0 0))], [], mz_up (mz_up (mz_set (mz_set (mz_set (mz_set (mz_set (mz_set (mz_set (mz_set m 21 (sm_pic W J k (fun i j => sm_end w (w 7 5) (xa + nI i * xd) (xb + nI j * xd) 0 0) (m 21))) 22 (sm_pic W J k (fun i j => sm_last w (w 7 5) (xa + nI i * xd) (xb + nI j * xd) 0 0 4) (m 22))) 50 r) 51 f) 52 g) 50 re1) 51 fe1) 52 ge1) 21 ((J * 6) + k) (sm_end w (w 7 5) (xa + ((nI k) * xd)) (xb + ((nI J) * xd)) 0 0)) 22 ((J * 6) + k) (sm_last w (w 7 5) (xa + ((nI k) * xd)) (xb + ((nI J) * xd)) 0 0 4))) rfl ?_
    exact hr
set_option maxHeartbeats 4000000 in
set_option maxRecDepth 100000 in
theorem cs_picj {m w : mz_M} {N : Nat} (hWl : sm_Wl m w) (hw : sm_W w N) (hr5 : w 7 5 = 1 ∨ w 7 5 = 2) (hr80 : sm_N 80 (w 7 2)) {W H : Nat} (hW : W ≤ 6) (hH : H ≤ 6) (h202 : m 20 2 = nI W) (h203 : m 20 3 = nI H) {xa xb xc xd : Int32} (hbx : ∀ k, k < W → sm_B 100 (xa + nI k * xd)) (hby : ∀ k, k < H → sm_B 100 (xb + nI k * xd)) : ∀ j J : Nat, J + j = H → ∀ (r f g : Nat → Int32) (o9 o : Option Value), ∃ (r' f' g' : Nat → Int32) (p9 p : Option Value), ∀ res, mz_Ex 100 mz_k85 (192, [some (.ref 0), some (.int xa), some (.int xb), some (.int xc), some (.int xd), some (.int (nI W)), some (.int (nI H)), some (.ref 20), some (.int (nI H)), p9, p], [], mz_set (mz_set (mz_set (mz_set (mz_set m 21 (sm_pic W H 0 (fun i j => sm_end w (w 7 5) (xa + nI i * xd) (xb + nI j * xd) 0 0) (m 21))) 22 (sm_pic W H 0 (fun i j => sm_last w (w 7 5) (xa + nI i * xd) (xb + nI j * xd) 0 0 4) (m 22))) 50 r') 51 f') 52 g') res → mz_Ex 100 mz_k85 (108, [some (.ref 0), some (.int xa), some (.int xb), some (.int xc), some (.int xd), some (.int (nI W)), some (.int (nI H)), some (.ref 20), some (.int (nI J)), o9, o], [], mz_set (mz_set (mz_set (mz_set (mz_set m 21 (sm_pic W J 0 (fun i j => sm_end w (w 7 5) (xa + nI i * xd) (xb + nI j * xd) 0 0) (m 21))) 22 (sm_pic W J 0 (fun i j => sm_last w (w 7 5) (xa + nI i * xd) (xb + nI j * xd) 0 0 4) (m 22))) 50 r) 51 f) 52 g) res := by
  intro j
  induction j with
  | zero =>
    intro J hk r f g o9 o
    rw [show J = H by omega]
    exact ⟨r, f, g, o9, o, fun res hr => by
      refine mz_go 3 (c' := (if (nI H) ≤ (nI H) then 192 else 115, [some (.ref 0), some (.int xa), some (.int xb), some (.int xc), some (.int xd), some (.int (nI W)), some (.int (nI H)), some (.ref 20), some (.int (nI H)), o9, o], [], mz_set (mz_set (mz_set (mz_set (mz_set m 21 (sm_pic W H 0 (fun i j => sm_end w (w 7 5) (xa + nI i * xd) (xb + nI j * xd) 0 0) (m 21))) 22 (sm_pic W H 0 (fun i j => sm_last w (w 7 5) (xa + nI i * xd) (xb + nI j * xd) 0 0 4) (m 22))) 50 r) 51 f) 52 g)) rfl ?_
      refine mz_ifT (show ((nI H) ≤ (nI H)) from (sm_leN rfl rfl (show H ≤ H by omega) (show H < 2 ^ 31 by omega))) ?_
      exact hr⟩
  | succ j ih =>
    intro J hk r f g o9 o
    obtain ⟨r1, f1, g1, o1, E1⟩ := cs_pici hWl hw hr5 hr80 hW hH h202 h203 (xc := xc) hbx hby (J := J) (by omega) W 0 (by omega) r f g o
    obtain ⟨r', f', g', p9, p, E⟩ := ih (J + 1) (by omega) r1 f1 g1 (some (.int (nI W))) o1
    refine ⟨r', f', g', p9, p, fun res hr0 => ?_⟩
    have hr := E res hr0
    rw [nI_succ J, ← sm_pic_row, ← sm_pic_row] at hr
    have hr2 := E1 res (by
      refine mz_go 2 (c' := (108, [some (.ref 0), some (.int xa), some (.int xb), some (.int xc), some (.int xd), some (.int (nI W)), some (.int (nI H)), some (.ref 20), some (.int ((nI J) + 1)), some (.int (nI W)), o1], [], mz_set (mz_set (mz_set (mz_set (mz_set m 21 (sm_pic W J W (fun i j => sm_end w (w 7 5) (xa + nI i * xd) (xb + nI j * xd) 0 0) (m 21))) 22 (sm_pic W J W (fun i j => sm_last w (w 7 5) (xa + nI i * xd) (xb + nI j * xd) 0 0 4) (m 22))) 50 r1) 51 f1) 52 g1)) rfl ?_
      exact hr)
    refine mz_go 3 (c' := (if (nI H) ≤ (nI J) then 192 else 115, [some (.ref 0), some (.int xa), some (.int xb), some (.int xc), some (.int xd), some (.int (nI W)), some (.int (nI H)), some (.ref 20), some (.int (nI J)), o9, o], [], mz_set (mz_set (mz_set (mz_set (mz_set m 21 (sm_pic W J 0 (fun i j => sm_end w (w 7 5) (xa + nI i * xd) (xb + nI j * xd) 0 0) (m 21))) 22 (sm_pic W J 0 (fun i j => sm_last w (w 7 5) (xa + nI i * xd) (xb + nI j * xd) 0 0 4) (m 22))) 50 r) 51 f) 52 g)) rfl ?_
    refine mz_ifF (show ¬ ((nI H) ≤ (nI J)) from (sm_nleN rfl rfl (show J < H by omega) (show H < 2 ^ 31 by omega))) ?_
    refine mz_go 2 (c' := (118, [some (.ref 0), some (.int xa), some (.int xb), some (.int xc), some (.int xd), some (.int (nI W)), some (.int (nI H)), some (.ref 20), some (.int (nI J)), some (.int 0), o], [], mz_set (mz_set (mz_set (mz_set (mz_set m 21 (sm_pic W J 0 (fun i j => sm_end w (w 7 5) (xa + nI i * xd) (xb + nI j * xd) 0 0) (m 21))) 22 (sm_pic W J 0 (fun i j => sm_last w (w 7 5) (xa + nI i * xd) (xb + nI j * xd) 0 0 4) (m 22))) 50 r) 51 f) 52 g)) rfl ?_
    exact hr2
set_option maxHeartbeats 4000000 in
set_option maxRecDepth 100000 in
theorem ct_pici {m w : mz_M} {N : Nat} (hw : sm_W w N) (hr2 : sm_HR w (m 66)) (h6615 : m 66 15 = w 7 5) (hr5 : w 7 5 = 1 ∨ w 7 5 = 2) (hr80 : sm_N 80 (w 7 2)) {W H : Nat} (hW : W ≤ 6) (hH : H ≤ 6) {xa xb xc xd : Int32} (hbx : ∀ k, k < W → sm_B 100 (xa + nI k * xd)) (hby : ∀ k, k < H → sm_B 100 (xb + nI k * xd)) (l7 : Int32) {J : Nat} (hJ : J < H) : ∀ j K : Nat, K + j = W → ∀ (s r a b : Nat → Int32) (o : Option Value), sm_ps W J K (fun i j => sm_end w (w 7 5) (xa + nI i * xd) (xb + nI j * xd) 0 0) (fun i j => sm_last w (w 7 5) (xa + nI i * xd) (xb + nI j * xd) 0 0 4) (m 66) s → (∀ k, k < 4 ∨ 8 < k → r k = m 65 k) → ∃ (s' r' a' b' : Nat → Int32) (o' : Option Value), sm_ps W J W (fun i j => sm_end w (w 7 5) (xa + nI i * xd) (xb + nI j * xd) 0 0) (fun i j => sm_last w (w 7 5) (xa + nI i * xd) (xb + nI j * xd) 0 0 4) (m 66) s' ∧ (∀ k, k < 4 ∨ 8 < k → r' k = m 65 k) ∧ ∀ res, mz_Ex 100 mz_k190 (141, [some (.ref 65), some (.int xa), some (.int xb), some (.int xc), some (.int xd), some (.int (nI W)), some (.int (nI H)), some (.int l7), some (.int (nI (J * W + W))), o'], [], mz_set (mz_set (mz_set (mz_set m 66 s') 65 r') 70 a') 71 b') res → mz_Ex 100 mz_k190 (141, [some (.ref 65), some (.int xa), some (.int xb), some (.int xc), some (.int xd), some (.int (nI W)), some (.int (nI H)), some (.int l7), some (.int (nI (J * W + K))), o], [], mz_set (mz_set (mz_set (mz_set m 66 s) 65 r) 70 a) 71 b) res := by
  intro j
  induction j with
  | zero =>
    intro K hk s r a b o hs hkr
    rw [show K = W by omega] at hs ⊢
    exact ⟨s, r, a, b, o, hs, hkr, fun res hr => hr⟩
  | succ j ih =>
    intro K hk s r a b o hs hkr
    have hRs : sm_HR w s := sm_HR_s (fun i hi => hs.2.2 i (by omega)) hr2
    have h75 : s 15 = w 7 5 := (hs.2.2 15 (by omega)).trans h6615
    have h36 : J * W + K < W * H := by
      have h1 : (J + 1) * W ≤ H * W := Nat.mul_le_mul_right W (by omega)
      rw [Nat.add_mul, Nat.one_mul] at h1
      rw [Nat.mul_comm W H]
      omega
    have h37 : W * H ≤ 6 * 6 := Nat.mul_le_mul hW hH
    have hdm := sm_dm (W := W) (J := J) (K := K) (by omega)
    have hdv : nI (J * W + K) / nI W = nI J := by rw [sm_divN (by omega) (by omega), hdm.1]
    have hmd : nI (J * W + K) - nI (J * W + K) / nI W * nI W = nI K := by rw [sm_modN (by omega) (by omega), hdm.2]
    have hlt : ¬ ((nI W) * (nI H)) ≤ (nI (J * W + K)) := by
      rw [sm_mulN (a := W) (b := H) rfl rfl]
      exact nI_ge h36 (by omega)
    obtain ⟨re1, fe1, ge1, le1, ke1, Ee1⟩ := ct_from (w := w) (m := mz_set (mz_set (mz_set (mz_set m 66 s) 65 r) 70 a) 71 b) hw hRs (hr5.imp id Or.inl) hr80 (hbx K (by omega)) (hby J (by omega))
    have e66 : ∀ i, (mz_up (mz_up (mz_set (mz_set (mz_set (mz_set (mz_set (mz_set (mz_set m 66 s) 65 r) 70 a) 71 b) 65 re1) 70 fe1) 71 ge1) 66 (70 + ((6 * J) + K)) (sm_end w (w 7 5) (xa + ((nI K) * xd)) (xb + ((nI J) * xd)) 0 0)) 66 (110 + ((6 * J) + K)) (sm_last w (w 7 5) (xa + ((nI K) * xd)) (xb + ((nI J) * xd)) 0 0 4)) 66 i = if i = 110 + (6 * J + K) then (fun i j => sm_last w (w 7 5) (xa + nI i * xd) (xb + nI j * xd) 0 0 4) K J else if i = 70 + (6 * J + K) then (fun i j => sm_end w (w 7 5) (xa + nI i * xd) (xb + nI j * xd) 0 0) K J else s i := fun i => by
      rw [sm_up_row, sm_up_row, mz_set_ne (show (66 : Nat) ≠ 71 by decide), mz_set_ne (show (66 : Nat) ≠ 70 by decide), mz_set_ne (show (66 : Nat) ≠ 65 by decide), mz_set_ne (show (66 : Nat) ≠ 71 by decide), mz_set_ne (show (66 : Nat) ≠ 70 by decide), mz_set_ne (show (66 : Nat) ≠ 65 by decide), mz_set_eq]
      rfl
    have hm : mz_up (mz_up (mz_set (mz_set (mz_set (mz_set (mz_set (mz_set (mz_set m 66 s) 65 r) 70 a) 71 b) 65 re1) 70 fe1) 71 ge1) 66 (70 + ((6 * J) + K)) (sm_end w (w 7 5) (xa + ((nI K) * xd)) (xb + ((nI J) * xd)) 0 0)) 66 (110 + ((6 * J) + K)) (sm_last w (w 7 5) (xa + ((nI K) * xd)) (xb + ((nI J) * xd)) 0 0 4) = mz_set (mz_set (mz_set (mz_set m 66 ((mz_up (mz_up (mz_set (mz_set (mz_set (mz_set (mz_set (mz_set (mz_set m 66 s) 65 r) 70 a) 71 b) 65 re1) 70 fe1) 71 ge1) 66 (70 + ((6 * J) + K)) (sm_end w (w 7 5) (xa + ((nI K) * xd)) (xb + ((nI J) * xd)) 0 0)) 66 (110 + ((6 * J) + K)) (sm_last w (w 7 5) (xa + ((nI K) * xd)) (xb + ((nI J) * xd)) 0 0 4)) 66)) 65 ((mz_up (mz_up (mz_set (mz_set (mz_set (mz_set (mz_set (mz_set (mz_set m 66 s) 65 r) 70 a) 71 b) 65 re1) 70 fe1) 71 ge1) 66 (70 + ((6 * J) + K)) (sm_end w (w 7 5) (xa + ((nI K) * xd)) (xb + ((nI J) * xd)) 0 0)) 66 (110 + ((6 * J) + K)) (sm_last w (w 7 5) (xa + ((nI K) * xd)) (xb + ((nI J) * xd)) 0 0 4)) 65)) 70 ((mz_up (mz_up (mz_set (mz_set (mz_set (mz_set (mz_set (mz_set (mz_set m 66 s) 65 r) 70 a) 71 b) 65 re1) 70 fe1) 71 ge1) 66 (70 + ((6 * J) + K)) (sm_end w (w 7 5) (xa + ((nI K) * xd)) (xb + ((nI J) * xd)) 0 0)) 66 (110 + ((6 * J) + K)) (sm_last w (w 7 5) (xa + ((nI K) * xd)) (xb + ((nI J) * xd)) 0 0 4)) 70)) 71 ((mz_up (mz_up (mz_set (mz_set (mz_set (mz_set (mz_set (mz_set (mz_set m 66 s) 65 r) 70 a) 71 b) 65 re1) 70 fe1) 71 ge1) 66 (70 + ((6 * J) + K)) (sm_end w (w 7 5) (xa + ((nI K) * xd)) (xb + ((nI J) * xd)) 0 0)) 66 (110 + ((6 * J) + K)) (sm_last w (w 7 5) (xa + ((nI K) * xd)) (xb + ((nI J) * xd)) 0 0 4)) 71) := sm_of4 (fun i h1 h2 h3 h4 => by simp only [mz_set_ne h1, mz_set_ne h2, mz_set_ne h3, mz_set_ne h4, mz_up_ne h1])
    obtain ⟨s', r', a', b', o', h1, h2, E⟩ := ih (K + 1) (by omega) ((mz_up (mz_up (mz_set (mz_set (mz_set (mz_set (mz_set (mz_set (mz_set m 66 s) 65 r) 70 a) 71 b) 65 re1) 70 fe1) 71 ge1) 66 (70 + ((6 * J) + K)) (sm_end w (w 7 5) (xa + ((nI K) * xd)) (xb + ((nI J) * xd)) 0 0)) 66 (110 + ((6 * J) + K)) (sm_last w (w 7 5) (xa + ((nI K) * xd)) (xb + ((nI J) * xd)) 0 0 4)) 66) ((mz_up (mz_up (mz_set (mz_set (mz_set (mz_set (mz_set (mz_set (mz_set m 66 s) 65 r) 70 a) 71 b) 65 re1) 70 fe1) 71 ge1) 66 (70 + ((6 * J) + K)) (sm_end w (w 7 5) (xa + ((nI K) * xd)) (xb + ((nI J) * xd)) 0 0)) 66 (110 + ((6 * J) + K)) (sm_last w (w 7 5) (xa + ((nI K) * xd)) (xb + ((nI J) * xd)) 0 0 4)) 65) ((mz_up (mz_up (mz_set (mz_set (mz_set (mz_set (mz_set (mz_set (mz_set m 66 s) 65 r) 70 a) 71 b) 65 re1) 70 fe1) 71 ge1) 66 (70 + ((6 * J) + K)) (sm_end w (w 7 5) (xa + ((nI K) * xd)) (xb + ((nI J) * xd)) 0 0)) 66 (110 + ((6 * J) + K)) (sm_last w (w 7 5) (xa + ((nI K) * xd)) (xb + ((nI J) * xd)) 0 0 4)) 70) ((mz_up (mz_up (mz_set (mz_set (mz_set (mz_set (mz_set (mz_set (mz_set m 66 s) 65 r) 70 a) 71 b) 65 re1) 70 fe1) 71 ge1) 66 (70 + ((6 * J) + K)) (sm_end w (w 7 5) (xa + ((nI K) * xd)) (xb + ((nI J) * xd)) 0 0)) 66 (110 + ((6 * J) + K)) (sm_last w (w 7 5) (xa + ((nI K) * xd)) (xb + ((nI J) * xd)) 0 0 4)) 71) (some (.int ((6 * (nI J)) + (nI K)))) (sm_ps_step hW (by omega) (by omega) hs e66) (fun k hk => (ke1 k hk).trans (hkr k hk))
    refine ⟨s', r', a', b', o', h1, h2, fun res hr0 => ?_⟩
    have hr := E res hr0
    rw [← hm, show J * W + (K + 1) = (J * W + K) + 1 from rfl, nI_succ (J * W + K)] at hr
    refine mz_go 5 (c' := (if ((nI W) * (nI H)) ≤ (nI (J * W + K)) then 225 else 151, [some (.ref 65), some (.int xa), some (.int xb), some (.int xc), some (.int xd), some (.int (nI W)), some (.int (nI H)), some (.int l7), some (.int (nI (J * W + K))), o], [], mz_set (mz_set (mz_set (mz_set m 66 s) 65 r) 70 a) 71 b)) rfl ?_
    refine mz_ifF hlt ?_
    refine mz_go 3 (c' := (157, [some (.ref 65), some (.int xa), some (.int xb), some (.int xc), some (.int xd), some (.int (nI W)), some (.int (nI H)), some (.int l7), some (.int (nI (J * W + K))), o], [.int (nI W), .int (nI (J * W + K)), .int 6], mz_set (mz_set (mz_set (mz_set m 66 s) 65 r) 70 a) 71 b)) rfl ?_
    refine mz_div (c' := (158, [some (.ref 65), some (.int xa), some (.int xb), some (.int xc), some (.int xd), some (.int (nI W)), some (.int (nI H)), some (.int l7), some (.int (nI (J * W + K))), o], [.int ((nI (J * W + K)) / (nI W)), .int 6], mz_set (mz_set (mz_set (mz_set m 66 s) 65 r) 70 a) 71 b)) rfl (sm_nz (k := W) (by omega)) ?_
    rw [hdv]
    refine mz_go 3 (c' := (163, [some (.ref 65), some (.int xa), some (.int xb), some (.int xc), some (.int xd), some (.int (nI W)), some (.int (nI H)), some (.int l7), some (.int (nI (J * W + K))), o], [.int (nI W), .int (nI (J * W + K)), .int (6 * (nI J))], mz_set (mz_set (mz_set (mz_set m 66 s) 65 r) 70 a) 71 b)) rfl ?_
    refine mz_div (c' := (164, [some (.ref 65), some (.int xa), some (.int xb), some (.int xc), some (.int xd), some (.int (nI W)), some (.int (nI H)), some (.int l7), some (.int (nI (J * W + K))), o], [.int ((nI (J * W + K)) - (nI (J * W + K)) / (nI W) * (nI W)), .int (6 * (nI J))], mz_set (mz_set (mz_set (mz_set m 66 s) 65 r) 70 a) 71 b)) rfl (sm_nz (k := W) (by omega)) ?_
    rw [hmd]
    refine mz_go 11 (c' := (182, [some (.ref 65), some (.int xa), some (.int xb), some (.int xc), some (.int xd), some (.int (nI W)), some (.int (nI H)), some (.int l7), some (.int (nI (J * W + K))), some (.int ((6 * (nI J)) + (nI K)))], [.int (nI W), .int (nI (J * W + K)), .int xa, .ref 65, .int (70 + ((6 * (nI J)) + (nI K))), .ref 66], mz_set (mz_set (mz_set (mz_set m 66 s) 65 r) 70 a) 71 b)) rfl ?_
    refine mz_div (c' := (183, [some (.ref 65), some (.int xa), some (.int xb), some (.int xc), some (.int xd), some (.int (nI W)), some (.int (nI H)), some (.int l7), some (.int (nI (J * W + K))), some (.int ((6 * (nI J)) + (nI K)))], [.int ((nI (J * W + K)) - (nI (J * W + K)) / (nI W) * (nI W)), .int xa, .ref 65, .int (70 + ((6 * (nI J)) + (nI K))), .ref 66], mz_set (mz_set (mz_set (mz_set m 66 s) 65 r) 70 a) 71 b)) rfl (sm_nz (k := W) (by omega)) ?_
    rw [hmd]
    refine mz_go 6 (c' := (192, [some (.ref 65), some (.int xa), some (.int xb), some (.int xc), some (.int xd), some (.int (nI W)), some (.int (nI H)), some (.int l7), some (.int (nI (J * W + K))), some (.int ((6 * (nI J)) + (nI K)))], [.int (nI W), .int (nI (J * W + K)), .int xb, .int (xa + ((nI K) * xd)), .ref 65, .int (70 + ((6 * (nI J)) + (nI K))), .ref 66], mz_set (mz_set (mz_set (mz_set m 66 s) 65 r) 70 a) 71 b)) rfl ?_
    refine mz_div (c' := (193, [some (.ref 65), some (.int xa), some (.int xb), some (.int xc), some (.int xd), some (.int (nI W)), some (.int (nI H)), some (.int l7), some (.int (nI (J * W + K))), some (.int ((6 * (nI J)) + (nI K)))], [.int ((nI (J * W + K)) / (nI W)), .int xb, .int (xa + ((nI K) * xd)), .ref 65, .int (70 + ((6 * (nI J)) + (nI K))), .ref 66], mz_set (mz_set (mz_set (mz_set m 66 s) 65 r) 70 a) 71 b)) rfl (sm_nz (k := W) (by omega)) ?_
    rw [hdv]
    refine mz_go 4 (c' := (198, [some (.ref 65), some (.int xa), some (.int xb), some (.int xc), some (.int xd), some (.int (nI W)), some (.int (nI H)), some (.int l7), some (.int (nI (J * W + K))), some (.int ((6 * (nI J)) + (nI K)))], [.ref 65, .int (xb + ((nI J) * xd)), .int (xa + ((nI K) * xd)), .ref 65, .int (70 + ((6 * (nI J)) + (nI K))), .ref 66], mz_set (mz_set (mz_set (mz_set m 66 s) 65 r) 70 a) 71 b)) rfl ?_
    refine mz_do (R := mz_r156) (as := [.ref 65]) (rest := [.int (xb + ((nI J) * xd)), .int (xa + ((nI K) * xd)), .ref 65, .int (70 + ((6 * (nI J)) + (nI K))), .ref 66]) (r1 := some (.int (w 7 5))) (m1 := mz_set (mz_set (mz_set (mz_set m 66 s) 65 r) 70 a) 71 b) rfl ⟨?_, rfl⟩ ?_
    · refine mz_go 4 (c' := (7, [some (.ref 65)], [.int (s 15)], mz_set (mz_set (mz_set (mz_set m 66 s) 65 r) 70 a) 71 b)) rfl ?_
      rw [h75]
      exact mz_ret rfl
    refine mz_do (R := mz_r155) (as := [.ref 65, .int (xa + ((nI K) * xd)), .int (xb + ((nI J) * xd)), .int (w 7 5)]) (rest := [.int (70 + ((6 * (nI J)) + (nI K))), .ref 66]) (r1 := some (.int (sm_end w (w 7 5) (xa + ((nI K) * xd)) (xb + ((nI J) * xd)) 0 0))) (m1 := mz_set (mz_set (mz_set (mz_set (mz_set (mz_set (mz_set m 66 s) 65 r) 70 a) 71 b) 65 re1) 70 fe1) 71 ge1) rfl (Ee1.deep (by decide)) ?_
    refine mz_arr (c' := (205, [some (.ref 65), some (.int xa), some (.int xb), some (.int xc), some (.int xd), some (.int (nI W)), some (.int (nI H)), some (.int l7), some (.int (nI (J * W + K))), some (.int ((6 * (nI J)) + (nI K)))], [], mz_up (mz_set (mz_set (mz_set (mz_set (mz_set (mz_set (mz_set m 66 s) 65 r) 70 a) 71 b) 65 re1) 70 fe1) 71 ge1) 66 ((70 + ((6 * (nI J)) + (nI K))).toNatClampNeg) (sm_end w (w 7 5) (xa + ((nI K) * xd)) (xb + ((nI J) * xd)) 0 0))) rfl (show mz_in (70 + ((6 * (nI J)) + (nI K))) 650 = true from sm_inN (sm_addN rfl (sm_addN (sm_mulN rfl rfl) rfl)) (show (70 + ((6 * J) + K)) < 650 by omega) (by decide)) ?_
    rw [show (70 + ((6 * (nI J)) + (nI K)) : Int32).toNatClampNeg = (70 + ((6 * J) + K)) from sm_clN (sm_addN rfl (sm_addN (sm_mulN rfl rfl) rfl)) (show (70 + ((6 * J) + K)) < 2 ^ 31 by omega)]
    refine mz_go 7 (c' := (218, [some (.ref 65), some (.int xa), some (.int xb), some (.int xc), some (.int xd), some (.int (nI W)), some (.int (nI H)), some (.int l7), some (.int (nI (J * W + K))), some (.int ((6 * (nI J)) + (nI K)))], [.int (re1 8), .int (110 + ((6 * (nI J)) + (nI K))), .ref 66], mz_up (mz_set (mz_set (mz_set (mz_set (mz_set (mz_set (mz_set m 66 s) 65 r) 70 a) 71 b) 65 re1) 70 fe1) 71 ge1) 66 (70 + ((6 * J) + K)) (sm_end w (w 7 5) (xa + ((nI K) * xd)) (xb + ((nI J) * xd)) 0 0))) rfl ?_
    rw [show re1 8 = sm_last w (w 7 5) (xa + ((nI K) * xd)) (xb + ((nI J) * xd)) 0 0 4 from le1.2.2.2.2]
    refine mz_arr (c' := (219, [some (.ref 65), some (.int xa), some (.int xb), some (.int xc), some (.int xd), some (.int (nI W)), some (.int (nI H)), some (.int l7), some (.int (nI (J * W + K))), some (.int ((6 * (nI J)) + (nI K)))], [], mz_up (mz_up (mz_set (mz_set (mz_set (mz_set (mz_set (mz_set (mz_set m 66 s) 65 r) 70 a) 71 b) 65 re1) 70 fe1) 71 ge1) 66 (70 + ((6 * J) + K)) (sm_end w (w 7 5) (xa + ((nI K) * xd)) (xb + ((nI J) * xd)) 0 0)) 66 ((110 + ((6 * (nI J)) + (nI K))).toNatClampNeg) (sm_last w (w 7 5) (xa + ((nI K) * xd)) (xb + ((nI J) * xd)) 0 0 4))) rfl (show mz_in (110 + ((6 * (nI J)) + (nI K))) 650 = true from sm_inN (sm_addN rfl (sm_addN (sm_mulN rfl rfl) rfl)) (show (110 + ((6 * J) + K)) < 650 by omega) (by decide)) ?_
    rw [show (110 + ((6 * (nI J)) + (nI K)) : Int32).toNatClampNeg = (110 + ((6 * J) + K)) from sm_clN (sm_addN rfl (sm_addN (sm_mulN rfl rfl) rfl)) (show (110 + ((6 * J) + K)) < 2 ^ 31 by omega)]
    refine mz_go 2 (c' := (141, [some (.ref 65), some (.int xa), some (.int xb), some (.int xc), some (.int xd), some (.int (nI W)), some (.int (nI H)), some (.int l7), some (.int ((nI (J * W + K)) + 1)), some (.int ((6 * (nI J)) + (nI K)))], [], mz_up (mz_up (mz_set (mz_set (mz_set (mz_set (mz_set (mz_set (mz_set m 66 s) 65 r) 70 a) 71 b) 65 re1) 70 fe1) 71 ge1) 66 (70 + ((6 * J) + K)) (sm_end w (w 7 5) (xa + ((nI K) * xd)) (xb + ((nI J) * xd)) 0 0)) 66 (110 + ((6 * J) + K)) (sm_last w (w 7 5) (xa + ((nI K) * xd)) (xb + ((nI J) * xd)) 0 0 4))) rfl ?_
    exact hr
set_option maxHeartbeats 4000000 in
set_option maxRecDepth 100000 in
theorem ct_picj {m w : mz_M} {N : Nat} (hw : sm_W w N) (hr2 : sm_HR w (m 66)) (h6615 : m 66 15 = w 7 5) (hr5 : w 7 5 = 1 ∨ w 7 5 = 2) (hr80 : sm_N 80 (w 7 2)) {W H : Nat} (hW : W ≤ 6) (hH : H ≤ 6) {xa xb xc xd : Int32} (hbx : ∀ k, k < W → sm_B 100 (xa + nI k * xd)) (hby : ∀ k, k < H → sm_B 100 (xb + nI k * xd)) (l7 : Int32) : ∀ j J : Nat, J + j = H → ∀ (s r a b : Nat → Int32) (o : Option Value), sm_ps W J 0 (fun i j => sm_end w (w 7 5) (xa + nI i * xd) (xb + nI j * xd) 0 0) (fun i j => sm_last w (w 7 5) (xa + nI i * xd) (xb + nI j * xd) 0 0 4) (m 66) s → (∀ k, k < 4 ∨ 8 < k → r k = m 65 k) → ∃ (s' r' a' b' : Nat → Int32) (o' : Option Value), sm_ps W H 0 (fun i j => sm_end w (w 7 5) (xa + nI i * xd) (xb + nI j * xd) 0 0) (fun i j => sm_last w (w 7 5) (xa + nI i * xd) (xb + nI j * xd) 0 0 4) (m 66) s' ∧ (∀ k, k < 4 ∨ 8 < k → r' k = m 65 k) ∧ ∀ res, mz_Ex 100 mz_k190 (225, [some (.ref 65), some (.int xa), some (.int xb), some (.int xc), some (.int xd), some (.int (nI W)), some (.int (nI H)), some (.int l7), some (.int (nI (H * W + 0))), o'], [], mz_set (mz_set (mz_set (mz_set m 66 s') 65 r') 70 a') 71 b') res → mz_Ex 100 mz_k190 (141, [some (.ref 65), some (.int xa), some (.int xb), some (.int xc), some (.int xd), some (.int (nI W)), some (.int (nI H)), some (.int l7), some (.int (nI (J * W + 0))), o], [], mz_set (mz_set (mz_set (mz_set m 66 s) 65 r) 70 a) 71 b) res := by
  intro j
  induction j with
  | zero =>
    intro J hk s r a b o hs hkr
    rw [show J = H by omega] at hs ⊢
    have h37 : W * H ≤ 6 * 6 := Nat.mul_le_mul hW hH
    have hle : ((nI W) * (nI H)) ≤ (nI (H * W + 0)) := by
      rw [sm_mulN (a := W) (b := H) rfl rfl, Nat.add_zero, Nat.mul_comm H W]
      exact Int32.le_refl _
    exact ⟨s, r, a, b, o, hs, hkr, fun res hr => by
      refine mz_go 5 (c' := (if ((nI W) * (nI H)) ≤ (nI (H * W + 0)) then 225 else 151, [some (.ref 65), some (.int xa), some (.int xb), some (.int xc), some (.int xd), some (.int (nI W)), some (.int (nI H)), some (.int l7), some (.int (nI (H * W + 0))), o], [], mz_set (mz_set (mz_set (mz_set m 66 s) 65 r) 70 a) 71 b)) rfl ?_
      refine mz_ifT hle ?_
      exact hr⟩
  | succ j ih =>
    intro J hk s r a b o hs hkr
    obtain ⟨s1, r1, a1, b1, o1, h1, h2, E1⟩ := ct_pici hw hr2 h6615 hr5 hr80 hW hH (xc := xc) hbx hby l7 (J := J) (by omega) W 0 (by omega) s r a b o hs hkr
    obtain ⟨s', r', a', b', o', h3, h4, E⟩ := ih (J + 1) (by omega) s1 r1 a1 b1 o1 (sm_ps_row h1) h2
    rw [Nat.add_mul, Nat.one_mul, Nat.add_zero] at E
    exact ⟨s', r', a', b', o', h3, h4, fun res hr => E1 res (E res hr)⟩
set_option maxHeartbeats 4000000 in
set_option maxRecDepth 100000 in
theorem sc_picture {n : Nat} (hn : n < 64) {w : mz_M} (hI : sm_I n w) (xa : Int32) (xb : Int32) (xc : Int32) (xd : Int32) : ∃ v1 v2 m1 m2, mz_Me 100 mz_r85 [.ref 0, .int xa, .int xb, .int xc, .int xd] w (some (.int v1)) m1 ∧ mz_Me 100 mz_r190 [.ref 65, .int xa, .int xb, .int xc, .int xd] m1 (some (.int v2)) m2 ∧ sm_I (n + 1) m2 ∧ v1 = v2 := by
  have hI2 := hI
  obtain ⟨hn0, ⟨-, ⟨hr80, hr5, hrr⟩, ⟨⟨TT, hTT, h81, h661⟩, htp⟩, ⟨⟨T0, hT0, hU0, hV0, -⟩, ⟨T1, hT1, hU1, hV1, -⟩, ⟨T2, hT2, hU2, hV2, -⟩⟩, ⟨hbx, hby, hbl⟩, ⟨⟨WW, HH, hWW, hHH, hWH, h202, h203, h6660, h6661⟩, h6662, h6663, h6664, hpc⟩, ⟨hth, h66160, hthr⟩, ⟨⟨AA, hAA, h111, h662⟩, h663, hwt⟩⟩, ⟨hsh, hsn⟩, ⟨hcb1, hcb2⟩, ⟨JJ, hJJ, h07, h652, hkept⟩⟩ := hI
  obtain ⟨N, hw, hr2, h660, -, -, h6615⟩ := sm_world hI2
  have hw2 := hw
  obtain ⟨hN, h4, hpb, -, -⟩ := hw2
  have hT60a := sm_T60 hV0
  have hT60b := sm_T60 hV1
  have hT60c := sm_T60 hV2
  obtain ⟨B1, hB1, e571⟩ := sm_Nof (by decide) hcb1
  obtain ⟨B2, hB2, e6519⟩ := sm_Nof (by decide) hcb2
  refine mz_two (fun _ => rfl) (fun _ => rfl) ?_
  refine mz_goP 10 (c' := (14, [some (.ref 0), some (.int xa), some (.int xb), some (.int xc), some (.int xd), some (.int (xc / 10)), some (.int (xc - xc / 10 * 10)), none, none, none, none], [.int xb, .int xa], w)) rfl ?_
  by_cases q1 : (sm_bI (sm_plc xa xb)) = 0
  · refine mz_doP (R := mz_r116) (as := [.int xa, .int xb]) (rest := []) (r1 := some (.int (sm_bI (sm_plc xa xb)))) (m1 := w) rfl ((cs_plc (m := w) xa xb).deep (by decide)) ?_
    refine mz_goP 1 (c' := (if (sm_bI (sm_plc xa xb)) = 0 then 77 else 20, [some (.ref 0), some (.int xa), some (.int xb), some (.int xc), some (.int xd), some (.int (xc / 10)), some (.int (xc - xc / 10 * 10)), none, none, none, none], [], w)) rfl ?_
    refine mz_ifTP q1 ?_
    refine mz_goP 2 (c' := (79, [some (.ref 0), some (.int xa), some (.int xb), some (.int xc), some (.int xd), some (.int (xc / 10)), some (.int (xc - xc / 10 * 10)), none, none, none, none], [.int 1, .ref 0], w)) rfl ?_
    refine mz_doP (R := mz_r109) (as := [.ref 0, .int 1]) (rest := []) (r1 := some (.int (-1000001))) (m1 := mz_up w 64 1 ((w 64 1) + 1)) rfl ((cs_err1 (m := w)).deep (by decide)) ?_
    refine mz_retP (r := (some (.int ((-1000001))), mz_up w 64 1 ((w 64 1) + 1))) rfl ⟨(-1000001), rfl, ?_⟩
    refine mz_goP 10 (c' := (14, [some (.ref 65), some (.int xa), some (.int xb), some (.int xc), some (.int xd), some (.int (xc / 10)), some (.int (xc - xc / 10 * 10)), none, none, none], [.int xb, .int xa], mz_up w 64 1 ((w 64 1) + 1))) rfl ?_
    refine mz_doP (R := mz_r131) (as := [.int xa, .int xb]) (rest := []) (r1 := some (.int (sm_bI (sm_plc xa xb)))) (m1 := mz_up w 64 1 ((w 64 1) + 1)) rfl ((ct_plc (m := mz_up w 64 1 ((w 64 1) + 1)) xa xb).deep (by decide)) ?_
    refine mz_goP 1 (c' := (if (sm_bI (sm_plc xa xb)) = 0 then 57 else 20, [some (.ref 65), some (.int xa), some (.int xb), some (.int xc), some (.int xd), some (.int (xc / 10)), some (.int (xc - xc / 10 * 10)), none, none, none], [], mz_up w 64 1 ((w 64 1) + 1))) rfl ?_
    refine mz_ifTP q1 ?_
    refine mz_goP 6 (c' := (91, [some (.ref 65), some (.int xa), some (.int xb), some (.int xc), some (.int xd), some (.int (xc / 10)), some (.int (xc - xc / 10 * 10)), some (.int 0), none, none], [.int 1, .ref 65], mz_up w 64 1 ((w 64 1) + 1))) rfl ?_
    refine mz_doP (R := mz_r127) (as := [.ref 65, .int 1]) (rest := []) (r1 := some (.int (-1000001))) (m1 := mz_up (mz_up w 64 1 ((w 64 1) + 1)) 68 1 ((w 68 1) + 1)) rfl ((ct_err1 (m := mz_up w 64 1 ((w 64 1) + 1))).deep (by decide)) ?_
    refine mz_retP (r := (some (.int ((-1000001))), mz_up (mz_up w 64 1 ((w 64 1) + 1)) 68 1 ((w 68 1) + 1))) rfl ⟨(-1000001), rfl, ?_, rfl⟩
    show sm_I (n + 1) (mz_up (mz_up w 64 1 ((w 64 1) + 1)) 68 1 ((w 68 1) + 1))
    exact sm_I_scr hn hI2 (fun i hi => by
      have hne : ∀ r, sm_scr r = true → i ≠ r := fun r hr e => by
        rw [e, hr] at hi
        cases hi
      simp only [mz_up_ne (hne 64 rfl), mz_up_ne (hne 68 rfl)]) rfl rfl
  · refine mz_doP (R := mz_r116) (as := [.int xa, .int xb]) (rest := []) (r1 := some (.int 1)) (m1 := w) rfl ⟨?_, rfl⟩ ?_
    · refine mz_go 3 (c' := (5, [some (.int xa), some (.int xb)], [.int 100, .int (-100), .int xa], w)) rfl ?_
      refine mz_do (R := mz_r121) (as := [.int xa, .int (-100), .int 100]) (rest := []) (r1 := some (.int 1)) (m1 := w) rfl ((cs_in1 (m := w) (v := xa) (a := (-100)) (b := 100) (show ¬ (xa < (-100)) from (sm_plc_of q1).1.1) (show ¬ (100 < xa) from (sm_plc_of q1).1.2)).deep (by decide)) ?_
      refine mz_go 4 (c' := (16, [some (.int xa), some (.int xb)], [.int 100, .int (-100), .int xb], w)) rfl ?_
      refine mz_do (R := mz_r121) (as := [.int xb, .int (-100), .int 100]) (rest := []) (r1 := some (.int 1)) (m1 := w) rfl ((cs_in1 (m := w) (v := xb) (a := (-100)) (b := 100) (show ¬ (xb < (-100)) from (sm_plc_of q1).2.1) (show ¬ (100 < xb) from (sm_plc_of q1).2.2)).deep (by decide)) ?_
      refine mz_go 3 (c' := (27, [some (.int xa), some (.int xb)], [.int 1], w)) rfl ?_
      exact mz_ret rfl
    refine mz_goP 4 (c' := (25, [some (.ref 0), some (.int xa), some (.int xb), some (.int xc), some (.int xd), some (.int (xc / 10)), some (.int (xc - xc / 10 * 10)), none, none, none, none], [.int 40, .int 1, .int xd], w)) rfl ?_
    by_cases q2 : (sm_bI (sm_in xd 1 40)) = 0
    · refine mz_doP (R := mz_r121) (as := [.int xd, .int 1, .int 40]) (rest := []) (r1 := some (.int (sm_bI (sm_in xd 1 40)))) (m1 := w) rfl ((cs_in (m := w) xd 1 40).deep (by decide)) ?_
      refine mz_goP 1 (c' := (if (sm_bI (sm_in xd 1 40)) = 0 then 77 else 31, [some (.ref 0), some (.int xa), some (.int xb), some (.int xc), some (.int xd), some (.int (xc / 10)), some (.int (xc - xc / 10 * 10)), none, none, none, none], [], w)) rfl ?_
      refine mz_ifTP q2 ?_
      refine mz_goP 2 (c' := (79, [some (.ref 0), some (.int xa), some (.int xb), some (.int xc), some (.int xd), some (.int (xc / 10)), some (.int (xc - xc / 10 * 10)), none, none, none, none], [.int 1, .ref 0], w)) rfl ?_
      refine mz_doP (R := mz_r109) (as := [.ref 0, .int 1]) (rest := []) (r1 := some (.int (-1000001))) (m1 := mz_up w 64 1 ((w 64 1) + 1)) rfl ((cs_err1 (m := w)).deep (by decide)) ?_
      refine mz_retP (r := (some (.int ((-1000001))), mz_up w 64 1 ((w 64 1) + 1))) rfl ⟨(-1000001), rfl, ?_⟩
      refine mz_goP 10 (c' := (14, [some (.ref 65), some (.int xa), some (.int xb), some (.int xc), some (.int xd), some (.int (xc / 10)), some (.int (xc - xc / 10 * 10)), none, none, none], [.int xb, .int xa], mz_up w 64 1 ((w 64 1) + 1))) rfl ?_
      refine mz_doP (R := mz_r131) (as := [.int xa, .int xb]) (rest := []) (r1 := some (.int 1)) (m1 := mz_up w 64 1 ((w 64 1) + 1)) rfl ⟨?_, rfl⟩ ?_
      · refine mz_go 3 (c' := (5, [some (.int xa), some (.int xb)], [.int 100, .int (-100), .int xa], mz_up w 64 1 ((w 64 1) + 1))) rfl ?_
        refine mz_do (R := mz_r128) (as := [.int xa, .int (-100), .int 100]) (rest := []) (r1 := some (.int 1)) (m1 := mz_up w 64 1 ((w 64 1) + 1)) rfl ((ct_in1 (m := mz_up w 64 1 ((w 64 1) + 1)) (v := xa) (a := (-100)) (b := 100) (show ¬ (xa < (-100)) from (sm_plc_of q1).1.1) (show ¬ (100 < xa) from (sm_plc_of q1).1.2)).deep (by decide)) ?_
        refine mz_go 4 (c' := (16, [some (.int xa), some (.int xb)], [.int 100, .int (-100), .int xb], mz_up w 64 1 ((w 64 1) + 1))) rfl ?_
        refine mz_do (R := mz_r128) (as := [.int xb, .int (-100), .int 100]) (rest := []) (r1 := some (.int 1)) (m1 := mz_up w 64 1 ((w 64 1) + 1)) rfl ((ct_in1 (m := mz_up w 64 1 ((w 64 1) + 1)) (v := xb) (a := (-100)) (b := 100) (show ¬ (xb < (-100)) from (sm_plc_of q1).2.1) (show ¬ (100 < xb) from (sm_plc_of q1).2.2)).deep (by decide)) ?_
        refine mz_go 3 (c' := (27, [some (.int xa), some (.int xb)], [.int 1], mz_up w 64 1 ((w 64 1) + 1))) rfl ?_
        exact mz_ret rfl
      refine mz_goP 4 (c' := (25, [some (.ref 65), some (.int xa), some (.int xb), some (.int xc), some (.int xd), some (.int (xc / 10)), some (.int (xc - xc / 10 * 10)), none, none, none], [.int 6, .int 1, .int (xc / 10)], mz_up w 64 1 ((w 64 1) + 1))) rfl ?_
      by_cases q3 : (xc / 10) < 1
      · refine mz_doP (R := mz_r128) (as := [.int (xc / 10), .int 1, .int 6]) (rest := []) (r1 := some (.int 0)) (m1 := mz_up w 64 1 ((w 64 1) + 1)) rfl ((ct_inL (m := mz_up w 64 1 ((w 64 1) + 1)) (v := xc / 10) (a := 1) (b := 6) q3).deep (by decide)) ?_
        refine mz_goP 7 (c' := (91, [some (.ref 65), some (.int xa), some (.int xb), some (.int xc), some (.int xd), some (.int (xc / 10)), some (.int (xc - xc / 10 * 10)), some (.int 0), none, none], [.int 1, .ref 65], mz_up w 64 1 ((w 64 1) + 1))) rfl ?_
        refine mz_doP (R := mz_r127) (as := [.ref 65, .int 1]) (rest := []) (r1 := some (.int (-1000001))) (m1 := mz_up (mz_up w 64 1 ((w 64 1) + 1)) 68 1 ((w 68 1) + 1)) rfl ((ct_err1 (m := mz_up w 64 1 ((w 64 1) + 1))).deep (by decide)) ?_
        refine mz_retP (r := (some (.int ((-1000001))), mz_up (mz_up w 64 1 ((w 64 1) + 1)) 68 1 ((w 68 1) + 1))) rfl ⟨(-1000001), rfl, ?_, rfl⟩
        show sm_I (n + 1) (mz_up (mz_up w 64 1 ((w 64 1) + 1)) 68 1 ((w 68 1) + 1))
        exact sm_I_scr hn hI2 (fun i hi => by
          have hne : ∀ r, sm_scr r = true → i ≠ r := fun r hr e => by
            rw [e, hr] at hi
            cases hi
          simp only [mz_up_ne (hne 64 rfl), mz_up_ne (hne 68 rfl)]) rfl rfl
      · by_cases q4 : 6 < (xc / 10)
        · refine mz_doP (R := mz_r128) (as := [.int (xc / 10), .int 1, .int 6]) (rest := []) (r1 := some (.int 0)) (m1 := mz_up w 64 1 ((w 64 1) + 1)) rfl ((ct_inG (m := mz_up w 64 1 ((w 64 1) + 1)) (v := xc / 10) (a := 1) (b := 6) q3 q4).deep (by decide)) ?_
          refine mz_goP 7 (c' := (91, [some (.ref 65), some (.int xa), some (.int xb), some (.int xc), some (.int xd), some (.int (xc / 10)), some (.int (xc - xc / 10 * 10)), some (.int 0), none, none], [.int 1, .ref 65], mz_up w 64 1 ((w 64 1) + 1))) rfl ?_
          refine mz_doP (R := mz_r127) (as := [.ref 65, .int 1]) (rest := []) (r1 := some (.int (-1000001))) (m1 := mz_up (mz_up w 64 1 ((w 64 1) + 1)) 68 1 ((w 68 1) + 1)) rfl ((ct_err1 (m := mz_up w 64 1 ((w 64 1) + 1))).deep (by decide)) ?_
          refine mz_retP (r := (some (.int ((-1000001))), mz_up (mz_up w 64 1 ((w 64 1) + 1)) 68 1 ((w 68 1) + 1))) rfl ⟨(-1000001), rfl, ?_, rfl⟩
          show sm_I (n + 1) (mz_up (mz_up w 64 1 ((w 64 1) + 1)) 68 1 ((w 68 1) + 1))
          exact sm_I_scr hn hI2 (fun i hi => by
            have hne : ∀ r, sm_scr r = true → i ≠ r := fun r hr e => by
              rw [e, hr] at hi
              cases hi
            simp only [mz_up_ne (hne 64 rfl), mz_up_ne (hne 68 rfl)]) rfl rfl
        · refine mz_doP (R := mz_r128) (as := [.int (xc / 10), .int 1, .int 6]) (rest := []) (r1 := some (.int 1)) (m1 := mz_up w 64 1 ((w 64 1) + 1)) rfl ((ct_in1 (m := mz_up w 64 1 ((w 64 1) + 1)) (v := xc / 10) (a := 1) (b := 6) q3 q4).deep (by decide)) ?_
          refine mz_goP 4 (c' := (36, [some (.ref 65), some (.int xa), some (.int xb), some (.int xc), some (.int xd), some (.int (xc / 10)), some (.int (xc - xc / 10 * 10)), none, none, none], [.int 6, .int 1, .int (xc - xc / 10 * 10)], mz_up w 64 1 ((w 64 1) + 1))) rfl ?_
          by_cases q5 : (xc - xc / 10 * 10) < 1
          · refine mz_doP (R := mz_r128) (as := [.int (xc - xc / 10 * 10), .int 1, .int 6]) (rest := []) (r1 := some (.int 0)) (m1 := mz_up w 64 1 ((w 64 1) + 1)) rfl ((ct_inL (m := mz_up w 64 1 ((w 64 1) + 1)) (v := xc - xc / 10 * 10) (a := 1) (b := 6) q5).deep (by decide)) ?_
            refine mz_goP 7 (c' := (91, [some (.ref 65), some (.int xa), some (.int xb), some (.int xc), some (.int xd), some (.int (xc / 10)), some (.int (xc - xc / 10 * 10)), some (.int 0), none, none], [.int 1, .ref 65], mz_up w 64 1 ((w 64 1) + 1))) rfl ?_
            refine mz_doP (R := mz_r127) (as := [.ref 65, .int 1]) (rest := []) (r1 := some (.int (-1000001))) (m1 := mz_up (mz_up w 64 1 ((w 64 1) + 1)) 68 1 ((w 68 1) + 1)) rfl ((ct_err1 (m := mz_up w 64 1 ((w 64 1) + 1))).deep (by decide)) ?_
            refine mz_retP (r := (some (.int ((-1000001))), mz_up (mz_up w 64 1 ((w 64 1) + 1)) 68 1 ((w 68 1) + 1))) rfl ⟨(-1000001), rfl, ?_, rfl⟩
            show sm_I (n + 1) (mz_up (mz_up w 64 1 ((w 64 1) + 1)) 68 1 ((w 68 1) + 1))
            exact sm_I_scr hn hI2 (fun i hi => by
              have hne : ∀ r, sm_scr r = true → i ≠ r := fun r hr e => by
                rw [e, hr] at hi
                cases hi
              simp only [mz_up_ne (hne 64 rfl), mz_up_ne (hne 68 rfl)]) rfl rfl
          · by_cases q6 : 6 < (xc - xc / 10 * 10)
            · refine mz_doP (R := mz_r128) (as := [.int (xc - xc / 10 * 10), .int 1, .int 6]) (rest := []) (r1 := some (.int 0)) (m1 := mz_up w 64 1 ((w 64 1) + 1)) rfl ((ct_inG (m := mz_up w 64 1 ((w 64 1) + 1)) (v := xc - xc / 10 * 10) (a := 1) (b := 6) q5 q6).deep (by decide)) ?_
              refine mz_goP 7 (c' := (91, [some (.ref 65), some (.int xa), some (.int xb), some (.int xc), some (.int xd), some (.int (xc / 10)), some (.int (xc - xc / 10 * 10)), some (.int 0), none, none], [.int 1, .ref 65], mz_up w 64 1 ((w 64 1) + 1))) rfl ?_
              refine mz_doP (R := mz_r127) (as := [.ref 65, .int 1]) (rest := []) (r1 := some (.int (-1000001))) (m1 := mz_up (mz_up w 64 1 ((w 64 1) + 1)) 68 1 ((w 68 1) + 1)) rfl ((ct_err1 (m := mz_up w 64 1 ((w 64 1) + 1))).deep (by decide)) ?_
              refine mz_retP (r := (some (.int ((-1000001))), mz_up (mz_up w 64 1 ((w 64 1) + 1)) 68 1 ((w 68 1) + 1))) rfl ⟨(-1000001), rfl, ?_, rfl⟩
              show sm_I (n + 1) (mz_up (mz_up w 64 1 ((w 64 1) + 1)) 68 1 ((w 68 1) + 1))
              exact sm_I_scr hn hI2 (fun i hi => by
                have hne : ∀ r, sm_scr r = true → i ≠ r := fun r hr e => by
                  rw [e, hr] at hi
                  cases hi
                simp only [mz_up_ne (hne 64 rfl), mz_up_ne (hne 68 rfl)]) rfl rfl
            · refine mz_doP (R := mz_r128) (as := [.int (xc - xc / 10 * 10), .int 1, .int 6]) (rest := []) (r1 := some (.int 1)) (m1 := mz_up w 64 1 ((w 64 1) + 1)) rfl ((ct_in1 (m := mz_up w 64 1 ((w 64 1) + 1)) (v := xc - xc / 10 * 10) (a := 1) (b := 6) q5 q6).deep (by decide)) ?_
              refine mz_goP 4 (c' := (47, [some (.ref 65), some (.int xa), some (.int xb), some (.int xc), some (.int xd), some (.int (xc / 10)), some (.int (xc - xc / 10 * 10)), none, none, none], [.int 40, .int 1, .int xd], mz_up w 64 1 ((w 64 1) + 1))) rfl ?_
              refine mz_doP (R := mz_r128) (as := [.int xd, .int 1, .int 40]) (rest := []) (r1 := some (.int (sm_bI (sm_in xd 1 40)))) (m1 := mz_up w 64 1 ((w 64 1) + 1)) rfl ((ct_in (m := mz_up w 64 1 ((w 64 1) + 1)) xd 1 40).deep (by decide)) ?_
              refine mz_goP 1 (c' := (if (sm_bI (sm_in xd 1 40)) = 0 then 57 else 53, [some (.ref 65), some (.int xa), some (.int xb), some (.int xc), some (.int xd), some (.int (xc / 10)), some (.int (xc - xc / 10 * 10)), none, none, none], [], mz_up w 64 1 ((w 64 1) + 1))) rfl ?_
              refine mz_ifTP q2 ?_
              refine mz_goP 6 (c' := (91, [some (.ref 65), some (.int xa), some (.int xb), some (.int xc), some (.int xd), some (.int (xc / 10)), some (.int (xc - xc / 10 * 10)), some (.int 0), none, none], [.int 1, .ref 65], mz_up w 64 1 ((w 64 1) + 1))) rfl ?_
              refine mz_doP (R := mz_r127) (as := [.ref 65, .int 1]) (rest := []) (r1 := some (.int (-1000001))) (m1 := mz_up (mz_up w 64 1 ((w 64 1) + 1)) 68 1 ((w 68 1) + 1)) rfl ((ct_err1 (m := mz_up w 64 1 ((w 64 1) + 1))).deep (by decide)) ?_
              refine mz_retP (r := (some (.int ((-1000001))), mz_up (mz_up w 64 1 ((w 64 1) + 1)) 68 1 ((w 68 1) + 1))) rfl ⟨(-1000001), rfl, ?_, rfl⟩
              show sm_I (n + 1) (mz_up (mz_up w 64 1 ((w 64 1) + 1)) 68 1 ((w 68 1) + 1))
              exact sm_I_scr hn hI2 (fun i hi => by
                have hne : ∀ r, sm_scr r = true → i ≠ r := fun r hr e => by
                  rw [e, hr] at hi
                  cases hi
                simp only [mz_up_ne (hne 64 rfl), mz_up_ne (hne 68 rfl)]) rfl rfl
    · refine mz_doP (R := mz_r121) (as := [.int xd, .int 1, .int 40]) (rest := []) (r1 := some (.int 1)) (m1 := w) rfl ((cs_in1 (m := w) (v := xd) (a := 1) (b := 40) (show ¬ (xd < 1) from (sm_in_lo q2)) (show ¬ (40 < xd) from (sm_in_hi q2))).deep (by decide)) ?_
      refine mz_goP 4 (c' := (36, [some (.ref 0), some (.int xa), some (.int xb), some (.int xc), some (.int xd), some (.int (xc / 10)), some (.int (xc - xc / 10 * 10)), none, none, none, none], [.int 6, .int 1, .int (xc / 10)], w)) rfl ?_
      by_cases q7 : (xc / 10) < 1
      · refine mz_doP (R := mz_r121) (as := [.int (xc / 10), .int 1, .int 6]) (rest := []) (r1 := some (.int 0)) (m1 := w) rfl ((cs_inL (m := w) (v := xc / 10) (a := 1) (b := 6) q7).deep (by decide)) ?_
        refine mz_goP 3 (c' := (79, [some (.ref 0), some (.int xa), some (.int xb), some (.int xc), some (.int xd), some (.int (xc / 10)), some (.int (xc - xc / 10 * 10)), none, none, none, none], [.int 1, .ref 0], w)) rfl ?_
        refine mz_doP (R := mz_r109) (as := [.ref 0, .int 1]) (rest := []) (r1 := some (.int (-1000001))) (m1 := mz_up w 64 1 ((w 64 1) + 1)) rfl ((cs_err1 (m := w)).deep (by decide)) ?_
        refine mz_retP (r := (some (.int ((-1000001))), mz_up w 64 1 ((w 64 1) + 1))) rfl ⟨(-1000001), rfl, ?_⟩
        refine mz_goP 10 (c' := (14, [some (.ref 65), some (.int xa), some (.int xb), some (.int xc), some (.int xd), some (.int (xc / 10)), some (.int (xc - xc / 10 * 10)), none, none, none], [.int xb, .int xa], mz_up w 64 1 ((w 64 1) + 1))) rfl ?_
        refine mz_doP (R := mz_r131) (as := [.int xa, .int xb]) (rest := []) (r1 := some (.int 1)) (m1 := mz_up w 64 1 ((w 64 1) + 1)) rfl ⟨?_, rfl⟩ ?_
        · refine mz_go 3 (c' := (5, [some (.int xa), some (.int xb)], [.int 100, .int (-100), .int xa], mz_up w 64 1 ((w 64 1) + 1))) rfl ?_
          refine mz_do (R := mz_r128) (as := [.int xa, .int (-100), .int 100]) (rest := []) (r1 := some (.int 1)) (m1 := mz_up w 64 1 ((w 64 1) + 1)) rfl ((ct_in1 (m := mz_up w 64 1 ((w 64 1) + 1)) (v := xa) (a := (-100)) (b := 100) (show ¬ (xa < (-100)) from (sm_plc_of q1).1.1) (show ¬ (100 < xa) from (sm_plc_of q1).1.2)).deep (by decide)) ?_
          refine mz_go 4 (c' := (16, [some (.int xa), some (.int xb)], [.int 100, .int (-100), .int xb], mz_up w 64 1 ((w 64 1) + 1))) rfl ?_
          refine mz_do (R := mz_r128) (as := [.int xb, .int (-100), .int 100]) (rest := []) (r1 := some (.int 1)) (m1 := mz_up w 64 1 ((w 64 1) + 1)) rfl ((ct_in1 (m := mz_up w 64 1 ((w 64 1) + 1)) (v := xb) (a := (-100)) (b := 100) (show ¬ (xb < (-100)) from (sm_plc_of q1).2.1) (show ¬ (100 < xb) from (sm_plc_of q1).2.2)).deep (by decide)) ?_
          refine mz_go 3 (c' := (27, [some (.int xa), some (.int xb)], [.int 1], mz_up w 64 1 ((w 64 1) + 1))) rfl ?_
          exact mz_ret rfl
        refine mz_goP 4 (c' := (25, [some (.ref 65), some (.int xa), some (.int xb), some (.int xc), some (.int xd), some (.int (xc / 10)), some (.int (xc - xc / 10 * 10)), none, none, none], [.int 6, .int 1, .int (xc / 10)], mz_up w 64 1 ((w 64 1) + 1))) rfl ?_
        refine mz_doP (R := mz_r128) (as := [.int (xc / 10), .int 1, .int 6]) (rest := []) (r1 := some (.int 0)) (m1 := mz_up w 64 1 ((w 64 1) + 1)) rfl ((ct_inL (m := mz_up w 64 1 ((w 64 1) + 1)) (v := xc / 10) (a := 1) (b := 6) q7).deep (by decide)) ?_
        refine mz_goP 7 (c' := (91, [some (.ref 65), some (.int xa), some (.int xb), some (.int xc), some (.int xd), some (.int (xc / 10)), some (.int (xc - xc / 10 * 10)), some (.int 0), none, none], [.int 1, .ref 65], mz_up w 64 1 ((w 64 1) + 1))) rfl ?_
        refine mz_doP (R := mz_r127) (as := [.ref 65, .int 1]) (rest := []) (r1 := some (.int (-1000001))) (m1 := mz_up (mz_up w 64 1 ((w 64 1) + 1)) 68 1 ((w 68 1) + 1)) rfl ((ct_err1 (m := mz_up w 64 1 ((w 64 1) + 1))).deep (by decide)) ?_
        refine mz_retP (r := (some (.int ((-1000001))), mz_up (mz_up w 64 1 ((w 64 1) + 1)) 68 1 ((w 68 1) + 1))) rfl ⟨(-1000001), rfl, ?_, rfl⟩
        show sm_I (n + 1) (mz_up (mz_up w 64 1 ((w 64 1) + 1)) 68 1 ((w 68 1) + 1))
        exact sm_I_scr hn hI2 (fun i hi => by
          have hne : ∀ r, sm_scr r = true → i ≠ r := fun r hr e => by
            rw [e, hr] at hi
            cases hi
          simp only [mz_up_ne (hne 64 rfl), mz_up_ne (hne 68 rfl)]) rfl rfl
      · by_cases q8 : 6 < (xc / 10)
        · refine mz_doP (R := mz_r121) (as := [.int (xc / 10), .int 1, .int 6]) (rest := []) (r1 := some (.int 0)) (m1 := w) rfl ((cs_inG (m := w) (v := xc / 10) (a := 1) (b := 6) q7 q8).deep (by decide)) ?_
          refine mz_goP 3 (c' := (79, [some (.ref 0), some (.int xa), some (.int xb), some (.int xc), some (.int xd), some (.int (xc / 10)), some (.int (xc - xc / 10 * 10)), none, none, none, none], [.int 1, .ref 0], w)) rfl ?_
          refine mz_doP (R := mz_r109) (as := [.ref 0, .int 1]) (rest := []) (r1 := some (.int (-1000001))) (m1 := mz_up w 64 1 ((w 64 1) + 1)) rfl ((cs_err1 (m := w)).deep (by decide)) ?_
          refine mz_retP (r := (some (.int ((-1000001))), mz_up w 64 1 ((w 64 1) + 1))) rfl ⟨(-1000001), rfl, ?_⟩
          refine mz_goP 10 (c' := (14, [some (.ref 65), some (.int xa), some (.int xb), some (.int xc), some (.int xd), some (.int (xc / 10)), some (.int (xc - xc / 10 * 10)), none, none, none], [.int xb, .int xa], mz_up w 64 1 ((w 64 1) + 1))) rfl ?_
          refine mz_doP (R := mz_r131) (as := [.int xa, .int xb]) (rest := []) (r1 := some (.int 1)) (m1 := mz_up w 64 1 ((w 64 1) + 1)) rfl ⟨?_, rfl⟩ ?_
          · refine mz_go 3 (c' := (5, [some (.int xa), some (.int xb)], [.int 100, .int (-100), .int xa], mz_up w 64 1 ((w 64 1) + 1))) rfl ?_
            refine mz_do (R := mz_r128) (as := [.int xa, .int (-100), .int 100]) (rest := []) (r1 := some (.int 1)) (m1 := mz_up w 64 1 ((w 64 1) + 1)) rfl ((ct_in1 (m := mz_up w 64 1 ((w 64 1) + 1)) (v := xa) (a := (-100)) (b := 100) (show ¬ (xa < (-100)) from (sm_plc_of q1).1.1) (show ¬ (100 < xa) from (sm_plc_of q1).1.2)).deep (by decide)) ?_
            refine mz_go 4 (c' := (16, [some (.int xa), some (.int xb)], [.int 100, .int (-100), .int xb], mz_up w 64 1 ((w 64 1) + 1))) rfl ?_
            refine mz_do (R := mz_r128) (as := [.int xb, .int (-100), .int 100]) (rest := []) (r1 := some (.int 1)) (m1 := mz_up w 64 1 ((w 64 1) + 1)) rfl ((ct_in1 (m := mz_up w 64 1 ((w 64 1) + 1)) (v := xb) (a := (-100)) (b := 100) (show ¬ (xb < (-100)) from (sm_plc_of q1).2.1) (show ¬ (100 < xb) from (sm_plc_of q1).2.2)).deep (by decide)) ?_
            refine mz_go 3 (c' := (27, [some (.int xa), some (.int xb)], [.int 1], mz_up w 64 1 ((w 64 1) + 1))) rfl ?_
            exact mz_ret rfl
          refine mz_goP 4 (c' := (25, [some (.ref 65), some (.int xa), some (.int xb), some (.int xc), some (.int xd), some (.int (xc / 10)), some (.int (xc - xc / 10 * 10)), none, none, none], [.int 6, .int 1, .int (xc / 10)], mz_up w 64 1 ((w 64 1) + 1))) rfl ?_
          refine mz_doP (R := mz_r128) (as := [.int (xc / 10), .int 1, .int 6]) (rest := []) (r1 := some (.int 0)) (m1 := mz_up w 64 1 ((w 64 1) + 1)) rfl ((ct_inG (m := mz_up w 64 1 ((w 64 1) + 1)) (v := xc / 10) (a := 1) (b := 6) q7 q8).deep (by decide)) ?_
          refine mz_goP 7 (c' := (91, [some (.ref 65), some (.int xa), some (.int xb), some (.int xc), some (.int xd), some (.int (xc / 10)), some (.int (xc - xc / 10 * 10)), some (.int 0), none, none], [.int 1, .ref 65], mz_up w 64 1 ((w 64 1) + 1))) rfl ?_
          refine mz_doP (R := mz_r127) (as := [.ref 65, .int 1]) (rest := []) (r1 := some (.int (-1000001))) (m1 := mz_up (mz_up w 64 1 ((w 64 1) + 1)) 68 1 ((w 68 1) + 1)) rfl ((ct_err1 (m := mz_up w 64 1 ((w 64 1) + 1))).deep (by decide)) ?_
          refine mz_retP (r := (some (.int ((-1000001))), mz_up (mz_up w 64 1 ((w 64 1) + 1)) 68 1 ((w 68 1) + 1))) rfl ⟨(-1000001), rfl, ?_, rfl⟩
          show sm_I (n + 1) (mz_up (mz_up w 64 1 ((w 64 1) + 1)) 68 1 ((w 68 1) + 1))
          exact sm_I_scr hn hI2 (fun i hi => by
            have hne : ∀ r, sm_scr r = true → i ≠ r := fun r hr e => by
              rw [e, hr] at hi
              cases hi
            simp only [mz_up_ne (hne 64 rfl), mz_up_ne (hne 68 rfl)]) rfl rfl
        · refine mz_doP (R := mz_r121) (as := [.int (xc / 10), .int 1, .int 6]) (rest := []) (r1 := some (.int 1)) (m1 := w) rfl ((cs_in1 (m := w) (v := xc / 10) (a := 1) (b := 6) q7 q8).deep (by decide)) ?_
          refine mz_goP 4 (c' := (47, [some (.ref 0), some (.int xa), some (.int xb), some (.int xc), some (.int xd), some (.int (xc / 10)), some (.int (xc - xc / 10 * 10)), none, none, none, none], [.int 6, .int 1, .int (xc - xc / 10 * 10)], w)) rfl ?_
          by_cases q9 : (xc - xc / 10 * 10) < 1
          · refine mz_doP (R := mz_r121) (as := [.int (xc - xc / 10 * 10), .int 1, .int 6]) (rest := []) (r1 := some (.int 0)) (m1 := w) rfl ((cs_inL (m := w) (v := xc - xc / 10 * 10) (a := 1) (b := 6) q9).deep (by decide)) ?_
            refine mz_goP 3 (c' := (79, [some (.ref 0), some (.int xa), some (.int xb), some (.int xc), some (.int xd), some (.int (xc / 10)), some (.int (xc - xc / 10 * 10)), none, none, none, none], [.int 1, .ref 0], w)) rfl ?_
            refine mz_doP (R := mz_r109) (as := [.ref 0, .int 1]) (rest := []) (r1 := some (.int (-1000001))) (m1 := mz_up w 64 1 ((w 64 1) + 1)) rfl ((cs_err1 (m := w)).deep (by decide)) ?_
            refine mz_retP (r := (some (.int ((-1000001))), mz_up w 64 1 ((w 64 1) + 1))) rfl ⟨(-1000001), rfl, ?_⟩
            refine mz_goP 10 (c' := (14, [some (.ref 65), some (.int xa), some (.int xb), some (.int xc), some (.int xd), some (.int (xc / 10)), some (.int (xc - xc / 10 * 10)), none, none, none], [.int xb, .int xa], mz_up w 64 1 ((w 64 1) + 1))) rfl ?_
            refine mz_doP (R := mz_r131) (as := [.int xa, .int xb]) (rest := []) (r1 := some (.int 1)) (m1 := mz_up w 64 1 ((w 64 1) + 1)) rfl ⟨?_, rfl⟩ ?_
            · refine mz_go 3 (c' := (5, [some (.int xa), some (.int xb)], [.int 100, .int (-100), .int xa], mz_up w 64 1 ((w 64 1) + 1))) rfl ?_
              refine mz_do (R := mz_r128) (as := [.int xa, .int (-100), .int 100]) (rest := []) (r1 := some (.int 1)) (m1 := mz_up w 64 1 ((w 64 1) + 1)) rfl ((ct_in1 (m := mz_up w 64 1 ((w 64 1) + 1)) (v := xa) (a := (-100)) (b := 100) (show ¬ (xa < (-100)) from (sm_plc_of q1).1.1) (show ¬ (100 < xa) from (sm_plc_of q1).1.2)).deep (by decide)) ?_
              refine mz_go 4 (c' := (16, [some (.int xa), some (.int xb)], [.int 100, .int (-100), .int xb], mz_up w 64 1 ((w 64 1) + 1))) rfl ?_
              refine mz_do (R := mz_r128) (as := [.int xb, .int (-100), .int 100]) (rest := []) (r1 := some (.int 1)) (m1 := mz_up w 64 1 ((w 64 1) + 1)) rfl ((ct_in1 (m := mz_up w 64 1 ((w 64 1) + 1)) (v := xb) (a := (-100)) (b := 100) (show ¬ (xb < (-100)) from (sm_plc_of q1).2.1) (show ¬ (100 < xb) from (sm_plc_of q1).2.2)).deep (by decide)) ?_
              refine mz_go 3 (c' := (27, [some (.int xa), some (.int xb)], [.int 1], mz_up w 64 1 ((w 64 1) + 1))) rfl ?_
              exact mz_ret rfl
            refine mz_goP 4 (c' := (25, [some (.ref 65), some (.int xa), some (.int xb), some (.int xc), some (.int xd), some (.int (xc / 10)), some (.int (xc - xc / 10 * 10)), none, none, none], [.int 6, .int 1, .int (xc / 10)], mz_up w 64 1 ((w 64 1) + 1))) rfl ?_
            refine mz_doP (R := mz_r128) (as := [.int (xc / 10), .int 1, .int 6]) (rest := []) (r1 := some (.int 1)) (m1 := mz_up w 64 1 ((w 64 1) + 1)) rfl ((ct_in1 (m := mz_up w 64 1 ((w 64 1) + 1)) (v := xc / 10) (a := 1) (b := 6) q7 q8).deep (by decide)) ?_
            refine mz_goP 4 (c' := (36, [some (.ref 65), some (.int xa), some (.int xb), some (.int xc), some (.int xd), some (.int (xc / 10)), some (.int (xc - xc / 10 * 10)), none, none, none], [.int 6, .int 1, .int (xc - xc / 10 * 10)], mz_up w 64 1 ((w 64 1) + 1))) rfl ?_
            refine mz_doP (R := mz_r128) (as := [.int (xc - xc / 10 * 10), .int 1, .int 6]) (rest := []) (r1 := some (.int 0)) (m1 := mz_up w 64 1 ((w 64 1) + 1)) rfl ((ct_inL (m := mz_up w 64 1 ((w 64 1) + 1)) (v := xc - xc / 10 * 10) (a := 1) (b := 6) q9).deep (by decide)) ?_
            refine mz_goP 7 (c' := (91, [some (.ref 65), some (.int xa), some (.int xb), some (.int xc), some (.int xd), some (.int (xc / 10)), some (.int (xc - xc / 10 * 10)), some (.int 0), none, none], [.int 1, .ref 65], mz_up w 64 1 ((w 64 1) + 1))) rfl ?_
            refine mz_doP (R := mz_r127) (as := [.ref 65, .int 1]) (rest := []) (r1 := some (.int (-1000001))) (m1 := mz_up (mz_up w 64 1 ((w 64 1) + 1)) 68 1 ((w 68 1) + 1)) rfl ((ct_err1 (m := mz_up w 64 1 ((w 64 1) + 1))).deep (by decide)) ?_
            refine mz_retP (r := (some (.int ((-1000001))), mz_up (mz_up w 64 1 ((w 64 1) + 1)) 68 1 ((w 68 1) + 1))) rfl ⟨(-1000001), rfl, ?_, rfl⟩
            show sm_I (n + 1) (mz_up (mz_up w 64 1 ((w 64 1) + 1)) 68 1 ((w 68 1) + 1))
            exact sm_I_scr hn hI2 (fun i hi => by
              have hne : ∀ r, sm_scr r = true → i ≠ r := fun r hr e => by
                rw [e, hr] at hi
                cases hi
              simp only [mz_up_ne (hne 64 rfl), mz_up_ne (hne 68 rfl)]) rfl rfl
          · by_cases q10 : 6 < (xc - xc / 10 * 10)
            · refine mz_doP (R := mz_r121) (as := [.int (xc - xc / 10 * 10), .int 1, .int 6]) (rest := []) (r1 := some (.int 0)) (m1 := w) rfl ((cs_inG (m := w) (v := xc - xc / 10 * 10) (a := 1) (b := 6) q9 q10).deep (by decide)) ?_
              refine mz_goP 3 (c' := (79, [some (.ref 0), some (.int xa), some (.int xb), some (.int xc), some (.int xd), some (.int (xc / 10)), some (.int (xc - xc / 10 * 10)), none, none, none, none], [.int 1, .ref 0], w)) rfl ?_
              refine mz_doP (R := mz_r109) (as := [.ref 0, .int 1]) (rest := []) (r1 := some (.int (-1000001))) (m1 := mz_up w 64 1 ((w 64 1) + 1)) rfl ((cs_err1 (m := w)).deep (by decide)) ?_
              refine mz_retP (r := (some (.int ((-1000001))), mz_up w 64 1 ((w 64 1) + 1))) rfl ⟨(-1000001), rfl, ?_⟩
              refine mz_goP 10 (c' := (14, [some (.ref 65), some (.int xa), some (.int xb), some (.int xc), some (.int xd), some (.int (xc / 10)), some (.int (xc - xc / 10 * 10)), none, none, none], [.int xb, .int xa], mz_up w 64 1 ((w 64 1) + 1))) rfl ?_
              refine mz_doP (R := mz_r131) (as := [.int xa, .int xb]) (rest := []) (r1 := some (.int 1)) (m1 := mz_up w 64 1 ((w 64 1) + 1)) rfl ⟨?_, rfl⟩ ?_
              · refine mz_go 3 (c' := (5, [some (.int xa), some (.int xb)], [.int 100, .int (-100), .int xa], mz_up w 64 1 ((w 64 1) + 1))) rfl ?_
                refine mz_do (R := mz_r128) (as := [.int xa, .int (-100), .int 100]) (rest := []) (r1 := some (.int 1)) (m1 := mz_up w 64 1 ((w 64 1) + 1)) rfl ((ct_in1 (m := mz_up w 64 1 ((w 64 1) + 1)) (v := xa) (a := (-100)) (b := 100) (show ¬ (xa < (-100)) from (sm_plc_of q1).1.1) (show ¬ (100 < xa) from (sm_plc_of q1).1.2)).deep (by decide)) ?_
                refine mz_go 4 (c' := (16, [some (.int xa), some (.int xb)], [.int 100, .int (-100), .int xb], mz_up w 64 1 ((w 64 1) + 1))) rfl ?_
                refine mz_do (R := mz_r128) (as := [.int xb, .int (-100), .int 100]) (rest := []) (r1 := some (.int 1)) (m1 := mz_up w 64 1 ((w 64 1) + 1)) rfl ((ct_in1 (m := mz_up w 64 1 ((w 64 1) + 1)) (v := xb) (a := (-100)) (b := 100) (show ¬ (xb < (-100)) from (sm_plc_of q1).2.1) (show ¬ (100 < xb) from (sm_plc_of q1).2.2)).deep (by decide)) ?_
                refine mz_go 3 (c' := (27, [some (.int xa), some (.int xb)], [.int 1], mz_up w 64 1 ((w 64 1) + 1))) rfl ?_
                exact mz_ret rfl
              refine mz_goP 4 (c' := (25, [some (.ref 65), some (.int xa), some (.int xb), some (.int xc), some (.int xd), some (.int (xc / 10)), some (.int (xc - xc / 10 * 10)), none, none, none], [.int 6, .int 1, .int (xc / 10)], mz_up w 64 1 ((w 64 1) + 1))) rfl ?_
              refine mz_doP (R := mz_r128) (as := [.int (xc / 10), .int 1, .int 6]) (rest := []) (r1 := some (.int 1)) (m1 := mz_up w 64 1 ((w 64 1) + 1)) rfl ((ct_in1 (m := mz_up w 64 1 ((w 64 1) + 1)) (v := xc / 10) (a := 1) (b := 6) q7 q8).deep (by decide)) ?_
              refine mz_goP 4 (c' := (36, [some (.ref 65), some (.int xa), some (.int xb), some (.int xc), some (.int xd), some (.int (xc / 10)), some (.int (xc - xc / 10 * 10)), none, none, none], [.int 6, .int 1, .int (xc - xc / 10 * 10)], mz_up w 64 1 ((w 64 1) + 1))) rfl ?_
              refine mz_doP (R := mz_r128) (as := [.int (xc - xc / 10 * 10), .int 1, .int 6]) (rest := []) (r1 := some (.int 0)) (m1 := mz_up w 64 1 ((w 64 1) + 1)) rfl ((ct_inG (m := mz_up w 64 1 ((w 64 1) + 1)) (v := xc - xc / 10 * 10) (a := 1) (b := 6) q9 q10).deep (by decide)) ?_
              refine mz_goP 7 (c' := (91, [some (.ref 65), some (.int xa), some (.int xb), some (.int xc), some (.int xd), some (.int (xc / 10)), some (.int (xc - xc / 10 * 10)), some (.int 0), none, none], [.int 1, .ref 65], mz_up w 64 1 ((w 64 1) + 1))) rfl ?_
              refine mz_doP (R := mz_r127) (as := [.ref 65, .int 1]) (rest := []) (r1 := some (.int (-1000001))) (m1 := mz_up (mz_up w 64 1 ((w 64 1) + 1)) 68 1 ((w 68 1) + 1)) rfl ((ct_err1 (m := mz_up w 64 1 ((w 64 1) + 1))).deep (by decide)) ?_
              refine mz_retP (r := (some (.int ((-1000001))), mz_up (mz_up w 64 1 ((w 64 1) + 1)) 68 1 ((w 68 1) + 1))) rfl ⟨(-1000001), rfl, ?_, rfl⟩
              show sm_I (n + 1) (mz_up (mz_up w 64 1 ((w 64 1) + 1)) 68 1 ((w 68 1) + 1))
              exact sm_I_scr hn hI2 (fun i hi => by
                have hne : ∀ r, sm_scr r = true → i ≠ r := fun r hr e => by
                  rw [e, hr] at hi
                  cases hi
                simp only [mz_up_ne (hne 64 rfl), mz_up_ne (hne 68 rfl)]) rfl rfl
            · refine mz_doP (R := mz_r121) (as := [.int (xc - xc / 10 * 10), .int 1, .int 6]) (rest := []) (r1 := some (.int 1)) (m1 := w) rfl ((cs_in1 (m := w) (v := xc - xc / 10 * 10) (a := 1) (b := 6) q9 q10).deep (by decide)) ?_
              refine mz_goP 15 (c' := (71, [some (.ref 0), some (.int xa), some (.int xb), some (.int xc), some (.int xd), some (.int (xc / 10)), some (.int (xc - xc / 10 * 10)), none, none, none, none], [.int (xb + (((xc - xc / 10 * 10) - 1) * xd)), .int (xa + (((xc / 10) - 1) * xd))], w)) rfl ?_
              by_cases q11 : (xa + (((xc / 10) - 1) * xd)) < (-100)
              · refine mz_doP (R := mz_r116) (as := [.int (xa + (((xc / 10) - 1) * xd)), .int (xb + (((xc - xc / 10 * 10) - 1) * xd))]) (rest := []) (r1 := some (.int 0)) (m1 := w) rfl ⟨?_, rfl⟩ ?_
                · refine mz_go 3 (c' := (5, [some (.int (xa + (((xc / 10) - 1) * xd))), some (.int (xb + (((xc - xc / 10 * 10) - 1) * xd)))], [.int 100, .int (-100), .int (xa + (((xc / 10) - 1) * xd))], w)) rfl ?_
                  refine mz_do (R := mz_r121) (as := [.int (xa + (((xc / 10) - 1) * xd)), .int (-100), .int 100]) (rest := []) (r1 := some (.int 0)) (m1 := w) rfl ((cs_inL (m := w) (v := xa + (((xc / 10) - 1) * xd)) (a := (-100)) (b := 100) q11).deep (by decide)) ?_
                  refine mz_go 2 (c' := (27, [some (.int (xa + (((xc / 10) - 1) * xd))), some (.int (xb + (((xc - xc / 10 * 10) - 1) * xd)))], [.int 0], w)) rfl ?_
                  exact mz_ret rfl
                refine mz_goP 3 (c' := (79, [some (.ref 0), some (.int xa), some (.int xb), some (.int xc), some (.int xd), some (.int (xc / 10)), some (.int (xc - xc / 10 * 10)), none, none, none, none], [.int 1, .ref 0], w)) rfl ?_
                refine mz_doP (R := mz_r109) (as := [.ref 0, .int 1]) (rest := []) (r1 := some (.int (-1000001))) (m1 := mz_up w 64 1 ((w 64 1) + 1)) rfl ((cs_err1 (m := w)).deep (by decide)) ?_
                refine mz_retP (r := (some (.int ((-1000001))), mz_up w 64 1 ((w 64 1) + 1))) rfl ⟨(-1000001), rfl, ?_⟩
                refine mz_goP 10 (c' := (14, [some (.ref 65), some (.int xa), some (.int xb), some (.int xc), some (.int xd), some (.int (xc / 10)), some (.int (xc - xc / 10 * 10)), none, none, none], [.int xb, .int xa], mz_up w 64 1 ((w 64 1) + 1))) rfl ?_
                refine mz_doP (R := mz_r131) (as := [.int xa, .int xb]) (rest := []) (r1 := some (.int 1)) (m1 := mz_up w 64 1 ((w 64 1) + 1)) rfl ⟨?_, rfl⟩ ?_
                · refine mz_go 3 (c' := (5, [some (.int xa), some (.int xb)], [.int 100, .int (-100), .int xa], mz_up w 64 1 ((w 64 1) + 1))) rfl ?_
                  refine mz_do (R := mz_r128) (as := [.int xa, .int (-100), .int 100]) (rest := []) (r1 := some (.int 1)) (m1 := mz_up w 64 1 ((w 64 1) + 1)) rfl ((ct_in1 (m := mz_up w 64 1 ((w 64 1) + 1)) (v := xa) (a := (-100)) (b := 100) (show ¬ (xa < (-100)) from (sm_plc_of q1).1.1) (show ¬ (100 < xa) from (sm_plc_of q1).1.2)).deep (by decide)) ?_
                  refine mz_go 4 (c' := (16, [some (.int xa), some (.int xb)], [.int 100, .int (-100), .int xb], mz_up w 64 1 ((w 64 1) + 1))) rfl ?_
                  refine mz_do (R := mz_r128) (as := [.int xb, .int (-100), .int 100]) (rest := []) (r1 := some (.int 1)) (m1 := mz_up w 64 1 ((w 64 1) + 1)) rfl ((ct_in1 (m := mz_up w 64 1 ((w 64 1) + 1)) (v := xb) (a := (-100)) (b := 100) (show ¬ (xb < (-100)) from (sm_plc_of q1).2.1) (show ¬ (100 < xb) from (sm_plc_of q1).2.2)).deep (by decide)) ?_
                  refine mz_go 3 (c' := (27, [some (.int xa), some (.int xb)], [.int 1], mz_up w 64 1 ((w 64 1) + 1))) rfl ?_
                  exact mz_ret rfl
                refine mz_goP 4 (c' := (25, [some (.ref 65), some (.int xa), some (.int xb), some (.int xc), some (.int xd), some (.int (xc / 10)), some (.int (xc - xc / 10 * 10)), none, none, none], [.int 6, .int 1, .int (xc / 10)], mz_up w 64 1 ((w 64 1) + 1))) rfl ?_
                refine mz_doP (R := mz_r128) (as := [.int (xc / 10), .int 1, .int 6]) (rest := []) (r1 := some (.int 1)) (m1 := mz_up w 64 1 ((w 64 1) + 1)) rfl ((ct_in1 (m := mz_up w 64 1 ((w 64 1) + 1)) (v := xc / 10) (a := 1) (b := 6) q7 q8).deep (by decide)) ?_
                refine mz_goP 4 (c' := (36, [some (.ref 65), some (.int xa), some (.int xb), some (.int xc), some (.int xd), some (.int (xc / 10)), some (.int (xc - xc / 10 * 10)), none, none, none], [.int 6, .int 1, .int (xc - xc / 10 * 10)], mz_up w 64 1 ((w 64 1) + 1))) rfl ?_
                refine mz_doP (R := mz_r128) (as := [.int (xc - xc / 10 * 10), .int 1, .int 6]) (rest := []) (r1 := some (.int 1)) (m1 := mz_up w 64 1 ((w 64 1) + 1)) rfl ((ct_in1 (m := mz_up w 64 1 ((w 64 1) + 1)) (v := xc - xc / 10 * 10) (a := 1) (b := 6) q9 q10).deep (by decide)) ?_
                refine mz_goP 4 (c' := (47, [some (.ref 65), some (.int xa), some (.int xb), some (.int xc), some (.int xd), some (.int (xc / 10)), some (.int (xc - xc / 10 * 10)), none, none, none], [.int 40, .int 1, .int xd], mz_up w 64 1 ((w 64 1) + 1))) rfl ?_
                refine mz_doP (R := mz_r128) (as := [.int xd, .int 1, .int 40]) (rest := []) (r1 := some (.int 1)) (m1 := mz_up w 64 1 ((w 64 1) + 1)) rfl ((ct_in1 (m := mz_up w 64 1 ((w 64 1) + 1)) (v := xd) (a := 1) (b := 40) (show ¬ (xd < 1) from (sm_in_lo q2)) (show ¬ (40 < xd) from (sm_in_hi q2))).deep (by decide)) ?_
                refine mz_goP 20 (c' := (83, [some (.ref 65), some (.int xa), some (.int xb), some (.int xc), some (.int xd), some (.int (xc / 10)), some (.int (xc - xc / 10 * 10)), some (.int 1), none, none], [.int (xb + (((xc - xc / 10 * 10) - 1) * xd)), .int (xa + (((xc / 10) - 1) * xd))], mz_up w 64 1 ((w 64 1) + 1))) rfl ?_
                refine mz_doP (R := mz_r131) (as := [.int (xa + (((xc / 10) - 1) * xd)), .int (xb + (((xc - xc / 10 * 10) - 1) * xd))]) (rest := []) (r1 := some (.int 0)) (m1 := mz_up w 64 1 ((w 64 1) + 1)) rfl ⟨?_, rfl⟩ ?_
                · refine mz_go 3 (c' := (5, [some (.int (xa + (((xc / 10) - 1) * xd))), some (.int (xb + (((xc - xc / 10 * 10) - 1) * xd)))], [.int 100, .int (-100), .int (xa + (((xc / 10) - 1) * xd))], mz_up w 64 1 ((w 64 1) + 1))) rfl ?_
                  refine mz_do (R := mz_r128) (as := [.int (xa + (((xc / 10) - 1) * xd)), .int (-100), .int 100]) (rest := []) (r1 := some (.int 0)) (m1 := mz_up w 64 1 ((w 64 1) + 1)) rfl ((ct_inL (m := mz_up w 64 1 ((w 64 1) + 1)) (v := xa + (((xc / 10) - 1) * xd)) (a := (-100)) (b := 100) q11).deep (by decide)) ?_
                  refine mz_go 2 (c' := (27, [some (.int (xa + (((xc / 10) - 1) * xd))), some (.int (xb + (((xc - xc / 10 * 10) - 1) * xd)))], [.int 0], mz_up w 64 1 ((w 64 1) + 1))) rfl ?_
                  exact mz_ret rfl
                refine mz_goP 3 (c' := (91, [some (.ref 65), some (.int xa), some (.int xb), some (.int xc), some (.int xd), some (.int (xc / 10)), some (.int (xc - xc / 10 * 10)), some (.int 1), none, none], [.int 1, .ref 65], mz_up w 64 1 ((w 64 1) + 1))) rfl ?_
                refine mz_doP (R := mz_r127) (as := [.ref 65, .int 1]) (rest := []) (r1 := some (.int (-1000001))) (m1 := mz_up (mz_up w 64 1 ((w 64 1) + 1)) 68 1 ((w 68 1) + 1)) rfl ((ct_err1 (m := mz_up w 64 1 ((w 64 1) + 1))).deep (by decide)) ?_
                refine mz_retP (r := (some (.int ((-1000001))), mz_up (mz_up w 64 1 ((w 64 1) + 1)) 68 1 ((w 68 1) + 1))) rfl ⟨(-1000001), rfl, ?_, rfl⟩
                show sm_I (n + 1) (mz_up (mz_up w 64 1 ((w 64 1) + 1)) 68 1 ((w 68 1) + 1))
                exact sm_I_scr hn hI2 (fun i hi => by
                  have hne : ∀ r, sm_scr r = true → i ≠ r := fun r hr e => by
                    rw [e, hr] at hi
                    cases hi
                  simp only [mz_up_ne (hne 64 rfl), mz_up_ne (hne 68 rfl)]) rfl rfl
              · by_cases q12 : 100 < (xa + (((xc / 10) - 1) * xd))
                · refine mz_doP (R := mz_r116) (as := [.int (xa + (((xc / 10) - 1) * xd)), .int (xb + (((xc - xc / 10 * 10) - 1) * xd))]) (rest := []) (r1 := some (.int 0)) (m1 := w) rfl ⟨?_, rfl⟩ ?_
                  · refine mz_go 3 (c' := (5, [some (.int (xa + (((xc / 10) - 1) * xd))), some (.int (xb + (((xc - xc / 10 * 10) - 1) * xd)))], [.int 100, .int (-100), .int (xa + (((xc / 10) - 1) * xd))], w)) rfl ?_
                    refine mz_do (R := mz_r121) (as := [.int (xa + (((xc / 10) - 1) * xd)), .int (-100), .int 100]) (rest := []) (r1 := some (.int 0)) (m1 := w) rfl ((cs_inG (m := w) (v := xa + (((xc / 10) - 1) * xd)) (a := (-100)) (b := 100) q11 q12).deep (by decide)) ?_
                    refine mz_go 2 (c' := (27, [some (.int (xa + (((xc / 10) - 1) * xd))), some (.int (xb + (((xc - xc / 10 * 10) - 1) * xd)))], [.int 0], w)) rfl ?_
                    exact mz_ret rfl
                  refine mz_goP 3 (c' := (79, [some (.ref 0), some (.int xa), some (.int xb), some (.int xc), some (.int xd), some (.int (xc / 10)), some (.int (xc - xc / 10 * 10)), none, none, none, none], [.int 1, .ref 0], w)) rfl ?_
                  refine mz_doP (R := mz_r109) (as := [.ref 0, .int 1]) (rest := []) (r1 := some (.int (-1000001))) (m1 := mz_up w 64 1 ((w 64 1) + 1)) rfl ((cs_err1 (m := w)).deep (by decide)) ?_
                  refine mz_retP (r := (some (.int ((-1000001))), mz_up w 64 1 ((w 64 1) + 1))) rfl ⟨(-1000001), rfl, ?_⟩
                  refine mz_goP 10 (c' := (14, [some (.ref 65), some (.int xa), some (.int xb), some (.int xc), some (.int xd), some (.int (xc / 10)), some (.int (xc - xc / 10 * 10)), none, none, none], [.int xb, .int xa], mz_up w 64 1 ((w 64 1) + 1))) rfl ?_
                  refine mz_doP (R := mz_r131) (as := [.int xa, .int xb]) (rest := []) (r1 := some (.int 1)) (m1 := mz_up w 64 1 ((w 64 1) + 1)) rfl ⟨?_, rfl⟩ ?_
                  · refine mz_go 3 (c' := (5, [some (.int xa), some (.int xb)], [.int 100, .int (-100), .int xa], mz_up w 64 1 ((w 64 1) + 1))) rfl ?_
                    refine mz_do (R := mz_r128) (as := [.int xa, .int (-100), .int 100]) (rest := []) (r1 := some (.int 1)) (m1 := mz_up w 64 1 ((w 64 1) + 1)) rfl ((ct_in1 (m := mz_up w 64 1 ((w 64 1) + 1)) (v := xa) (a := (-100)) (b := 100) (show ¬ (xa < (-100)) from (sm_plc_of q1).1.1) (show ¬ (100 < xa) from (sm_plc_of q1).1.2)).deep (by decide)) ?_
                    refine mz_go 4 (c' := (16, [some (.int xa), some (.int xb)], [.int 100, .int (-100), .int xb], mz_up w 64 1 ((w 64 1) + 1))) rfl ?_
                    refine mz_do (R := mz_r128) (as := [.int xb, .int (-100), .int 100]) (rest := []) (r1 := some (.int 1)) (m1 := mz_up w 64 1 ((w 64 1) + 1)) rfl ((ct_in1 (m := mz_up w 64 1 ((w 64 1) + 1)) (v := xb) (a := (-100)) (b := 100) (show ¬ (xb < (-100)) from (sm_plc_of q1).2.1) (show ¬ (100 < xb) from (sm_plc_of q1).2.2)).deep (by decide)) ?_
                    refine mz_go 3 (c' := (27, [some (.int xa), some (.int xb)], [.int 1], mz_up w 64 1 ((w 64 1) + 1))) rfl ?_
                    exact mz_ret rfl
                  refine mz_goP 4 (c' := (25, [some (.ref 65), some (.int xa), some (.int xb), some (.int xc), some (.int xd), some (.int (xc / 10)), some (.int (xc - xc / 10 * 10)), none, none, none], [.int 6, .int 1, .int (xc / 10)], mz_up w 64 1 ((w 64 1) + 1))) rfl ?_
                  refine mz_doP (R := mz_r128) (as := [.int (xc / 10), .int 1, .int 6]) (rest := []) (r1 := some (.int 1)) (m1 := mz_up w 64 1 ((w 64 1) + 1)) rfl ((ct_in1 (m := mz_up w 64 1 ((w 64 1) + 1)) (v := xc / 10) (a := 1) (b := 6) q7 q8).deep (by decide)) ?_
                  refine mz_goP 4 (c' := (36, [some (.ref 65), some (.int xa), some (.int xb), some (.int xc), some (.int xd), some (.int (xc / 10)), some (.int (xc - xc / 10 * 10)), none, none, none], [.int 6, .int 1, .int (xc - xc / 10 * 10)], mz_up w 64 1 ((w 64 1) + 1))) rfl ?_
                  refine mz_doP (R := mz_r128) (as := [.int (xc - xc / 10 * 10), .int 1, .int 6]) (rest := []) (r1 := some (.int 1)) (m1 := mz_up w 64 1 ((w 64 1) + 1)) rfl ((ct_in1 (m := mz_up w 64 1 ((w 64 1) + 1)) (v := xc - xc / 10 * 10) (a := 1) (b := 6) q9 q10).deep (by decide)) ?_
                  refine mz_goP 4 (c' := (47, [some (.ref 65), some (.int xa), some (.int xb), some (.int xc), some (.int xd), some (.int (xc / 10)), some (.int (xc - xc / 10 * 10)), none, none, none], [.int 40, .int 1, .int xd], mz_up w 64 1 ((w 64 1) + 1))) rfl ?_
                  refine mz_doP (R := mz_r128) (as := [.int xd, .int 1, .int 40]) (rest := []) (r1 := some (.int 1)) (m1 := mz_up w 64 1 ((w 64 1) + 1)) rfl ((ct_in1 (m := mz_up w 64 1 ((w 64 1) + 1)) (v := xd) (a := 1) (b := 40) (show ¬ (xd < 1) from (sm_in_lo q2)) (show ¬ (40 < xd) from (sm_in_hi q2))).deep (by decide)) ?_
                  refine mz_goP 20 (c' := (83, [some (.ref 65), some (.int xa), some (.int xb), some (.int xc), some (.int xd), some (.int (xc / 10)), some (.int (xc - xc / 10 * 10)), some (.int 1), none, none], [.int (xb + (((xc - xc / 10 * 10) - 1) * xd)), .int (xa + (((xc / 10) - 1) * xd))], mz_up w 64 1 ((w 64 1) + 1))) rfl ?_
                  refine mz_doP (R := mz_r131) (as := [.int (xa + (((xc / 10) - 1) * xd)), .int (xb + (((xc - xc / 10 * 10) - 1) * xd))]) (rest := []) (r1 := some (.int 0)) (m1 := mz_up w 64 1 ((w 64 1) + 1)) rfl ⟨?_, rfl⟩ ?_
                  · refine mz_go 3 (c' := (5, [some (.int (xa + (((xc / 10) - 1) * xd))), some (.int (xb + (((xc - xc / 10 * 10) - 1) * xd)))], [.int 100, .int (-100), .int (xa + (((xc / 10) - 1) * xd))], mz_up w 64 1 ((w 64 1) + 1))) rfl ?_
                    refine mz_do (R := mz_r128) (as := [.int (xa + (((xc / 10) - 1) * xd)), .int (-100), .int 100]) (rest := []) (r1 := some (.int 0)) (m1 := mz_up w 64 1 ((w 64 1) + 1)) rfl ((ct_inG (m := mz_up w 64 1 ((w 64 1) + 1)) (v := xa + (((xc / 10) - 1) * xd)) (a := (-100)) (b := 100) q11 q12).deep (by decide)) ?_
                    refine mz_go 2 (c' := (27, [some (.int (xa + (((xc / 10) - 1) * xd))), some (.int (xb + (((xc - xc / 10 * 10) - 1) * xd)))], [.int 0], mz_up w 64 1 ((w 64 1) + 1))) rfl ?_
                    exact mz_ret rfl
                  refine mz_goP 3 (c' := (91, [some (.ref 65), some (.int xa), some (.int xb), some (.int xc), some (.int xd), some (.int (xc / 10)), some (.int (xc - xc / 10 * 10)), some (.int 1), none, none], [.int 1, .ref 65], mz_up w 64 1 ((w 64 1) + 1))) rfl ?_
                  refine mz_doP (R := mz_r127) (as := [.ref 65, .int 1]) (rest := []) (r1 := some (.int (-1000001))) (m1 := mz_up (mz_up w 64 1 ((w 64 1) + 1)) 68 1 ((w 68 1) + 1)) rfl ((ct_err1 (m := mz_up w 64 1 ((w 64 1) + 1))).deep (by decide)) ?_
                  refine mz_retP (r := (some (.int ((-1000001))), mz_up (mz_up w 64 1 ((w 64 1) + 1)) 68 1 ((w 68 1) + 1))) rfl ⟨(-1000001), rfl, ?_, rfl⟩
                  show sm_I (n + 1) (mz_up (mz_up w 64 1 ((w 64 1) + 1)) 68 1 ((w 68 1) + 1))
                  exact sm_I_scr hn hI2 (fun i hi => by
                    have hne : ∀ r, sm_scr r = true → i ≠ r := fun r hr e => by
                      rw [e, hr] at hi
                      cases hi
                    simp only [mz_up_ne (hne 64 rfl), mz_up_ne (hne 68 rfl)]) rfl rfl
                · by_cases q13 : (xb + (((xc - xc / 10 * 10) - 1) * xd)) < (-100)
                  · refine mz_doP (R := mz_r116) (as := [.int (xa + (((xc / 10) - 1) * xd)), .int (xb + (((xc - xc / 10 * 10) - 1) * xd))]) (rest := []) (r1 := some (.int 0)) (m1 := w) rfl ⟨?_, rfl⟩ ?_
                    · refine mz_go 3 (c' := (5, [some (.int (xa + (((xc / 10) - 1) * xd))), some (.int (xb + (((xc - xc / 10 * 10) - 1) * xd)))], [.int 100, .int (-100), .int (xa + (((xc / 10) - 1) * xd))], w)) rfl ?_
                      refine mz_do (R := mz_r121) (as := [.int (xa + (((xc / 10) - 1) * xd)), .int (-100), .int 100]) (rest := []) (r1 := some (.int 1)) (m1 := w) rfl ((cs_in1 (m := w) (v := xa + (((xc / 10) - 1) * xd)) (a := (-100)) (b := 100) q11 q12).deep (by decide)) ?_
                      refine mz_go 4 (c' := (16, [some (.int (xa + (((xc / 10) - 1) * xd))), some (.int (xb + (((xc - xc / 10 * 10) - 1) * xd)))], [.int 100, .int (-100), .int (xb + (((xc - xc / 10 * 10) - 1) * xd))], w)) rfl ?_
                      refine mz_do (R := mz_r121) (as := [.int (xb + (((xc - xc / 10 * 10) - 1) * xd)), .int (-100), .int 100]) (rest := []) (r1 := some (.int 0)) (m1 := w) rfl ((cs_inL (m := w) (v := xb + (((xc - xc / 10 * 10) - 1) * xd)) (a := (-100)) (b := 100) q13).deep (by decide)) ?_
                      refine mz_go 2 (c' := (27, [some (.int (xa + (((xc / 10) - 1) * xd))), some (.int (xb + (((xc - xc / 10 * 10) - 1) * xd)))], [.int 0], w)) rfl ?_
                      exact mz_ret rfl
                    refine mz_goP 3 (c' := (79, [some (.ref 0), some (.int xa), some (.int xb), some (.int xc), some (.int xd), some (.int (xc / 10)), some (.int (xc - xc / 10 * 10)), none, none, none, none], [.int 1, .ref 0], w)) rfl ?_
                    refine mz_doP (R := mz_r109) (as := [.ref 0, .int 1]) (rest := []) (r1 := some (.int (-1000001))) (m1 := mz_up w 64 1 ((w 64 1) + 1)) rfl ((cs_err1 (m := w)).deep (by decide)) ?_
                    refine mz_retP (r := (some (.int ((-1000001))), mz_up w 64 1 ((w 64 1) + 1))) rfl ⟨(-1000001), rfl, ?_⟩
                    refine mz_goP 10 (c' := (14, [some (.ref 65), some (.int xa), some (.int xb), some (.int xc), some (.int xd), some (.int (xc / 10)), some (.int (xc - xc / 10 * 10)), none, none, none], [.int xb, .int xa], mz_up w 64 1 ((w 64 1) + 1))) rfl ?_
                    refine mz_doP (R := mz_r131) (as := [.int xa, .int xb]) (rest := []) (r1 := some (.int 1)) (m1 := mz_up w 64 1 ((w 64 1) + 1)) rfl ⟨?_, rfl⟩ ?_
                    · refine mz_go 3 (c' := (5, [some (.int xa), some (.int xb)], [.int 100, .int (-100), .int xa], mz_up w 64 1 ((w 64 1) + 1))) rfl ?_
                      refine mz_do (R := mz_r128) (as := [.int xa, .int (-100), .int 100]) (rest := []) (r1 := some (.int 1)) (m1 := mz_up w 64 1 ((w 64 1) + 1)) rfl ((ct_in1 (m := mz_up w 64 1 ((w 64 1) + 1)) (v := xa) (a := (-100)) (b := 100) (show ¬ (xa < (-100)) from (sm_plc_of q1).1.1) (show ¬ (100 < xa) from (sm_plc_of q1).1.2)).deep (by decide)) ?_
                      refine mz_go 4 (c' := (16, [some (.int xa), some (.int xb)], [.int 100, .int (-100), .int xb], mz_up w 64 1 ((w 64 1) + 1))) rfl ?_
                      refine mz_do (R := mz_r128) (as := [.int xb, .int (-100), .int 100]) (rest := []) (r1 := some (.int 1)) (m1 := mz_up w 64 1 ((w 64 1) + 1)) rfl ((ct_in1 (m := mz_up w 64 1 ((w 64 1) + 1)) (v := xb) (a := (-100)) (b := 100) (show ¬ (xb < (-100)) from (sm_plc_of q1).2.1) (show ¬ (100 < xb) from (sm_plc_of q1).2.2)).deep (by decide)) ?_
                      refine mz_go 3 (c' := (27, [some (.int xa), some (.int xb)], [.int 1], mz_up w 64 1 ((w 64 1) + 1))) rfl ?_
                      exact mz_ret rfl
                    refine mz_goP 4 (c' := (25, [some (.ref 65), some (.int xa), some (.int xb), some (.int xc), some (.int xd), some (.int (xc / 10)), some (.int (xc - xc / 10 * 10)), none, none, none], [.int 6, .int 1, .int (xc / 10)], mz_up w 64 1 ((w 64 1) + 1))) rfl ?_
                    refine mz_doP (R := mz_r128) (as := [.int (xc / 10), .int 1, .int 6]) (rest := []) (r1 := some (.int 1)) (m1 := mz_up w 64 1 ((w 64 1) + 1)) rfl ((ct_in1 (m := mz_up w 64 1 ((w 64 1) + 1)) (v := xc / 10) (a := 1) (b := 6) q7 q8).deep (by decide)) ?_
                    refine mz_goP 4 (c' := (36, [some (.ref 65), some (.int xa), some (.int xb), some (.int xc), some (.int xd), some (.int (xc / 10)), some (.int (xc - xc / 10 * 10)), none, none, none], [.int 6, .int 1, .int (xc - xc / 10 * 10)], mz_up w 64 1 ((w 64 1) + 1))) rfl ?_
                    refine mz_doP (R := mz_r128) (as := [.int (xc - xc / 10 * 10), .int 1, .int 6]) (rest := []) (r1 := some (.int 1)) (m1 := mz_up w 64 1 ((w 64 1) + 1)) rfl ((ct_in1 (m := mz_up w 64 1 ((w 64 1) + 1)) (v := xc - xc / 10 * 10) (a := 1) (b := 6) q9 q10).deep (by decide)) ?_
                    refine mz_goP 4 (c' := (47, [some (.ref 65), some (.int xa), some (.int xb), some (.int xc), some (.int xd), some (.int (xc / 10)), some (.int (xc - xc / 10 * 10)), none, none, none], [.int 40, .int 1, .int xd], mz_up w 64 1 ((w 64 1) + 1))) rfl ?_
                    refine mz_doP (R := mz_r128) (as := [.int xd, .int 1, .int 40]) (rest := []) (r1 := some (.int 1)) (m1 := mz_up w 64 1 ((w 64 1) + 1)) rfl ((ct_in1 (m := mz_up w 64 1 ((w 64 1) + 1)) (v := xd) (a := 1) (b := 40) (show ¬ (xd < 1) from (sm_in_lo q2)) (show ¬ (40 < xd) from (sm_in_hi q2))).deep (by decide)) ?_
                    refine mz_goP 20 (c' := (83, [some (.ref 65), some (.int xa), some (.int xb), some (.int xc), some (.int xd), some (.int (xc / 10)), some (.int (xc - xc / 10 * 10)), some (.int 1), none, none], [.int (xb + (((xc - xc / 10 * 10) - 1) * xd)), .int (xa + (((xc / 10) - 1) * xd))], mz_up w 64 1 ((w 64 1) + 1))) rfl ?_
                    refine mz_doP (R := mz_r131) (as := [.int (xa + (((xc / 10) - 1) * xd)), .int (xb + (((xc - xc / 10 * 10) - 1) * xd))]) (rest := []) (r1 := some (.int 0)) (m1 := mz_up w 64 1 ((w 64 1) + 1)) rfl ⟨?_, rfl⟩ ?_
                    · refine mz_go 3 (c' := (5, [some (.int (xa + (((xc / 10) - 1) * xd))), some (.int (xb + (((xc - xc / 10 * 10) - 1) * xd)))], [.int 100, .int (-100), .int (xa + (((xc / 10) - 1) * xd))], mz_up w 64 1 ((w 64 1) + 1))) rfl ?_
                      refine mz_do (R := mz_r128) (as := [.int (xa + (((xc / 10) - 1) * xd)), .int (-100), .int 100]) (rest := []) (r1 := some (.int 1)) (m1 := mz_up w 64 1 ((w 64 1) + 1)) rfl ((ct_in1 (m := mz_up w 64 1 ((w 64 1) + 1)) (v := xa + (((xc / 10) - 1) * xd)) (a := (-100)) (b := 100) q11 q12).deep (by decide)) ?_
                      refine mz_go 4 (c' := (16, [some (.int (xa + (((xc / 10) - 1) * xd))), some (.int (xb + (((xc - xc / 10 * 10) - 1) * xd)))], [.int 100, .int (-100), .int (xb + (((xc - xc / 10 * 10) - 1) * xd))], mz_up w 64 1 ((w 64 1) + 1))) rfl ?_
                      refine mz_do (R := mz_r128) (as := [.int (xb + (((xc - xc / 10 * 10) - 1) * xd)), .int (-100), .int 100]) (rest := []) (r1 := some (.int 0)) (m1 := mz_up w 64 1 ((w 64 1) + 1)) rfl ((ct_inL (m := mz_up w 64 1 ((w 64 1) + 1)) (v := xb + (((xc - xc / 10 * 10) - 1) * xd)) (a := (-100)) (b := 100) q13).deep (by decide)) ?_
                      refine mz_go 2 (c' := (27, [some (.int (xa + (((xc / 10) - 1) * xd))), some (.int (xb + (((xc - xc / 10 * 10) - 1) * xd)))], [.int 0], mz_up w 64 1 ((w 64 1) + 1))) rfl ?_
                      exact mz_ret rfl
                    refine mz_goP 3 (c' := (91, [some (.ref 65), some (.int xa), some (.int xb), some (.int xc), some (.int xd), some (.int (xc / 10)), some (.int (xc - xc / 10 * 10)), some (.int 1), none, none], [.int 1, .ref 65], mz_up w 64 1 ((w 64 1) + 1))) rfl ?_
                    refine mz_doP (R := mz_r127) (as := [.ref 65, .int 1]) (rest := []) (r1 := some (.int (-1000001))) (m1 := mz_up (mz_up w 64 1 ((w 64 1) + 1)) 68 1 ((w 68 1) + 1)) rfl ((ct_err1 (m := mz_up w 64 1 ((w 64 1) + 1))).deep (by decide)) ?_
                    refine mz_retP (r := (some (.int ((-1000001))), mz_up (mz_up w 64 1 ((w 64 1) + 1)) 68 1 ((w 68 1) + 1))) rfl ⟨(-1000001), rfl, ?_, rfl⟩
                    show sm_I (n + 1) (mz_up (mz_up w 64 1 ((w 64 1) + 1)) 68 1 ((w 68 1) + 1))
                    exact sm_I_scr hn hI2 (fun i hi => by
                      have hne : ∀ r, sm_scr r = true → i ≠ r := fun r hr e => by
                        rw [e, hr] at hi
                        cases hi
                      simp only [mz_up_ne (hne 64 rfl), mz_up_ne (hne 68 rfl)]) rfl rfl
                  · by_cases q14 : 100 < (xb + (((xc - xc / 10 * 10) - 1) * xd))
                    · refine mz_doP (R := mz_r116) (as := [.int (xa + (((xc / 10) - 1) * xd)), .int (xb + (((xc - xc / 10 * 10) - 1) * xd))]) (rest := []) (r1 := some (.int 0)) (m1 := w) rfl ⟨?_, rfl⟩ ?_
                      · refine mz_go 3 (c' := (5, [some (.int (xa + (((xc / 10) - 1) * xd))), some (.int (xb + (((xc - xc / 10 * 10) - 1) * xd)))], [.int 100, .int (-100), .int (xa + (((xc / 10) - 1) * xd))], w)) rfl ?_
                        refine mz_do (R := mz_r121) (as := [.int (xa + (((xc / 10) - 1) * xd)), .int (-100), .int 100]) (rest := []) (r1 := some (.int 1)) (m1 := w) rfl ((cs_in1 (m := w) (v := xa + (((xc / 10) - 1) * xd)) (a := (-100)) (b := 100) q11 q12).deep (by decide)) ?_
                        refine mz_go 4 (c' := (16, [some (.int (xa + (((xc / 10) - 1) * xd))), some (.int (xb + (((xc - xc / 10 * 10) - 1) * xd)))], [.int 100, .int (-100), .int (xb + (((xc - xc / 10 * 10) - 1) * xd))], w)) rfl ?_
                        refine mz_do (R := mz_r121) (as := [.int (xb + (((xc - xc / 10 * 10) - 1) * xd)), .int (-100), .int 100]) (rest := []) (r1 := some (.int 0)) (m1 := w) rfl ((cs_inG (m := w) (v := xb + (((xc - xc / 10 * 10) - 1) * xd)) (a := (-100)) (b := 100) q13 q14).deep (by decide)) ?_
                        refine mz_go 2 (c' := (27, [some (.int (xa + (((xc / 10) - 1) * xd))), some (.int (xb + (((xc - xc / 10 * 10) - 1) * xd)))], [.int 0], w)) rfl ?_
                        exact mz_ret rfl
                      refine mz_goP 3 (c' := (79, [some (.ref 0), some (.int xa), some (.int xb), some (.int xc), some (.int xd), some (.int (xc / 10)), some (.int (xc - xc / 10 * 10)), none, none, none, none], [.int 1, .ref 0], w)) rfl ?_
                      refine mz_doP (R := mz_r109) (as := [.ref 0, .int 1]) (rest := []) (r1 := some (.int (-1000001))) (m1 := mz_up w 64 1 ((w 64 1) + 1)) rfl ((cs_err1 (m := w)).deep (by decide)) ?_
                      refine mz_retP (r := (some (.int ((-1000001))), mz_up w 64 1 ((w 64 1) + 1))) rfl ⟨(-1000001), rfl, ?_⟩
                      refine mz_goP 10 (c' := (14, [some (.ref 65), some (.int xa), some (.int xb), some (.int xc), some (.int xd), some (.int (xc / 10)), some (.int (xc - xc / 10 * 10)), none, none, none], [.int xb, .int xa], mz_up w 64 1 ((w 64 1) + 1))) rfl ?_
                      refine mz_doP (R := mz_r131) (as := [.int xa, .int xb]) (rest := []) (r1 := some (.int 1)) (m1 := mz_up w 64 1 ((w 64 1) + 1)) rfl ⟨?_, rfl⟩ ?_
                      · refine mz_go 3 (c' := (5, [some (.int xa), some (.int xb)], [.int 100, .int (-100), .int xa], mz_up w 64 1 ((w 64 1) + 1))) rfl ?_
                        refine mz_do (R := mz_r128) (as := [.int xa, .int (-100), .int 100]) (rest := []) (r1 := some (.int 1)) (m1 := mz_up w 64 1 ((w 64 1) + 1)) rfl ((ct_in1 (m := mz_up w 64 1 ((w 64 1) + 1)) (v := xa) (a := (-100)) (b := 100) (show ¬ (xa < (-100)) from (sm_plc_of q1).1.1) (show ¬ (100 < xa) from (sm_plc_of q1).1.2)).deep (by decide)) ?_
                        refine mz_go 4 (c' := (16, [some (.int xa), some (.int xb)], [.int 100, .int (-100), .int xb], mz_up w 64 1 ((w 64 1) + 1))) rfl ?_
                        refine mz_do (R := mz_r128) (as := [.int xb, .int (-100), .int 100]) (rest := []) (r1 := some (.int 1)) (m1 := mz_up w 64 1 ((w 64 1) + 1)) rfl ((ct_in1 (m := mz_up w 64 1 ((w 64 1) + 1)) (v := xb) (a := (-100)) (b := 100) (show ¬ (xb < (-100)) from (sm_plc_of q1).2.1) (show ¬ (100 < xb) from (sm_plc_of q1).2.2)).deep (by decide)) ?_
                        refine mz_go 3 (c' := (27, [some (.int xa), some (.int xb)], [.int 1], mz_up w 64 1 ((w 64 1) + 1))) rfl ?_
                        exact mz_ret rfl
                      refine mz_goP 4 (c' := (25, [some (.ref 65), some (.int xa), some (.int xb), some (.int xc), some (.int xd), some (.int (xc / 10)), some (.int (xc - xc / 10 * 10)), none, none, none], [.int 6, .int 1, .int (xc / 10)], mz_up w 64 1 ((w 64 1) + 1))) rfl ?_
                      refine mz_doP (R := mz_r128) (as := [.int (xc / 10), .int 1, .int 6]) (rest := []) (r1 := some (.int 1)) (m1 := mz_up w 64 1 ((w 64 1) + 1)) rfl ((ct_in1 (m := mz_up w 64 1 ((w 64 1) + 1)) (v := xc / 10) (a := 1) (b := 6) q7 q8).deep (by decide)) ?_
                      refine mz_goP 4 (c' := (36, [some (.ref 65), some (.int xa), some (.int xb), some (.int xc), some (.int xd), some (.int (xc / 10)), some (.int (xc - xc / 10 * 10)), none, none, none], [.int 6, .int 1, .int (xc - xc / 10 * 10)], mz_up w 64 1 ((w 64 1) + 1))) rfl ?_
                      refine mz_doP (R := mz_r128) (as := [.int (xc - xc / 10 * 10), .int 1, .int 6]) (rest := []) (r1 := some (.int 1)) (m1 := mz_up w 64 1 ((w 64 1) + 1)) rfl ((ct_in1 (m := mz_up w 64 1 ((w 64 1) + 1)) (v := xc - xc / 10 * 10) (a := 1) (b := 6) q9 q10).deep (by decide)) ?_
                      refine mz_goP 4 (c' := (47, [some (.ref 65), some (.int xa), some (.int xb), some (.int xc), some (.int xd), some (.int (xc / 10)), some (.int (xc - xc / 10 * 10)), none, none, none], [.int 40, .int 1, .int xd], mz_up w 64 1 ((w 64 1) + 1))) rfl ?_
                      refine mz_doP (R := mz_r128) (as := [.int xd, .int 1, .int 40]) (rest := []) (r1 := some (.int 1)) (m1 := mz_up w 64 1 ((w 64 1) + 1)) rfl ((ct_in1 (m := mz_up w 64 1 ((w 64 1) + 1)) (v := xd) (a := 1) (b := 40) (show ¬ (xd < 1) from (sm_in_lo q2)) (show ¬ (40 < xd) from (sm_in_hi q2))).deep (by decide)) ?_
                      refine mz_goP 20 (c' := (83, [some (.ref 65), some (.int xa), some (.int xb), some (.int xc), some (.int xd), some (.int (xc / 10)), some (.int (xc - xc / 10 * 10)), some (.int 1), none, none], [.int (xb + (((xc - xc / 10 * 10) - 1) * xd)), .int (xa + (((xc / 10) - 1) * xd))], mz_up w 64 1 ((w 64 1) + 1))) rfl ?_
                      refine mz_doP (R := mz_r131) (as := [.int (xa + (((xc / 10) - 1) * xd)), .int (xb + (((xc - xc / 10 * 10) - 1) * xd))]) (rest := []) (r1 := some (.int 0)) (m1 := mz_up w 64 1 ((w 64 1) + 1)) rfl ⟨?_, rfl⟩ ?_
                      · refine mz_go 3 (c' := (5, [some (.int (xa + (((xc / 10) - 1) * xd))), some (.int (xb + (((xc - xc / 10 * 10) - 1) * xd)))], [.int 100, .int (-100), .int (xa + (((xc / 10) - 1) * xd))], mz_up w 64 1 ((w 64 1) + 1))) rfl ?_
                        refine mz_do (R := mz_r128) (as := [.int (xa + (((xc / 10) - 1) * xd)), .int (-100), .int 100]) (rest := []) (r1 := some (.int 1)) (m1 := mz_up w 64 1 ((w 64 1) + 1)) rfl ((ct_in1 (m := mz_up w 64 1 ((w 64 1) + 1)) (v := xa + (((xc / 10) - 1) * xd)) (a := (-100)) (b := 100) q11 q12).deep (by decide)) ?_
                        refine mz_go 4 (c' := (16, [some (.int (xa + (((xc / 10) - 1) * xd))), some (.int (xb + (((xc - xc / 10 * 10) - 1) * xd)))], [.int 100, .int (-100), .int (xb + (((xc - xc / 10 * 10) - 1) * xd))], mz_up w 64 1 ((w 64 1) + 1))) rfl ?_
                        refine mz_do (R := mz_r128) (as := [.int (xb + (((xc - xc / 10 * 10) - 1) * xd)), .int (-100), .int 100]) (rest := []) (r1 := some (.int 0)) (m1 := mz_up w 64 1 ((w 64 1) + 1)) rfl ((ct_inG (m := mz_up w 64 1 ((w 64 1) + 1)) (v := xb + (((xc - xc / 10 * 10) - 1) * xd)) (a := (-100)) (b := 100) q13 q14).deep (by decide)) ?_
                        refine mz_go 2 (c' := (27, [some (.int (xa + (((xc / 10) - 1) * xd))), some (.int (xb + (((xc - xc / 10 * 10) - 1) * xd)))], [.int 0], mz_up w 64 1 ((w 64 1) + 1))) rfl ?_
                        exact mz_ret rfl
                      refine mz_goP 3 (c' := (91, [some (.ref 65), some (.int xa), some (.int xb), some (.int xc), some (.int xd), some (.int (xc / 10)), some (.int (xc - xc / 10 * 10)), some (.int 1), none, none], [.int 1, .ref 65], mz_up w 64 1 ((w 64 1) + 1))) rfl ?_
                      refine mz_doP (R := mz_r127) (as := [.ref 65, .int 1]) (rest := []) (r1 := some (.int (-1000001))) (m1 := mz_up (mz_up w 64 1 ((w 64 1) + 1)) 68 1 ((w 68 1) + 1)) rfl ((ct_err1 (m := mz_up w 64 1 ((w 64 1) + 1))).deep (by decide)) ?_
                      refine mz_retP (r := (some (.int ((-1000001))), mz_up (mz_up w 64 1 ((w 64 1) + 1)) 68 1 ((w 68 1) + 1))) rfl ⟨(-1000001), rfl, ?_, rfl⟩
                      show sm_I (n + 1) (mz_up (mz_up w 64 1 ((w 64 1) + 1)) 68 1 ((w 68 1) + 1))
                      exact sm_I_scr hn hI2 (fun i hi => by
                        have hne : ∀ r, sm_scr r = true → i ≠ r := fun r hr e => by
                          rw [e, hr] at hi
                          cases hi
                        simp only [mz_up_ne (hne 64 rfl), mz_up_ne (hne 68 rfl)]) rfl rfl
                    · refine mz_doP (R := mz_r116) (as := [.int (xa + (((xc / 10) - 1) * xd)), .int (xb + (((xc - xc / 10 * 10) - 1) * xd))]) (rest := []) (r1 := some (.int 1)) (m1 := w) rfl ⟨?_, rfl⟩ ?_
                      · refine mz_go 3 (c' := (5, [some (.int (xa + (((xc / 10) - 1) * xd))), some (.int (xb + (((xc - xc / 10 * 10) - 1) * xd)))], [.int 100, .int (-100), .int (xa + (((xc / 10) - 1) * xd))], w)) rfl ?_
                        refine mz_do (R := mz_r121) (as := [.int (xa + (((xc / 10) - 1) * xd)), .int (-100), .int 100]) (rest := []) (r1 := some (.int 1)) (m1 := w) rfl ((cs_in1 (m := w) (v := xa + (((xc / 10) - 1) * xd)) (a := (-100)) (b := 100) q11 q12).deep (by decide)) ?_
                        refine mz_go 4 (c' := (16, [some (.int (xa + (((xc / 10) - 1) * xd))), some (.int (xb + (((xc - xc / 10 * 10) - 1) * xd)))], [.int 100, .int (-100), .int (xb + (((xc - xc / 10 * 10) - 1) * xd))], w)) rfl ?_
                        refine mz_do (R := mz_r121) (as := [.int (xb + (((xc - xc / 10 * 10) - 1) * xd)), .int (-100), .int 100]) (rest := []) (r1 := some (.int 1)) (m1 := w) rfl ((cs_in1 (m := w) (v := xb + (((xc - xc / 10 * 10) - 1) * xd)) (a := (-100)) (b := 100) q13 q14).deep (by decide)) ?_
                        refine mz_go 3 (c' := (27, [some (.int (xa + (((xc / 10) - 1) * xd))), some (.int (xb + (((xc - xc / 10 * 10) - 1) * xd)))], [.int 1], w)) rfl ?_
                        exact mz_ret rfl
                      refine mz_goP 11 (c' := (102, [some (.ref 0), some (.int xa), some (.int xb), some (.int xc), some (.int xd), some (.int (xc / 10)), some (.int (xc - xc / 10 * 10)), some (.ref 20), none, none, none], [.int xd, .int (xc - xc / 10 * 10), .int (xc / 10), .int xb, .int xa, .ref 20], w)) rfl ?_
                      refine mz_doP (R := mz_r5) (as := [.ref 20, .int xa, .int xb, .int (xc / 10), .int (xc - xc / 10 * 10), .int xd]) (rest := []) (r1 := none) (m1 := mz_up (mz_up (mz_up (mz_up (mz_up w 20 0 xa) 20 1 xb) 20 2 (xc / 10)) 20 3 (xc - xc / 10 * 10)) 20 4 xd) rfl ⟨?_, rfl⟩ ?_
                      · refine mz_go 15 (c' := (27, [some (.ref 20), some (.int xa), some (.int xb), some (.int (xc / 10)), some (.int (xc - xc / 10 * 10)), some (.int xd)], [], mz_up (mz_up (mz_up (mz_up (mz_up w 20 0 xa) 20 1 xb) 20 2 (xc / 10)) 20 3 (xc - xc / 10 * 10)) 20 4 xd)) rfl ?_
                        exact mz_ret rfl
                      refine mz_goP 2 (c' := (108, [some (.ref 0), some (.int xa), some (.int xb), some (.int xc), some (.int xd), some (.int (xc / 10)), some (.int (xc - xc / 10 * 10)), some (.ref 20), some (.int 0), none, none], [], mz_up (mz_up (mz_up (mz_up (mz_up w 20 0 xa) 20 1 xb) 20 2 (xc / 10)) 20 3 (xc - xc / 10 * 10)) 20 4 xd)) rfl ?_
                      obtain ⟨PW, hPW1, hPW6, ePW⟩ := sm_rngN (x := xc / 10) (a := 1) (b := 6) (by decide) (by decide) q7 q8
                      obtain ⟨PH, hPH1, hPH6, ePH⟩ := sm_rngN (x := xc - xc / 10 * 10) (a := 1) (b := 6) (by decide) (by decide) q9 q10
                      obtain ⟨PS, hPS1, hPS, ePS⟩ := sm_rngN (x := xd) (a := 1) (b := 40) (by decide) (by decide) (sm_in_lo q2) (sm_in_hi q2)
                      have hBX : ∀ k, k < PW → sm_B 100 (xa + nI k * xd) := fun k hk => sm_picB (sm_B_of (sm_plc_of q1).1.1 (sm_plc_of q1).1.2) (sm_B_of q11 q12) ePW ePS hPW1 hPW6 hPS hk
                      have hBY : ∀ k, k < PH → sm_B 100 (xb + nI k * xd) := fun k hk => sm_picB (sm_B_of (sm_plc_of q1).2.1 (sm_plc_of q1).2.2) (sm_B_of q13 q14) ePH ePS hPH1 hPH6 hPS hk
                      obtain ⟨rP, fP, gP, p9, pp, EP⟩ := cs_picj (m := mz_up (mz_up (mz_up (mz_up (mz_up w 20 0 xa) 20 1 xb) 20 2 (nI PW)) 20 3 (nI PH)) 20 4 xd) (w := w) (sm_Wl_u (by decide) (sm_Wl_u (by decide) (sm_Wl_u (by decide) (sm_Wl_u (by decide) (sm_Wl_u (by decide) (sm_Wl_r w)))))) hw hr5 hr80 (W := PW) (H := PH) hPW6 hPH6 rfl rfl (xc := xc) hBX hBY PH 0 (by omega) (w 50) (w 51) (w 52) none none
                      rw [sm_pic_0, sm_pic_0, show mz_set (mz_set (mz_set (mz_set (mz_set (mz_up (mz_up (mz_up (mz_up (mz_up w 20 0 xa) 20 1 xb) 20 2 (nI PW)) 20 3 (nI PH)) 20 4 xd) 21 ((mz_up (mz_up (mz_up (mz_up (mz_up w 20 0 xa) 20 1 xb) 20 2 (nI PW)) 20 3 (nI PH)) 20 4 xd) 21)) 22 ((mz_up (mz_up (mz_up (mz_up (mz_up w 20 0 xa) 20 1 xb) 20 2 (nI PW)) 20 3 (nI PH)) 20 4 xd) 22)) 50 (w 50)) 51 (w 51)) 52 (w 52) = mz_up (mz_up (mz_up (mz_up (mz_up w 20 0 xa) 20 1 xb) 20 2 (nI PW)) 20 3 (nI PH)) 20 4 xd from (sm_of5 (fun i _ _ _ _ _ => rfl)).symm] at EP
                      rw [ePH, ePW]
                      refine mz_hkP EP ?_
                      refine mz_goP 1 (c' := (194, [some (.ref 0), some (.int xa), some (.int xb), some (.int xc), some (.int xd), some (.int (nI PW)), some (.int (nI PH)), some (.ref 20), some (.int (nI PH)), p9, pp], [.ref 20], mz_set (mz_set (mz_set (mz_set (mz_set (mz_up (mz_up (mz_up (mz_up (mz_up w 20 0 xa) 20 1 xb) 20 2 (nI PW)) 20 3 (nI PH)) 20 4 xd) 21 (sm_pic PW PH 0 (fun i j => sm_end w (w 7 5) (xa + nI i * xd) (xb + nI j * xd) 0 0) ((mz_up (mz_up (mz_up (mz_up (mz_up w 20 0 xa) 20 1 xb) 20 2 (nI PW)) 20 3 (nI PH)) 20 4 xd) 21))) 22 (sm_pic PW PH 0 (fun i j => sm_last w (w 7 5) (xa + nI i * xd) (xb + nI j * xd) 0 0 4) ((mz_up (mz_up (mz_up (mz_up (mz_up w 20 0 xa) 20 1 xb) 20 2 (nI PW)) 20 3 (nI PH)) 20 4 xd) 22))) 50 rP) 51 fP) 52 gP)) rfl ?_
                      have Ee1 := vc_cols (w := mz_set (mz_set (mz_set (mz_set (mz_set (mz_up (mz_up (mz_up (mz_up (mz_up w 20 0 xa) 20 1 xb) 20 2 (nI PW)) 20 3 (nI PH)) 20 4 xd) 21 (sm_pic PW PH 0 (fun i j => sm_end w (w 7 5) (xa + nI i * xd) (xb + nI j * xd) 0 0) ((mz_up (mz_up (mz_up (mz_up (mz_up w 20 0 xa) 20 1 xb) 20 2 (nI PW)) 20 3 (nI PH)) 20 4 xd) 21))) 22 (sm_pic PW PH 0 (fun i j => sm_last w (w 7 5) (xa + nI i * xd) (xb + nI j * xd) 0 0 4) ((mz_up (mz_up (mz_up (mz_up (mz_up w 20 0 xa) 20 1 xb) 20 2 (nI PW)) 20 3 (nI PH)) 20 4 xd) 22))) 50 rP) 51 fP) 52 gP) (WW := PW) (HH := PH) hPW6 hPH6 rfl rfl
                      refine mz_doP (R := mz_r11) (as := [.ref 20]) (rest := []) (r1 := some (.int (vq_fn (fun c s => s + vq_gz (vq_ar (sm_pic PW PH 0 (fun i j => sm_end w (w 7 5) (xa + nI i * xd) (xb + nI j * xd) 0 0) ((mz_up (mz_up (mz_up (mz_up (mz_up w 20 0 xa) 20 1 xb) 20 2 (nI PW)) 20 3 (nI PH)) 20 4 xd) 21)) PW PH 0 0 6 (nI c))) 10 0 0))) (m1 := mz_set (mz_set (mz_set (mz_set (mz_set (mz_up (mz_up (mz_up (mz_up (mz_up w 20 0 xa) 20 1 xb) 20 2 (nI PW)) 20 3 (nI PH)) 20 4 xd) 21 (sm_pic PW PH 0 (fun i j => sm_end w (w 7 5) (xa + nI i * xd) (xb + nI j * xd) 0 0) ((mz_up (mz_up (mz_up (mz_up (mz_up w 20 0 xa) 20 1 xb) 20 2 (nI PW)) 20 3 (nI PH)) 20 4 xd) 21))) 22 (sm_pic PW PH 0 (fun i j => sm_last w (w 7 5) (xa + nI i * xd) (xb + nI j * xd) 0 0 4) ((mz_up (mz_up (mz_up (mz_up (mz_up w 20 0 xa) 20 1 xb) 20 2 (nI PW)) 20 3 (nI PH)) 20 4 xd) 22))) 50 rP) 51 fP) 52 gP) rfl (Ee1.deep (by decide)) ?_
                      refine mz_retP (r := (some (.int (vq_fn (fun c s => s + vq_gz (vq_ar (sm_pic PW PH 0 (fun i j => sm_end w (w 7 5) (xa + nI i * xd) (xb + nI j * xd) 0 0) ((mz_up (mz_up (mz_up (mz_up (mz_up w 20 0 xa) 20 1 xb) 20 2 (nI PW)) 20 3 (nI PH)) 20 4 xd) 21)) PW PH 0 0 6 (nI c))) 10 0 0)), mz_set (mz_set (mz_set (mz_set (mz_set (mz_up (mz_up (mz_up (mz_up (mz_up w 20 0 xa) 20 1 xb) 20 2 (nI PW)) 20 3 (nI PH)) 20 4 xd) 21 (sm_pic PW PH 0 (fun i j => sm_end w (w 7 5) (xa + nI i * xd) (xb + nI j * xd) 0 0) ((mz_up (mz_up (mz_up (mz_up (mz_up w 20 0 xa) 20 1 xb) 20 2 (nI PW)) 20 3 (nI PH)) 20 4 xd) 21))) 22 (sm_pic PW PH 0 (fun i j => sm_last w (w 7 5) (xa + nI i * xd) (xb + nI j * xd) 0 0 4) ((mz_up (mz_up (mz_up (mz_up (mz_up w 20 0 xa) 20 1 xb) 20 2 (nI PW)) 20 3 (nI PH)) 20 4 xd) 22))) 50 rP) 51 fP) 52 gP)) rfl ⟨vq_fn (fun c s => s + vq_gz (vq_ar (sm_pic PW PH 0 (fun i j => sm_end w (w 7 5) (xa + nI i * xd) (xb + nI j * xd) 0 0) ((mz_up (mz_up (mz_up (mz_up (mz_up w 20 0 xa) 20 1 xb) 20 2 (nI PW)) 20 3 (nI PH)) 20 4 xd) 21)) PW PH 0 0 6 (nI c))) 10 0 0, rfl, ?_⟩
                      refine mz_goP 10 (c' := (14, [some (.ref 65), some (.int xa), some (.int xb), some (.int xc), some (.int xd), some (.int (xc / 10)), some (.int (xc - xc / 10 * 10)), none, none, none], [.int xb, .int xa], mz_set (mz_set (mz_set (mz_set (mz_set (mz_up (mz_up (mz_up (mz_up (mz_up w 20 0 xa) 20 1 xb) 20 2 (nI PW)) 20 3 (nI PH)) 20 4 xd) 21 (sm_pic PW PH 0 (fun i j => sm_end w (w 7 5) (xa + nI i * xd) (xb + nI j * xd) 0 0) ((mz_up (mz_up (mz_up (mz_up (mz_up w 20 0 xa) 20 1 xb) 20 2 (nI PW)) 20 3 (nI PH)) 20 4 xd) 21))) 22 (sm_pic PW PH 0 (fun i j => sm_last w (w 7 5) (xa + nI i * xd) (xb + nI j * xd) 0 0 4) ((mz_up (mz_up (mz_up (mz_up (mz_up w 20 0 xa) 20 1 xb) 20 2 (nI PW)) 20 3 (nI PH)) 20 4 xd) 22))) 50 rP) 51 fP) 52 gP)) rfl ?_
                      refine mz_doP (R := mz_r131) (as := [.int xa, .int xb]) (rest := []) (r1 := some (.int 1)) (m1 := mz_set (mz_set (mz_set (mz_set (mz_set (mz_up (mz_up (mz_up (mz_up (mz_up w 20 0 xa) 20 1 xb) 20 2 (nI PW)) 20 3 (nI PH)) 20 4 xd) 21 (sm_pic PW PH 0 (fun i j => sm_end w (w 7 5) (xa + nI i * xd) (xb + nI j * xd) 0 0) ((mz_up (mz_up (mz_up (mz_up (mz_up w 20 0 xa) 20 1 xb) 20 2 (nI PW)) 20 3 (nI PH)) 20 4 xd) 21))) 22 (sm_pic PW PH 0 (fun i j => sm_last w (w 7 5) (xa + nI i * xd) (xb + nI j * xd) 0 0 4) ((mz_up (mz_up (mz_up (mz_up (mz_up w 20 0 xa) 20 1 xb) 20 2 (nI PW)) 20 3 (nI PH)) 20 4 xd) 22))) 50 rP) 51 fP) 52 gP) rfl ⟨?_, rfl⟩ ?_
                      · refine mz_go 3 (c' := (5, [some (.int xa), some (.int xb)], [.int 100, .int (-100), .int xa], mz_set (mz_set (mz_set (mz_set (mz_set (mz_up (mz_up (mz_up (mz_up (mz_up w 20 0 xa) 20 1 xb) 20 2 (nI PW)) 20 3 (nI PH)) 20 4 xd) 21 (sm_pic PW PH 0 (fun i j => sm_end w (w 7 5) (xa + nI i * xd) (xb + nI j * xd) 0 0) ((mz_up (mz_up (mz_up (mz_up (mz_up w 20 0 xa) 20 1 xb) 20 2 (nI PW)) 20 3 (nI PH)) 20 4 xd) 21))) 22 (sm_pic PW PH 0 (fun i j => sm_last w (w 7 5) (xa + nI i * xd) (xb + nI j * xd) 0 0 4) ((mz_up (mz_up (mz_up (mz_up (mz_up w 20 0 xa) 20 1 xb) 20 2 (nI PW)) 20 3 (nI PH)) 20 4 xd) 22))) 50 rP) 51 fP) 52 gP)) rfl ?_
                        refine mz_do (R := mz_r128) (as := [.int xa, .int (-100), .int 100]) (rest := []) (r1 := some (.int 1)) (m1 := mz_set (mz_set (mz_set (mz_set (mz_set (mz_up (mz_up (mz_up (mz_up (mz_up w 20 0 xa) 20 1 xb) 20 2 (nI PW)) 20 3 (nI PH)) 20 4 xd) 21 (sm_pic PW PH 0 (fun i j => sm_end w (w 7 5) (xa + nI i * xd) (xb + nI j * xd) 0 0) ((mz_up (mz_up (mz_up (mz_up (mz_up w 20 0 xa) 20 1 xb) 20 2 (nI PW)) 20 3 (nI PH)) 20 4 xd) 21))) 22 (sm_pic PW PH 0 (fun i j => sm_last w (w 7 5) (xa + nI i * xd) (xb + nI j * xd) 0 0 4) ((mz_up (mz_up (mz_up (mz_up (mz_up w 20 0 xa) 20 1 xb) 20 2 (nI PW)) 20 3 (nI PH)) 20 4 xd) 22))) 50 rP) 51 fP) 52 gP) rfl ((ct_in1 (m := mz_set (mz_set (mz_set (mz_set (mz_set (mz_up (mz_up (mz_up (mz_up (mz_up w 20 0 xa) 20 1 xb) 20 2 (nI PW)) 20 3 (nI PH)) 20 4 xd) 21 (sm_pic PW PH 0 (fun i j => sm_end w (w 7 5) (xa + nI i * xd) (xb + nI j * xd) 0 0) ((mz_up (mz_up (mz_up (mz_up (mz_up w 20 0 xa) 20 1 xb) 20 2 (nI PW)) 20 3 (nI PH)) 20 4 xd) 21))) 22 (sm_pic PW PH 0 (fun i j => sm_last w (w 7 5) (xa + nI i * xd) (xb + nI j * xd) 0 0 4) ((mz_up (mz_up (mz_up (mz_up (mz_up w 20 0 xa) 20 1 xb) 20 2 (nI PW)) 20 3 (nI PH)) 20 4 xd) 22))) 50 rP) 51 fP) 52 gP) (v := xa) (a := (-100)) (b := 100) (show ¬ (xa < (-100)) from (sm_plc_of q1).1.1) (show ¬ (100 < xa) from (sm_plc_of q1).1.2)).deep (by decide)) ?_
                        refine mz_go 4 (c' := (16, [some (.int xa), some (.int xb)], [.int 100, .int (-100), .int xb], mz_set (mz_set (mz_set (mz_set (mz_set (mz_up (mz_up (mz_up (mz_up (mz_up w 20 0 xa) 20 1 xb) 20 2 (nI PW)) 20 3 (nI PH)) 20 4 xd) 21 (sm_pic PW PH 0 (fun i j => sm_end w (w 7 5) (xa + nI i * xd) (xb + nI j * xd) 0 0) ((mz_up (mz_up (mz_up (mz_up (mz_up w 20 0 xa) 20 1 xb) 20 2 (nI PW)) 20 3 (nI PH)) 20 4 xd) 21))) 22 (sm_pic PW PH 0 (fun i j => sm_last w (w 7 5) (xa + nI i * xd) (xb + nI j * xd) 0 0 4) ((mz_up (mz_up (mz_up (mz_up (mz_up w 20 0 xa) 20 1 xb) 20 2 (nI PW)) 20 3 (nI PH)) 20 4 xd) 22))) 50 rP) 51 fP) 52 gP)) rfl ?_
                        refine mz_do (R := mz_r128) (as := [.int xb, .int (-100), .int 100]) (rest := []) (r1 := some (.int 1)) (m1 := mz_set (mz_set (mz_set (mz_set (mz_set (mz_up (mz_up (mz_up (mz_up (mz_up w 20 0 xa) 20 1 xb) 20 2 (nI PW)) 20 3 (nI PH)) 20 4 xd) 21 (sm_pic PW PH 0 (fun i j => sm_end w (w 7 5) (xa + nI i * xd) (xb + nI j * xd) 0 0) ((mz_up (mz_up (mz_up (mz_up (mz_up w 20 0 xa) 20 1 xb) 20 2 (nI PW)) 20 3 (nI PH)) 20 4 xd) 21))) 22 (sm_pic PW PH 0 (fun i j => sm_last w (w 7 5) (xa + nI i * xd) (xb + nI j * xd) 0 0 4) ((mz_up (mz_up (mz_up (mz_up (mz_up w 20 0 xa) 20 1 xb) 20 2 (nI PW)) 20 3 (nI PH)) 20 4 xd) 22))) 50 rP) 51 fP) 52 gP) rfl ((ct_in1 (m := mz_set (mz_set (mz_set (mz_set (mz_set (mz_up (mz_up (mz_up (mz_up (mz_up w 20 0 xa) 20 1 xb) 20 2 (nI PW)) 20 3 (nI PH)) 20 4 xd) 21 (sm_pic PW PH 0 (fun i j => sm_end w (w 7 5) (xa + nI i * xd) (xb + nI j * xd) 0 0) ((mz_up (mz_up (mz_up (mz_up (mz_up w 20 0 xa) 20 1 xb) 20 2 (nI PW)) 20 3 (nI PH)) 20 4 xd) 21))) 22 (sm_pic PW PH 0 (fun i j => sm_last w (w 7 5) (xa + nI i * xd) (xb + nI j * xd) 0 0 4) ((mz_up (mz_up (mz_up (mz_up (mz_up w 20 0 xa) 20 1 xb) 20 2 (nI PW)) 20 3 (nI PH)) 20 4 xd) 22))) 50 rP) 51 fP) 52 gP) (v := xb) (a := (-100)) (b := 100) (show ¬ (xb < (-100)) from (sm_plc_of q1).2.1) (show ¬ (100 < xb) from (sm_plc_of q1).2.2)).deep (by decide)) ?_
                        refine mz_go 3 (c' := (27, [some (.int xa), some (.int xb)], [.int 1], mz_set (mz_set (mz_set (mz_set (mz_set (mz_up (mz_up (mz_up (mz_up (mz_up w 20 0 xa) 20 1 xb) 20 2 (nI PW)) 20 3 (nI PH)) 20 4 xd) 21 (sm_pic PW PH 0 (fun i j => sm_end w (w 7 5) (xa + nI i * xd) (xb + nI j * xd) 0 0) ((mz_up (mz_up (mz_up (mz_up (mz_up w 20 0 xa) 20 1 xb) 20 2 (nI PW)) 20 3 (nI PH)) 20 4 xd) 21))) 22 (sm_pic PW PH 0 (fun i j => sm_last w (w 7 5) (xa + nI i * xd) (xb + nI j * xd) 0 0 4) ((mz_up (mz_up (mz_up (mz_up (mz_up w 20 0 xa) 20 1 xb) 20 2 (nI PW)) 20 3 (nI PH)) 20 4 xd) 22))) 50 rP) 51 fP) 52 gP)) rfl ?_
                        exact mz_ret rfl
                      refine mz_goP 4 (c' := (25, [some (.ref 65), some (.int xa), some (.int xb), some (.int xc), some (.int xd), some (.int (xc / 10)), some (.int (xc - xc / 10 * 10)), none, none, none], [.int 6, .int 1, .int (xc / 10)], mz_set (mz_set (mz_set (mz_set (mz_set (mz_up (mz_up (mz_up (mz_up (mz_up w 20 0 xa) 20 1 xb) 20 2 (nI PW)) 20 3 (nI PH)) 20 4 xd) 21 (sm_pic PW PH 0 (fun i j => sm_end w (w 7 5) (xa + nI i * xd) (xb + nI j * xd) 0 0) ((mz_up (mz_up (mz_up (mz_up (mz_up w 20 0 xa) 20 1 xb) 20 2 (nI PW)) 20 3 (nI PH)) 20 4 xd) 21))) 22 (sm_pic PW PH 0 (fun i j => sm_last w (w 7 5) (xa + nI i * xd) (xb + nI j * xd) 0 0 4) ((mz_up (mz_up (mz_up (mz_up (mz_up w 20 0 xa) 20 1 xb) 20 2 (nI PW)) 20 3 (nI PH)) 20 4 xd) 22))) 50 rP) 51 fP) 52 gP)) rfl ?_
                      refine mz_doP (R := mz_r128) (as := [.int (xc / 10), .int 1, .int 6]) (rest := []) (r1 := some (.int 1)) (m1 := mz_set (mz_set (mz_set (mz_set (mz_set (mz_up (mz_up (mz_up (mz_up (mz_up w 20 0 xa) 20 1 xb) 20 2 (nI PW)) 20 3 (nI PH)) 20 4 xd) 21 (sm_pic PW PH 0 (fun i j => sm_end w (w 7 5) (xa + nI i * xd) (xb + nI j * xd) 0 0) ((mz_up (mz_up (mz_up (mz_up (mz_up w 20 0 xa) 20 1 xb) 20 2 (nI PW)) 20 3 (nI PH)) 20 4 xd) 21))) 22 (sm_pic PW PH 0 (fun i j => sm_last w (w 7 5) (xa + nI i * xd) (xb + nI j * xd) 0 0 4) ((mz_up (mz_up (mz_up (mz_up (mz_up w 20 0 xa) 20 1 xb) 20 2 (nI PW)) 20 3 (nI PH)) 20 4 xd) 22))) 50 rP) 51 fP) 52 gP) rfl ((ct_in1 (m := mz_set (mz_set (mz_set (mz_set (mz_set (mz_up (mz_up (mz_up (mz_up (mz_up w 20 0 xa) 20 1 xb) 20 2 (nI PW)) 20 3 (nI PH)) 20 4 xd) 21 (sm_pic PW PH 0 (fun i j => sm_end w (w 7 5) (xa + nI i * xd) (xb + nI j * xd) 0 0) ((mz_up (mz_up (mz_up (mz_up (mz_up w 20 0 xa) 20 1 xb) 20 2 (nI PW)) 20 3 (nI PH)) 20 4 xd) 21))) 22 (sm_pic PW PH 0 (fun i j => sm_last w (w 7 5) (xa + nI i * xd) (xb + nI j * xd) 0 0 4) ((mz_up (mz_up (mz_up (mz_up (mz_up w 20 0 xa) 20 1 xb) 20 2 (nI PW)) 20 3 (nI PH)) 20 4 xd) 22))) 50 rP) 51 fP) 52 gP) (v := xc / 10) (a := 1) (b := 6) q7 q8).deep (by decide)) ?_
                      refine mz_goP 4 (c' := (36, [some (.ref 65), some (.int xa), some (.int xb), some (.int xc), some (.int xd), some (.int (xc / 10)), some (.int (xc - xc / 10 * 10)), none, none, none], [.int 6, .int 1, .int (xc - xc / 10 * 10)], mz_set (mz_set (mz_set (mz_set (mz_set (mz_up (mz_up (mz_up (mz_up (mz_up w 20 0 xa) 20 1 xb) 20 2 (nI PW)) 20 3 (nI PH)) 20 4 xd) 21 (sm_pic PW PH 0 (fun i j => sm_end w (w 7 5) (xa + nI i * xd) (xb + nI j * xd) 0 0) ((mz_up (mz_up (mz_up (mz_up (mz_up w 20 0 xa) 20 1 xb) 20 2 (nI PW)) 20 3 (nI PH)) 20 4 xd) 21))) 22 (sm_pic PW PH 0 (fun i j => sm_last w (w 7 5) (xa + nI i * xd) (xb + nI j * xd) 0 0 4) ((mz_up (mz_up (mz_up (mz_up (mz_up w 20 0 xa) 20 1 xb) 20 2 (nI PW)) 20 3 (nI PH)) 20 4 xd) 22))) 50 rP) 51 fP) 52 gP)) rfl ?_
                      refine mz_doP (R := mz_r128) (as := [.int (xc - xc / 10 * 10), .int 1, .int 6]) (rest := []) (r1 := some (.int 1)) (m1 := mz_set (mz_set (mz_set (mz_set (mz_set (mz_up (mz_up (mz_up (mz_up (mz_up w 20 0 xa) 20 1 xb) 20 2 (nI PW)) 20 3 (nI PH)) 20 4 xd) 21 (sm_pic PW PH 0 (fun i j => sm_end w (w 7 5) (xa + nI i * xd) (xb + nI j * xd) 0 0) ((mz_up (mz_up (mz_up (mz_up (mz_up w 20 0 xa) 20 1 xb) 20 2 (nI PW)) 20 3 (nI PH)) 20 4 xd) 21))) 22 (sm_pic PW PH 0 (fun i j => sm_last w (w 7 5) (xa + nI i * xd) (xb + nI j * xd) 0 0 4) ((mz_up (mz_up (mz_up (mz_up (mz_up w 20 0 xa) 20 1 xb) 20 2 (nI PW)) 20 3 (nI PH)) 20 4 xd) 22))) 50 rP) 51 fP) 52 gP) rfl ((ct_in1 (m := mz_set (mz_set (mz_set (mz_set (mz_set (mz_up (mz_up (mz_up (mz_up (mz_up w 20 0 xa) 20 1 xb) 20 2 (nI PW)) 20 3 (nI PH)) 20 4 xd) 21 (sm_pic PW PH 0 (fun i j => sm_end w (w 7 5) (xa + nI i * xd) (xb + nI j * xd) 0 0) ((mz_up (mz_up (mz_up (mz_up (mz_up w 20 0 xa) 20 1 xb) 20 2 (nI PW)) 20 3 (nI PH)) 20 4 xd) 21))) 22 (sm_pic PW PH 0 (fun i j => sm_last w (w 7 5) (xa + nI i * xd) (xb + nI j * xd) 0 0 4) ((mz_up (mz_up (mz_up (mz_up (mz_up w 20 0 xa) 20 1 xb) 20 2 (nI PW)) 20 3 (nI PH)) 20 4 xd) 22))) 50 rP) 51 fP) 52 gP) (v := xc - xc / 10 * 10) (a := 1) (b := 6) q9 q10).deep (by decide)) ?_
                      refine mz_goP 4 (c' := (47, [some (.ref 65), some (.int xa), some (.int xb), some (.int xc), some (.int xd), some (.int (xc / 10)), some (.int (xc - xc / 10 * 10)), none, none, none], [.int 40, .int 1, .int xd], mz_set (mz_set (mz_set (mz_set (mz_set (mz_up (mz_up (mz_up (mz_up (mz_up w 20 0 xa) 20 1 xb) 20 2 (nI PW)) 20 3 (nI PH)) 20 4 xd) 21 (sm_pic PW PH 0 (fun i j => sm_end w (w 7 5) (xa + nI i * xd) (xb + nI j * xd) 0 0) ((mz_up (mz_up (mz_up (mz_up (mz_up w 20 0 xa) 20 1 xb) 20 2 (nI PW)) 20 3 (nI PH)) 20 4 xd) 21))) 22 (sm_pic PW PH 0 (fun i j => sm_last w (w 7 5) (xa + nI i * xd) (xb + nI j * xd) 0 0 4) ((mz_up (mz_up (mz_up (mz_up (mz_up w 20 0 xa) 20 1 xb) 20 2 (nI PW)) 20 3 (nI PH)) 20 4 xd) 22))) 50 rP) 51 fP) 52 gP)) rfl ?_
                      refine mz_doP (R := mz_r128) (as := [.int xd, .int 1, .int 40]) (rest := []) (r1 := some (.int 1)) (m1 := mz_set (mz_set (mz_set (mz_set (mz_set (mz_up (mz_up (mz_up (mz_up (mz_up w 20 0 xa) 20 1 xb) 20 2 (nI PW)) 20 3 (nI PH)) 20 4 xd) 21 (sm_pic PW PH 0 (fun i j => sm_end w (w 7 5) (xa + nI i * xd) (xb + nI j * xd) 0 0) ((mz_up (mz_up (mz_up (mz_up (mz_up w 20 0 xa) 20 1 xb) 20 2 (nI PW)) 20 3 (nI PH)) 20 4 xd) 21))) 22 (sm_pic PW PH 0 (fun i j => sm_last w (w 7 5) (xa + nI i * xd) (xb + nI j * xd) 0 0 4) ((mz_up (mz_up (mz_up (mz_up (mz_up w 20 0 xa) 20 1 xb) 20 2 (nI PW)) 20 3 (nI PH)) 20 4 xd) 22))) 50 rP) 51 fP) 52 gP) rfl ((ct_in1 (m := mz_set (mz_set (mz_set (mz_set (mz_set (mz_up (mz_up (mz_up (mz_up (mz_up w 20 0 xa) 20 1 xb) 20 2 (nI PW)) 20 3 (nI PH)) 20 4 xd) 21 (sm_pic PW PH 0 (fun i j => sm_end w (w 7 5) (xa + nI i * xd) (xb + nI j * xd) 0 0) ((mz_up (mz_up (mz_up (mz_up (mz_up w 20 0 xa) 20 1 xb) 20 2 (nI PW)) 20 3 (nI PH)) 20 4 xd) 21))) 22 (sm_pic PW PH 0 (fun i j => sm_last w (w 7 5) (xa + nI i * xd) (xb + nI j * xd) 0 0 4) ((mz_up (mz_up (mz_up (mz_up (mz_up w 20 0 xa) 20 1 xb) 20 2 (nI PW)) 20 3 (nI PH)) 20 4 xd) 22))) 50 rP) 51 fP) 52 gP) (v := xd) (a := 1) (b := 40) (show ¬ (xd < 1) from (sm_in_lo q2)) (show ¬ (40 < xd) from (sm_in_hi q2))).deep (by decide)) ?_
                      refine mz_goP 20 (c' := (83, [some (.ref 65), some (.int xa), some (.int xb), some (.int xc), some (.int xd), some (.int (xc / 10)), some (.int (xc - xc / 10 * 10)), some (.int 1), none, none], [.int (xb + (((xc - xc / 10 * 10) - 1) * xd)), .int (xa + (((xc / 10) - 1) * xd))], mz_set (mz_set (mz_set (mz_set (mz_set (mz_up (mz_up (mz_up (mz_up (mz_up w 20 0 xa) 20 1 xb) 20 2 (nI PW)) 20 3 (nI PH)) 20 4 xd) 21 (sm_pic PW PH 0 (fun i j => sm_end w (w 7 5) (xa + nI i * xd) (xb + nI j * xd) 0 0) ((mz_up (mz_up (mz_up (mz_up (mz_up w 20 0 xa) 20 1 xb) 20 2 (nI PW)) 20 3 (nI PH)) 20 4 xd) 21))) 22 (sm_pic PW PH 0 (fun i j => sm_last w (w 7 5) (xa + nI i * xd) (xb + nI j * xd) 0 0 4) ((mz_up (mz_up (mz_up (mz_up (mz_up w 20 0 xa) 20 1 xb) 20 2 (nI PW)) 20 3 (nI PH)) 20 4 xd) 22))) 50 rP) 51 fP) 52 gP)) rfl ?_
                      refine mz_doP (R := mz_r131) (as := [.int (xa + (((xc / 10) - 1) * xd)), .int (xb + (((xc - xc / 10 * 10) - 1) * xd))]) (rest := []) (r1 := some (.int 1)) (m1 := mz_set (mz_set (mz_set (mz_set (mz_set (mz_up (mz_up (mz_up (mz_up (mz_up w 20 0 xa) 20 1 xb) 20 2 (nI PW)) 20 3 (nI PH)) 20 4 xd) 21 (sm_pic PW PH 0 (fun i j => sm_end w (w 7 5) (xa + nI i * xd) (xb + nI j * xd) 0 0) ((mz_up (mz_up (mz_up (mz_up (mz_up w 20 0 xa) 20 1 xb) 20 2 (nI PW)) 20 3 (nI PH)) 20 4 xd) 21))) 22 (sm_pic PW PH 0 (fun i j => sm_last w (w 7 5) (xa + nI i * xd) (xb + nI j * xd) 0 0 4) ((mz_up (mz_up (mz_up (mz_up (mz_up w 20 0 xa) 20 1 xb) 20 2 (nI PW)) 20 3 (nI PH)) 20 4 xd) 22))) 50 rP) 51 fP) 52 gP) rfl ⟨?_, rfl⟩ ?_
                      · refine mz_go 3 (c' := (5, [some (.int (xa + (((xc / 10) - 1) * xd))), some (.int (xb + (((xc - xc / 10 * 10) - 1) * xd)))], [.int 100, .int (-100), .int (xa + (((xc / 10) - 1) * xd))], mz_set (mz_set (mz_set (mz_set (mz_set (mz_up (mz_up (mz_up (mz_up (mz_up w 20 0 xa) 20 1 xb) 20 2 (nI PW)) 20 3 (nI PH)) 20 4 xd) 21 (sm_pic PW PH 0 (fun i j => sm_end w (w 7 5) (xa + nI i * xd) (xb + nI j * xd) 0 0) ((mz_up (mz_up (mz_up (mz_up (mz_up w 20 0 xa) 20 1 xb) 20 2 (nI PW)) 20 3 (nI PH)) 20 4 xd) 21))) 22 (sm_pic PW PH 0 (fun i j => sm_last w (w 7 5) (xa + nI i * xd) (xb + nI j * xd) 0 0 4) ((mz_up (mz_up (mz_up (mz_up (mz_up w 20 0 xa) 20 1 xb) 20 2 (nI PW)) 20 3 (nI PH)) 20 4 xd) 22))) 50 rP) 51 fP) 52 gP)) rfl ?_
                        refine mz_do (R := mz_r128) (as := [.int (xa + (((xc / 10) - 1) * xd)), .int (-100), .int 100]) (rest := []) (r1 := some (.int 1)) (m1 := mz_set (mz_set (mz_set (mz_set (mz_set (mz_up (mz_up (mz_up (mz_up (mz_up w 20 0 xa) 20 1 xb) 20 2 (nI PW)) 20 3 (nI PH)) 20 4 xd) 21 (sm_pic PW PH 0 (fun i j => sm_end w (w 7 5) (xa + nI i * xd) (xb + nI j * xd) 0 0) ((mz_up (mz_up (mz_up (mz_up (mz_up w 20 0 xa) 20 1 xb) 20 2 (nI PW)) 20 3 (nI PH)) 20 4 xd) 21))) 22 (sm_pic PW PH 0 (fun i j => sm_last w (w 7 5) (xa + nI i * xd) (xb + nI j * xd) 0 0 4) ((mz_up (mz_up (mz_up (mz_up (mz_up w 20 0 xa) 20 1 xb) 20 2 (nI PW)) 20 3 (nI PH)) 20 4 xd) 22))) 50 rP) 51 fP) 52 gP) rfl ((ct_in1 (m := mz_set (mz_set (mz_set (mz_set (mz_set (mz_up (mz_up (mz_up (mz_up (mz_up w 20 0 xa) 20 1 xb) 20 2 (nI PW)) 20 3 (nI PH)) 20 4 xd) 21 (sm_pic PW PH 0 (fun i j => sm_end w (w 7 5) (xa + nI i * xd) (xb + nI j * xd) 0 0) ((mz_up (mz_up (mz_up (mz_up (mz_up w 20 0 xa) 20 1 xb) 20 2 (nI PW)) 20 3 (nI PH)) 20 4 xd) 21))) 22 (sm_pic PW PH 0 (fun i j => sm_last w (w 7 5) (xa + nI i * xd) (xb + nI j * xd) 0 0 4) ((mz_up (mz_up (mz_up (mz_up (mz_up w 20 0 xa) 20 1 xb) 20 2 (nI PW)) 20 3 (nI PH)) 20 4 xd) 22))) 50 rP) 51 fP) 52 gP) (v := xa + (((xc / 10) - 1) * xd)) (a := (-100)) (b := 100) q11 q12).deep (by decide)) ?_
                        refine mz_go 4 (c' := (16, [some (.int (xa + (((xc / 10) - 1) * xd))), some (.int (xb + (((xc - xc / 10 * 10) - 1) * xd)))], [.int 100, .int (-100), .int (xb + (((xc - xc / 10 * 10) - 1) * xd))], mz_set (mz_set (mz_set (mz_set (mz_set (mz_up (mz_up (mz_up (mz_up (mz_up w 20 0 xa) 20 1 xb) 20 2 (nI PW)) 20 3 (nI PH)) 20 4 xd) 21 (sm_pic PW PH 0 (fun i j => sm_end w (w 7 5) (xa + nI i * xd) (xb + nI j * xd) 0 0) ((mz_up (mz_up (mz_up (mz_up (mz_up w 20 0 xa) 20 1 xb) 20 2 (nI PW)) 20 3 (nI PH)) 20 4 xd) 21))) 22 (sm_pic PW PH 0 (fun i j => sm_last w (w 7 5) (xa + nI i * xd) (xb + nI j * xd) 0 0 4) ((mz_up (mz_up (mz_up (mz_up (mz_up w 20 0 xa) 20 1 xb) 20 2 (nI PW)) 20 3 (nI PH)) 20 4 xd) 22))) 50 rP) 51 fP) 52 gP)) rfl ?_
                        refine mz_do (R := mz_r128) (as := [.int (xb + (((xc - xc / 10 * 10) - 1) * xd)), .int (-100), .int 100]) (rest := []) (r1 := some (.int 1)) (m1 := mz_set (mz_set (mz_set (mz_set (mz_set (mz_up (mz_up (mz_up (mz_up (mz_up w 20 0 xa) 20 1 xb) 20 2 (nI PW)) 20 3 (nI PH)) 20 4 xd) 21 (sm_pic PW PH 0 (fun i j => sm_end w (w 7 5) (xa + nI i * xd) (xb + nI j * xd) 0 0) ((mz_up (mz_up (mz_up (mz_up (mz_up w 20 0 xa) 20 1 xb) 20 2 (nI PW)) 20 3 (nI PH)) 20 4 xd) 21))) 22 (sm_pic PW PH 0 (fun i j => sm_last w (w 7 5) (xa + nI i * xd) (xb + nI j * xd) 0 0 4) ((mz_up (mz_up (mz_up (mz_up (mz_up w 20 0 xa) 20 1 xb) 20 2 (nI PW)) 20 3 (nI PH)) 20 4 xd) 22))) 50 rP) 51 fP) 52 gP) rfl ((ct_in1 (m := mz_set (mz_set (mz_set (mz_set (mz_set (mz_up (mz_up (mz_up (mz_up (mz_up w 20 0 xa) 20 1 xb) 20 2 (nI PW)) 20 3 (nI PH)) 20 4 xd) 21 (sm_pic PW PH 0 (fun i j => sm_end w (w 7 5) (xa + nI i * xd) (xb + nI j * xd) 0 0) ((mz_up (mz_up (mz_up (mz_up (mz_up w 20 0 xa) 20 1 xb) 20 2 (nI PW)) 20 3 (nI PH)) 20 4 xd) 21))) 22 (sm_pic PW PH 0 (fun i j => sm_last w (w 7 5) (xa + nI i * xd) (xb + nI j * xd) 0 0 4) ((mz_up (mz_up (mz_up (mz_up (mz_up w 20 0 xa) 20 1 xb) 20 2 (nI PW)) 20 3 (nI PH)) 20 4 xd) 22))) 50 rP) 51 fP) 52 gP) (v := xb + (((xc - xc / 10 * 10) - 1) * xd)) (a := (-100)) (b := 100) q13 q14).deep (by decide)) ?_
                        refine mz_go 3 (c' := (27, [some (.int (xa + (((xc / 10) - 1) * xd))), some (.int (xb + (((xc - xc / 10 * 10) - 1) * xd)))], [.int 1], mz_set (mz_set (mz_set (mz_set (mz_set (mz_up (mz_up (mz_up (mz_up (mz_up w 20 0 xa) 20 1 xb) 20 2 (nI PW)) 20 3 (nI PH)) 20 4 xd) 21 (sm_pic PW PH 0 (fun i j => sm_end w (w 7 5) (xa + nI i * xd) (xb + nI j * xd) 0 0) ((mz_up (mz_up (mz_up (mz_up (mz_up w 20 0 xa) 20 1 xb) 20 2 (nI PW)) 20 3 (nI PH)) 20 4 xd) 21))) 22 (sm_pic PW PH 0 (fun i j => sm_last w (w 7 5) (xa + nI i * xd) (xb + nI j * xd) 0 0 4) ((mz_up (mz_up (mz_up (mz_up (mz_up w 20 0 xa) 20 1 xb) 20 2 (nI PW)) 20 3 (nI PH)) 20 4 xd) 22))) 50 rP) 51 fP) 52 gP)) rfl ?_
                        exact mz_ret rfl
                      refine mz_goP 24 (c' := (135, [some (.ref 65), some (.int xa), some (.int xb), some (.int xc), some (.int xd), some (.int (xc / 10)), some (.int (xc - xc / 10 * 10)), some (.int 1), none, none], [.int 64, .ref 66], mz_up (mz_up (mz_up (mz_up (mz_set (mz_set (mz_set (mz_set (mz_set (mz_up (mz_up (mz_up (mz_up (mz_up w 20 0 xa) 20 1 xb) 20 2 (nI PW)) 20 3 (nI PH)) 20 4 xd) 21 (sm_pic PW PH 0 (fun i j => sm_end w (w 7 5) (xa + nI i * xd) (xb + nI j * xd) 0 0) ((mz_up (mz_up (mz_up (mz_up (mz_up w 20 0 xa) 20 1 xb) 20 2 (nI PW)) 20 3 (nI PH)) 20 4 xd) 21))) 22 (sm_pic PW PH 0 (fun i j => sm_last w (w 7 5) (xa + nI i * xd) (xb + nI j * xd) 0 0 4) ((mz_up (mz_up (mz_up (mz_up (mz_up w 20 0 xa) 20 1 xb) 20 2 (nI PW)) 20 3 (nI PH)) 20 4 xd) 22))) 50 rP) 51 fP) 52 gP) 66 60 (xc / 10)) 66 61 (xc - xc / 10 * 10)) 66 62 xa) 66 63 xb)) rfl ?_
                      refine mz_goP 4 (c' := (141, [some (.ref 65), some (.int xa), some (.int xb), some (.int xc), some (.int xd), some (.int (xc / 10)), some (.int (xc - xc / 10 * 10)), some (.int 1), some (.int 0), none], [], mz_up (mz_up (mz_up (mz_up (mz_up (mz_set (mz_set (mz_set (mz_set (mz_set (mz_up (mz_up (mz_up (mz_up (mz_up w 20 0 xa) 20 1 xb) 20 2 (nI PW)) 20 3 (nI PH)) 20 4 xd) 21 (sm_pic PW PH 0 (fun i j => sm_end w (w 7 5) (xa + nI i * xd) (xb + nI j * xd) 0 0) ((mz_up (mz_up (mz_up (mz_up (mz_up w 20 0 xa) 20 1 xb) 20 2 (nI PW)) 20 3 (nI PH)) 20 4 xd) 21))) 22 (sm_pic PW PH 0 (fun i j => sm_last w (w 7 5) (xa + nI i * xd) (xb + nI j * xd) 0 0 4) ((mz_up (mz_up (mz_up (mz_up (mz_up w 20 0 xa) 20 1 xb) 20 2 (nI PW)) 20 3 (nI PH)) 20 4 xd) 22))) 50 rP) 51 fP) 52 gP) 66 60 (xc / 10)) 66 61 (xc - xc / 10 * 10)) 66 62 xa) 66 63 xb) 66 64 xd)) rfl ?_
                      have hT2r : ∀ i, (i < 60 ∨ 65 ≤ i) → (mz_up (mz_up (mz_up (mz_up (mz_up (mz_set (mz_set (mz_set (mz_set (mz_set (mz_up (mz_up (mz_up (mz_up (mz_up w 20 0 xa) 20 1 xb) 20 2 (nI PW)) 20 3 (nI PH)) 20 4 xd) 21 (sm_pic PW PH 0 (fun i j => sm_end w (w 7 5) (xa + nI i * xd) (xb + nI j * xd) 0 0) ((mz_up (mz_up (mz_up (mz_up (mz_up w 20 0 xa) 20 1 xb) 20 2 (nI PW)) 20 3 (nI PH)) 20 4 xd) 21))) 22 (sm_pic PW PH 0 (fun i j => sm_last w (w 7 5) (xa + nI i * xd) (xb + nI j * xd) 0 0 4) ((mz_up (mz_up (mz_up (mz_up (mz_up w 20 0 xa) 20 1 xb) 20 2 (nI PW)) 20 3 (nI PH)) 20 4 xd) 22))) 50 rP) 51 fP) 52 gP) 66 60 (nI PW)) 66 61 (nI PH)) 66 62 xa) 66 63 xb) 66 64 xd) 66 i = w 66 i := fun i hi => by rw [mz_up_eq, if_neg (by omega), mz_up_eq, if_neg (by omega), mz_up_eq, if_neg (by omega), mz_up_eq, if_neg (by omega), mz_up_eq, if_neg (by omega), mz_set_ne (show (66 : Nat) ≠ 52 by decide), mz_set_ne (show (66 : Nat) ≠ 51 by decide), mz_set_ne (show (66 : Nat) ≠ 50 by decide), mz_set_ne (show (66 : Nat) ≠ 22 by decide), mz_set_ne (show (66 : Nat) ≠ 21 by decide), mz_up_ne (show (66 : Nat) ≠ 20 by decide), mz_up_ne (show (66 : Nat) ≠ 20 by decide), mz_up_ne (show (66 : Nat) ≠ 20 by decide), mz_up_ne (show (66 : Nat) ≠ 20 by decide), mz_up_ne (show (66 : Nat) ≠ 20 by decide)]
                      obtain ⟨sP, rQ, aQ, bQ, oQ, hPS2, hKQ, EQ⟩ := ct_picj (m := mz_up (mz_up (mz_up (mz_up (mz_up (mz_set (mz_set (mz_set (mz_set (mz_set (mz_up (mz_up (mz_up (mz_up (mz_up w 20 0 xa) 20 1 xb) 20 2 (nI PW)) 20 3 (nI PH)) 20 4 xd) 21 (sm_pic PW PH 0 (fun i j => sm_end w (w 7 5) (xa + nI i * xd) (xb + nI j * xd) 0 0) ((mz_up (mz_up (mz_up (mz_up (mz_up w 20 0 xa) 20 1 xb) 20 2 (nI PW)) 20 3 (nI PH)) 20 4 xd) 21))) 22 (sm_pic PW PH 0 (fun i j => sm_last w (w 7 5) (xa + nI i * xd) (xb + nI j * xd) 0 0 4) ((mz_up (mz_up (mz_up (mz_up (mz_up w 20 0 xa) 20 1 xb) 20 2 (nI PW)) 20 3 (nI PH)) 20 4 xd) 22))) 50 rP) 51 fP) 52 gP) 66 60 (nI PW)) 66 61 (nI PH)) 66 62 xa) 66 63 xb) 66 64 xd) (w := w) hw (sm_HR_s (fun i hi => hT2r i (by omega)) hr2) h6615 hr5 hr80 (W := PW) (H := PH) hPW6 hPH6 (xc := xc) hBX hBY 1 PH 0 (by omega) ((mz_up (mz_up (mz_up (mz_up (mz_up (mz_set (mz_set (mz_set (mz_set (mz_set (mz_up (mz_up (mz_up (mz_up (mz_up w 20 0 xa) 20 1 xb) 20 2 (nI PW)) 20 3 (nI PH)) 20 4 xd) 21 (sm_pic PW PH 0 (fun i j => sm_end w (w 7 5) (xa + nI i * xd) (xb + nI j * xd) 0 0) ((mz_up (mz_up (mz_up (mz_up (mz_up w 20 0 xa) 20 1 xb) 20 2 (nI PW)) 20 3 (nI PH)) 20 4 xd) 21))) 22 (sm_pic PW PH 0 (fun i j => sm_last w (w 7 5) (xa + nI i * xd) (xb + nI j * xd) 0 0 4) ((mz_up (mz_up (mz_up (mz_up (mz_up w 20 0 xa) 20 1 xb) 20 2 (nI PW)) 20 3 (nI PH)) 20 4 xd) 22))) 50 rP) 51 fP) 52 gP) 66 60 (nI PW)) 66 61 (nI PH)) 66 62 xa) 66 63 xb) 66 64 xd) 66) (w 65) (w 70) (w 71) none sm_ps_0 (fun _ _ => rfl)
                      rw [Nat.zero_mul, show mz_set (mz_set (mz_set (mz_set (mz_up (mz_up (mz_up (mz_up (mz_up (mz_set (mz_set (mz_set (mz_set (mz_set (mz_up (mz_up (mz_up (mz_up (mz_up w 20 0 xa) 20 1 xb) 20 2 (nI PW)) 20 3 (nI PH)) 20 4 xd) 21 (sm_pic PW PH 0 (fun i j => sm_end w (w 7 5) (xa + nI i * xd) (xb + nI j * xd) 0 0) ((mz_up (mz_up (mz_up (mz_up (mz_up w 20 0 xa) 20 1 xb) 20 2 (nI PW)) 20 3 (nI PH)) 20 4 xd) 21))) 22 (sm_pic PW PH 0 (fun i j => sm_last w (w 7 5) (xa + nI i * xd) (xb + nI j * xd) 0 0 4) ((mz_up (mz_up (mz_up (mz_up (mz_up w 20 0 xa) 20 1 xb) 20 2 (nI PW)) 20 3 (nI PH)) 20 4 xd) 22))) 50 rP) 51 fP) 52 gP) 66 60 (nI PW)) 66 61 (nI PH)) 66 62 xa) 66 63 xb) 66 64 xd) 66 ((mz_up (mz_up (mz_up (mz_up (mz_up (mz_set (mz_set (mz_set (mz_set (mz_set (mz_up (mz_up (mz_up (mz_up (mz_up w 20 0 xa) 20 1 xb) 20 2 (nI PW)) 20 3 (nI PH)) 20 4 xd) 21 (sm_pic PW PH 0 (fun i j => sm_end w (w 7 5) (xa + nI i * xd) (xb + nI j * xd) 0 0) ((mz_up (mz_up (mz_up (mz_up (mz_up w 20 0 xa) 20 1 xb) 20 2 (nI PW)) 20 3 (nI PH)) 20 4 xd) 21))) 22 (sm_pic PW PH 0 (fun i j => sm_last w (w 7 5) (xa + nI i * xd) (xb + nI j * xd) 0 0 4) ((mz_up (mz_up (mz_up (mz_up (mz_up w 20 0 xa) 20 1 xb) 20 2 (nI PW)) 20 3 (nI PH)) 20 4 xd) 22))) 50 rP) 51 fP) 52 gP) 66 60 (nI PW)) 66 61 (nI PH)) 66 62 xa) 66 63 xb) 66 64 xd) 66)) 65 (w 65)) 70 (w 70)) 71 (w 71) = mz_up (mz_up (mz_up (mz_up (mz_up (mz_set (mz_set (mz_set (mz_set (mz_set (mz_up (mz_up (mz_up (mz_up (mz_up w 20 0 xa) 20 1 xb) 20 2 (nI PW)) 20 3 (nI PH)) 20 4 xd) 21 (sm_pic PW PH 0 (fun i j => sm_end w (w 7 5) (xa + nI i * xd) (xb + nI j * xd) 0 0) ((mz_up (mz_up (mz_up (mz_up (mz_up w 20 0 xa) 20 1 xb) 20 2 (nI PW)) 20 3 (nI PH)) 20 4 xd) 21))) 22 (sm_pic PW PH 0 (fun i j => sm_last w (w 7 5) (xa + nI i * xd) (xb + nI j * xd) 0 0 4) ((mz_up (mz_up (mz_up (mz_up (mz_up w 20 0 xa) 20 1 xb) 20 2 (nI PW)) 20 3 (nI PH)) 20 4 xd) 22))) 50 rP) 51 fP) 52 gP) 66 60 (nI PW)) 66 61 (nI PH)) 66 62 xa) 66 63 xb) 66 64 xd from (sm_of4 (fun i _ _ _ _ => rfl)).symm] at EQ
                      rw [ePH, ePW]
                      refine mz_hkP EQ ?_
                      refine mz_goP 5 (c' := (232, [some (.ref 65), some (.int xa), some (.int xb), some (.int xc), some (.int xd), some (.int (nI PW)), some (.int (nI PH)), some (.int 1), some (.int (nI (PH * PW + 0))), oQ], [.int (nI PH), .int (nI PW), .int 0, .int 0, .ref 65], mz_set (mz_set (mz_set (mz_set (mz_up (mz_up (mz_up (mz_up (mz_up (mz_set (mz_set (mz_set (mz_set (mz_set (mz_up (mz_up (mz_up (mz_up (mz_up w 20 0 xa) 20 1 xb) 20 2 (nI PW)) 20 3 (nI PH)) 20 4 xd) 21 (sm_pic PW PH 0 (fun i j => sm_end w (w 7 5) (xa + nI i * xd) (xb + nI j * xd) 0 0) ((mz_up (mz_up (mz_up (mz_up (mz_up w 20 0 xa) 20 1 xb) 20 2 (nI PW)) 20 3 (nI PH)) 20 4 xd) 21))) 22 (sm_pic PW PH 0 (fun i j => sm_last w (w 7 5) (xa + nI i * xd) (xb + nI j * xd) 0 0 4) ((mz_up (mz_up (mz_up (mz_up (mz_up w 20 0 xa) 20 1 xb) 20 2 (nI PW)) 20 3 (nI PH)) 20 4 xd) 22))) 50 rP) 51 fP) 52 gP) 66 60 (nI PW)) 66 61 (nI PH)) 66 62 xa) 66 63 xb) 66 64 xd) 66 sP) 65 rQ) 70 aQ) 71 bQ)) rfl ?_
                      have h6v : ∀ i, i < 36 → sm_colB ((sm_pic PW PH 0 (fun i j => sm_end w (w 7 5) (xa + nI i * xd) (xb + nI j * xd) 0 0) ((mz_up (mz_up (mz_up (mz_up (mz_up w 20 0 xa) 20 1 xb) 20 2 (nI PW)) 20 3 (nI PH)) 20 4 xd) 21)) i) ∧ sP (70 + i) = (sm_pic PW PH 0 (fun i j => sm_end w (w 7 5) (xa + nI i * xd) (xb + nI j * xd) 0 0) ((mz_up (mz_up (mz_up (mz_up (mz_up w 20 0 xa) 20 1 xb) 20 2 (nI PW)) 20 3 (nI PH)) 20 4 xd) 21)) i ∧ sP (110 + i) = (sm_pic PW PH 0 (fun i j => sm_last w (w 7 5) (xa + nI i * xd) (xb + nI j * xd) 0 0 4) ((mz_up (mz_up (mz_up (mz_up (mz_up w 20 0 xa) 20 1 xb) 20 2 (nI PW)) 20 3 (nI PH)) 20 4 xd) 22)) i := fun i hi => by
                        obtain ⟨z1, z2, z3⟩ := hpc i hi
                        exact sm_picd6 (E := (fun i j => sm_end w (w 7 5) (xa + nI i * xd) (xb + nI j * xd) 0 0)) (L := (fun i j => sm_last w (w 7 5) (xa + nI i * xd) (xb + nI j * xd) 0 0 4)) (c := (mz_up (mz_up (mz_up (mz_up (mz_up w 20 0 xa) 20 1 xb) 20 2 (nI PW)) 20 3 (nI PH)) 20 4 xd) 21) (l := (mz_up (mz_up (mz_up (mz_up (mz_up w 20 0 xa) 20 1 xb) 20 2 (nI PW)) 20 3 (nI PH)) 20 4 xd) 22) (c' := fun q => (mz_up (mz_up (mz_up (mz_up (mz_up (mz_set (mz_set (mz_set (mz_set (mz_set (mz_up (mz_up (mz_up (mz_up (mz_up w 20 0 xa) 20 1 xb) 20 2 (nI PW)) 20 3 (nI PH)) 20 4 xd) 21 (sm_pic PW PH 0 (fun i j => sm_end w (w 7 5) (xa + nI i * xd) (xb + nI j * xd) 0 0) ((mz_up (mz_up (mz_up (mz_up (mz_up w 20 0 xa) 20 1 xb) 20 2 (nI PW)) 20 3 (nI PH)) 20 4 xd) 21))) 22 (sm_pic PW PH 0 (fun i j => sm_last w (w 7 5) (xa + nI i * xd) (xb + nI j * xd) 0 0 4) ((mz_up (mz_up (mz_up (mz_up (mz_up w 20 0 xa) 20 1 xb) 20 2 (nI PW)) 20 3 (nI PH)) 20 4 xd) 22))) 50 rP) 51 fP) 52 gP) 66 60 (nI PW)) 66 61 (nI PH)) 66 62 xa) 66 63 xb) 66 64 xd) 66 (70 + q)) (l' := fun q => (mz_up (mz_up (mz_up (mz_up (mz_up (mz_set (mz_set (mz_set (mz_set (mz_set (mz_up (mz_up (mz_up (mz_up (mz_up w 20 0 xa) 20 1 xb) 20 2 (nI PW)) 20 3 (nI PH)) 20 4 xd) 21 (sm_pic PW PH 0 (fun i j => sm_end w (w 7 5) (xa + nI i * xd) (xb + nI j * xd) 0 0) ((mz_up (mz_up (mz_up (mz_up (mz_up w 20 0 xa) 20 1 xb) 20 2 (nI PW)) 20 3 (nI PH)) 20 4 xd) 21))) 22 (sm_pic PW PH 0 (fun i j => sm_last w (w 7 5) (xa + nI i * xd) (xb + nI j * xd) 0 0 4) ((mz_up (mz_up (mz_up (mz_up (mz_up w 20 0 xa) 20 1 xb) 20 2 (nI PW)) 20 3 (nI PH)) 20 4 xd) 22))) 50 rP) 51 fP) 52 gP) 66 60 (nI PW)) 66 61 (nI PH)) 66 62 xa) 66 63 xb) 66 64 xd) 66 (110 + q)) (fun a b => sm_end_col hw _ _ _ _ _) z1 ((hT2r (70 + i) (by omega)).trans z2) ((hT2r (110 + i) (by omega)).trans z3) (hPS2.1 i hi) (hPS2.2.1 i hi)
                      have Ee2 := vr_cin (w := mz_set (mz_set (mz_set (mz_set (mz_set (mz_up (mz_up (mz_up (mz_up (mz_up w 20 0 xa) 20 1 xb) 20 2 (nI PW)) 20 3 (nI PH)) 20 4 xd) 21 (sm_pic PW PH 0 (fun i j => sm_end w (w 7 5) (xa + nI i * xd) (xb + nI j * xd) 0 0) ((mz_up (mz_up (mz_up (mz_up (mz_up w 20 0 xa) 20 1 xb) 20 2 (nI PW)) 20 3 (nI PH)) 20 4 xd) 21))) 22 (sm_pic PW PH 0 (fun i j => sm_last w (w 7 5) (xa + nI i * xd) (xb + nI j * xd) 0 0 4) ((mz_up (mz_up (mz_up (mz_up (mz_up w 20 0 xa) 20 1 xb) 20 2 (nI PW)) 20 3 (nI PH)) 20 4 xd) 22))) 50 rP) 51 fP) 52 gP) (b := mz_set (mz_set (mz_set (mz_set (mz_up (mz_up (mz_up (mz_up (mz_up (mz_set (mz_set (mz_set (mz_set (mz_set (mz_up (mz_up (mz_up (mz_up (mz_up w 20 0 xa) 20 1 xb) 20 2 (nI PW)) 20 3 (nI PH)) 20 4 xd) 21 (sm_pic PW PH 0 (fun i j => sm_end w (w 7 5) (xa + nI i * xd) (xb + nI j * xd) 0 0) ((mz_up (mz_up (mz_up (mz_up (mz_up w 20 0 xa) 20 1 xb) 20 2 (nI PW)) 20 3 (nI PH)) 20 4 xd) 21))) 22 (sm_pic PW PH 0 (fun i j => sm_last w (w 7 5) (xa + nI i * xd) (xb + nI j * xd) 0 0 4) ((mz_up (mz_up (mz_up (mz_up (mz_up w 20 0 xa) 20 1 xb) 20 2 (nI PW)) 20 3 (nI PH)) 20 4 xd) 22))) 50 rP) 51 fP) 52 gP) 66 60 (nI PW)) 66 61 (nI PH)) 66 62 xa) 66 63 xb) 66 64 xd) 66 sP) 65 rQ) 70 aQ) 71 bQ) (fun i hi => (h6v i hi).2.1) (fun i hi => (h6v i hi).1) (I := 0) (J := 0) (P := PW) (Q := PH) (by omega) (by omega) (i := 0) (j := 0) (p := nI PW) (q := nI PH) rfl rfl rfl rfl
                      rw [show vq_pl 1024 (vq_orr (fun a b => (mz_set (mz_set (mz_set (mz_set (mz_set (mz_up (mz_up (mz_up (mz_up (mz_up w 20 0 xa) 20 1 xb) 20 2 (nI PW)) 20 3 (nI PH)) 20 4 xd) 21 (sm_pic PW PH 0 (fun i j => sm_end w (w 7 5) (xa + nI i * xd) (xb + nI j * xd) 0 0) ((mz_up (mz_up (mz_up (mz_up (mz_up w 20 0 xa) 20 1 xb) 20 2 (nI PW)) 20 3 (nI PH)) 20 4 xd) 21))) 22 (sm_pic PW PH 0 (fun i j => sm_last w (w 7 5) (xa + nI i * xd) (xb + nI j * xd) 0 0 4) ((mz_up (mz_up (mz_up (mz_up (mz_up w 20 0 xa) 20 1 xb) 20 2 (nI PW)) 20 3 (nI PH)) 20 4 xd) 22))) 50 rP) 51 fP) 52 gP) 21 (((0 + b) * 6) + (0 + a))) PW PH) 0 = vq_fn (fun c s => s + vq_gz (vq_ar (sm_pic PW PH 0 (fun i j => sm_end w (w 7 5) (xa + nI i * xd) (xb + nI j * xd) 0 0) ((mz_up (mz_up (mz_up (mz_up (mz_up w 20 0 xa) 20 1 xb) 20 2 (nI PW)) 20 3 (nI PH)) 20 4 xd) 21)) PW PH 0 0 6 (nI c))) 10 0 0 from vq_cols (f := (sm_pic PW PH 0 (fun i j => sm_end w (w 7 5) (xa + nI i * xd) (xb + nI j * xd) 0 0) ((mz_up (mz_up (mz_up (mz_up (mz_up w 20 0 xa) 20 1 xb) 20 2 (nI PW)) 20 3 (nI PH)) 20 4 xd) 21))) hPW6 hPH6 (fun i hi => (h6v i hi).1)] at Ee2
                      refine mz_doP (R := mz_r189) (as := [.ref 65, .int 0, .int 0, .int (nI PW), .int (nI PH)]) (rest := []) (r1 := some (.int (vq_fn (fun c s => s + vq_gz (vq_ar (sm_pic PW PH 0 (fun i j => sm_end w (w 7 5) (xa + nI i * xd) (xb + nI j * xd) 0 0) ((mz_up (mz_up (mz_up (mz_up (mz_up w 20 0 xa) 20 1 xb) 20 2 (nI PW)) 20 3 (nI PH)) 20 4 xd) 21)) PW PH 0 0 6 (nI c))) 10 0 0))) (m1 := mz_set (mz_set (mz_set (mz_set (mz_up (mz_up (mz_up (mz_up (mz_up (mz_set (mz_set (mz_set (mz_set (mz_set (mz_up (mz_up (mz_up (mz_up (mz_up w 20 0 xa) 20 1 xb) 20 2 (nI PW)) 20 3 (nI PH)) 20 4 xd) 21 (sm_pic PW PH 0 (fun i j => sm_end w (w 7 5) (xa + nI i * xd) (xb + nI j * xd) 0 0) ((mz_up (mz_up (mz_up (mz_up (mz_up w 20 0 xa) 20 1 xb) 20 2 (nI PW)) 20 3 (nI PH)) 20 4 xd) 21))) 22 (sm_pic PW PH 0 (fun i j => sm_last w (w 7 5) (xa + nI i * xd) (xb + nI j * xd) 0 0 4) ((mz_up (mz_up (mz_up (mz_up (mz_up w 20 0 xa) 20 1 xb) 20 2 (nI PW)) 20 3 (nI PH)) 20 4 xd) 22))) 50 rP) 51 fP) 52 gP) 66 60 (nI PW)) 66 61 (nI PH)) 66 62 xa) 66 63 xb) 66 64 xd) 66 sP) 65 rQ) 70 aQ) 71 bQ) rfl (Ee2.deep (by decide)) ?_
                      refine mz_retP (r := (some (.int (vq_fn (fun c s => s + vq_gz (vq_ar (sm_pic PW PH 0 (fun i j => sm_end w (w 7 5) (xa + nI i * xd) (xb + nI j * xd) 0 0) ((mz_up (mz_up (mz_up (mz_up (mz_up w 20 0 xa) 20 1 xb) 20 2 (nI PW)) 20 3 (nI PH)) 20 4 xd) 21)) PW PH 0 0 6 (nI c))) 10 0 0)), mz_set (mz_set (mz_set (mz_set (mz_up (mz_up (mz_up (mz_up (mz_up (mz_set (mz_set (mz_set (mz_set (mz_set (mz_up (mz_up (mz_up (mz_up (mz_up w 20 0 xa) 20 1 xb) 20 2 (nI PW)) 20 3 (nI PH)) 20 4 xd) 21 (sm_pic PW PH 0 (fun i j => sm_end w (w 7 5) (xa + nI i * xd) (xb + nI j * xd) 0 0) ((mz_up (mz_up (mz_up (mz_up (mz_up w 20 0 xa) 20 1 xb) 20 2 (nI PW)) 20 3 (nI PH)) 20 4 xd) 21))) 22 (sm_pic PW PH 0 (fun i j => sm_last w (w 7 5) (xa + nI i * xd) (xb + nI j * xd) 0 0 4) ((mz_up (mz_up (mz_up (mz_up (mz_up w 20 0 xa) 20 1 xb) 20 2 (nI PW)) 20 3 (nI PH)) 20 4 xd) 22))) 50 rP) 51 fP) 52 gP) 66 60 (nI PW)) 66 61 (nI PH)) 66 62 xa) 66 63 xb) 66 64 xd) 66 sP) 65 rQ) 70 aQ) 71 bQ)) rfl ⟨vq_fn (fun c s => s + vq_gz (vq_ar (sm_pic PW PH 0 (fun i j => sm_end w (w 7 5) (xa + nI i * xd) (xb + nI j * xd) 0 0) ((mz_up (mz_up (mz_up (mz_up (mz_up w 20 0 xa) 20 1 xb) 20 2 (nI PW)) 20 3 (nI PH)) 20 4 xd) 21)) PW PH 0 0 6 (nI c))) 10 0 0, rfl, ?_, rfl⟩
                      show sm_I (n + 1) (mz_set (mz_set (mz_set (mz_set (mz_up (mz_up (mz_up (mz_up (mz_up (mz_set (mz_set (mz_set (mz_set (mz_set (mz_up (mz_up (mz_up (mz_up (mz_up w 20 0 xa) 20 1 xb) 20 2 (nI PW)) 20 3 (nI PH)) 20 4 xd) 21 (sm_pic PW PH 0 (fun i j => sm_end w (w 7 5) (xa + nI i * xd) (xb + nI j * xd) 0 0) ((mz_up (mz_up (mz_up (mz_up (mz_up w 20 0 xa) 20 1 xb) 20 2 (nI PW)) 20 3 (nI PH)) 20 4 xd) 21))) 22 (sm_pic PW PH 0 (fun i j => sm_last w (w 7 5) (xa + nI i * xd) (xb + nI j * xd) 0 0 4) ((mz_up (mz_up (mz_up (mz_up (mz_up w 20 0 xa) 20 1 xb) 20 2 (nI PW)) 20 3 (nI PH)) 20 4 xd) 22))) 50 rP) 51 fP) 52 gP) 66 60 (nI PW)) 66 61 (nI PH)) 66 62 xa) 66 63 xb) 66 64 xd) 66 sP) 65 rQ) 70 aQ) 71 bQ)
                      obtain ⟨-, ⟨d1, d2, d3, ⟨d4, d4b, d4c⟩, d5, d6, d7, d8⟩, da, db, dc⟩ := hI2
                      have hs : ∀ i, (i < 60 ∨ 146 ≤ i) → sP i = w 66 i := fun i hi => (hPS2.2.2 i (by omega)).trans (hT2r i (by omega))
                      have h6 : ∀ i, i < 36 → sm_colB ((sm_pic PW PH 0 (fun i j => sm_end w (w 7 5) (xa + nI i * xd) (xb + nI j * xd) 0 0) ((mz_up (mz_up (mz_up (mz_up (mz_up w 20 0 xa) 20 1 xb) 20 2 (nI PW)) 20 3 (nI PH)) 20 4 xd) 21)) i) ∧ sP (70 + i) = (sm_pic PW PH 0 (fun i j => sm_end w (w 7 5) (xa + nI i * xd) (xb + nI j * xd) 0 0) ((mz_up (mz_up (mz_up (mz_up (mz_up w 20 0 xa) 20 1 xb) 20 2 (nI PW)) 20 3 (nI PH)) 20 4 xd) 21)) i ∧ sP (110 + i) = (sm_pic PW PH 0 (fun i j => sm_last w (w 7 5) (xa + nI i * xd) (xb + nI j * xd) 0 0 4) ((mz_up (mz_up (mz_up (mz_up (mz_up w 20 0 xa) 20 1 xb) 20 2 (nI PW)) 20 3 (nI PH)) 20 4 xd) 22)) i := fun i hi => by
                        obtain ⟨z1, z2, z3⟩ := hpc i hi
                        exact sm_picd6 (E := (fun i j => sm_end w (w 7 5) (xa + nI i * xd) (xb + nI j * xd) 0 0)) (L := (fun i j => sm_last w (w 7 5) (xa + nI i * xd) (xb + nI j * xd) 0 0 4)) (c := (mz_up (mz_up (mz_up (mz_up (mz_up w 20 0 xa) 20 1 xb) 20 2 (nI PW)) 20 3 (nI PH)) 20 4 xd) 21) (l := (mz_up (mz_up (mz_up (mz_up (mz_up w 20 0 xa) 20 1 xb) 20 2 (nI PW)) 20 3 (nI PH)) 20 4 xd) 22) (c' := fun q => (mz_up (mz_up (mz_up (mz_up (mz_up (mz_set (mz_set (mz_set (mz_set (mz_set (mz_up (mz_up (mz_up (mz_up (mz_up w 20 0 xa) 20 1 xb) 20 2 (nI PW)) 20 3 (nI PH)) 20 4 xd) 21 (sm_pic PW PH 0 (fun i j => sm_end w (w 7 5) (xa + nI i * xd) (xb + nI j * xd) 0 0) ((mz_up (mz_up (mz_up (mz_up (mz_up w 20 0 xa) 20 1 xb) 20 2 (nI PW)) 20 3 (nI PH)) 20 4 xd) 21))) 22 (sm_pic PW PH 0 (fun i j => sm_last w (w 7 5) (xa + nI i * xd) (xb + nI j * xd) 0 0 4) ((mz_up (mz_up (mz_up (mz_up (mz_up w 20 0 xa) 20 1 xb) 20 2 (nI PW)) 20 3 (nI PH)) 20 4 xd) 22))) 50 rP) 51 fP) 52 gP) 66 60 (nI PW)) 66 61 (nI PH)) 66 62 xa) 66 63 xb) 66 64 xd) 66 (70 + q)) (l' := fun q => (mz_up (mz_up (mz_up (mz_up (mz_up (mz_set (mz_set (mz_set (mz_set (mz_set (mz_up (mz_up (mz_up (mz_up (mz_up w 20 0 xa) 20 1 xb) 20 2 (nI PW)) 20 3 (nI PH)) 20 4 xd) 21 (sm_pic PW PH 0 (fun i j => sm_end w (w 7 5) (xa + nI i * xd) (xb + nI j * xd) 0 0) ((mz_up (mz_up (mz_up (mz_up (mz_up w 20 0 xa) 20 1 xb) 20 2 (nI PW)) 20 3 (nI PH)) 20 4 xd) 21))) 22 (sm_pic PW PH 0 (fun i j => sm_last w (w 7 5) (xa + nI i * xd) (xb + nI j * xd) 0 0 4) ((mz_up (mz_up (mz_up (mz_up (mz_up w 20 0 xa) 20 1 xb) 20 2 (nI PW)) 20 3 (nI PH)) 20 4 xd) 22))) 50 rP) 51 fP) 52 gP) 66 60 (nI PW)) 66 61 (nI PH)) 66 62 xa) 66 63 xb) 66 64 xd) 66 (110 + q)) (fun a b => sm_end_col hw _ _ _ _ _) z1 ((hT2r (70 + i) (by omega)).trans z2) ((hT2r (110 + i) (by omega)).trans z3) (hPS2.1 i hi) (hPS2.2.1 i hi)
                      have h60 : sP 60 = nI PW := hPS2.2.2 60 (by omega)
                      have h61 : sP 61 = nI PH := hPS2.2.2 61 (by omega)
                      have h62 : sP 62 = xa := hPS2.2.2 62 (by omega)
                      have h63 : sP 63 = xb := hPS2.2.2 63 (by omega)
                      have h64 : sP 64 = xd := hPS2.2.2 64 (by omega)
                      have h6c : sm_c6 ((mz_set (mz_set (mz_set (mz_set (mz_up (mz_up (mz_up (mz_up (mz_up (mz_set (mz_set (mz_set (mz_set (mz_set (mz_up (mz_up (mz_up (mz_up (mz_up w 20 0 xa) 20 1 xb) 20 2 (nI PW)) 20 3 (nI PH)) 20 4 xd) 21 (sm_pic PW PH 0 (fun i j => sm_end w (w 7 5) (xa + nI i * xd) (xb + nI j * xd) 0 0) ((mz_up (mz_up (mz_up (mz_up (mz_up w 20 0 xa) 20 1 xb) 20 2 (nI PW)) 20 3 (nI PH)) 20 4 xd) 21))) 22 (sm_pic PW PH 0 (fun i j => sm_last w (w 7 5) (xa + nI i * xd) (xb + nI j * xd) 0 0 4) ((mz_up (mz_up (mz_up (mz_up (mz_up w 20 0 xa) 20 1 xb) 20 2 (nI PW)) 20 3 (nI PH)) 20 4 xd) 22))) 50 rP) 51 fP) 52 gP) 66 60 (nI PW)) 66 61 (nI PH)) 66 62 xa) 66 63 xb) 66 64 xd) 66 sP) 65 rQ) 70 aQ) 71 bQ) 20) ((mz_set (mz_set (mz_set (mz_set (mz_up (mz_up (mz_up (mz_up (mz_up (mz_set (mz_set (mz_set (mz_set (mz_set (mz_up (mz_up (mz_up (mz_up (mz_up w 20 0 xa) 20 1 xb) 20 2 (nI PW)) 20 3 (nI PH)) 20 4 xd) 21 (sm_pic PW PH 0 (fun i j => sm_end w (w 7 5) (xa + nI i * xd) (xb + nI j * xd) 0 0) ((mz_up (mz_up (mz_up (mz_up (mz_up w 20 0 xa) 20 1 xb) 20 2 (nI PW)) 20 3 (nI PH)) 20 4 xd) 21))) 22 (sm_pic PW PH 0 (fun i j => sm_last w (w 7 5) (xa + nI i * xd) (xb + nI j * xd) 0 0 4) ((mz_up (mz_up (mz_up (mz_up (mz_up w 20 0 xa) 20 1 xb) 20 2 (nI PW)) 20 3 (nI PH)) 20 4 xd) 22))) 50 rP) 51 fP) 52 gP) 66 60 (nI PW)) 66 61 (nI PH)) 66 62 xa) 66 63 xb) 66 64 xd) 66 sP) 65 rQ) 70 aQ) 71 bQ) 21) ((mz_set (mz_set (mz_set (mz_set (mz_up (mz_up (mz_up (mz_up (mz_up (mz_set (mz_set (mz_set (mz_set (mz_set (mz_up (mz_up (mz_up (mz_up (mz_up w 20 0 xa) 20 1 xb) 20 2 (nI PW)) 20 3 (nI PH)) 20 4 xd) 21 (sm_pic PW PH 0 (fun i j => sm_end w (w 7 5) (xa + nI i * xd) (xb + nI j * xd) 0 0) ((mz_up (mz_up (mz_up (mz_up (mz_up w 20 0 xa) 20 1 xb) 20 2 (nI PW)) 20 3 (nI PH)) 20 4 xd) 21))) 22 (sm_pic PW PH 0 (fun i j => sm_last w (w 7 5) (xa + nI i * xd) (xb + nI j * xd) 0 0 4) ((mz_up (mz_up (mz_up (mz_up (mz_up w 20 0 xa) 20 1 xb) 20 2 (nI PW)) 20 3 (nI PH)) 20 4 xd) 22))) 50 rP) 51 fP) 52 gP) 66 60 (nI PW)) 66 61 (nI PH)) 66 62 xa) 66 63 xb) 66 64 xd) 66 sP) 65 rQ) 70 aQ) 71 bQ) 22) sP := ⟨⟨PW, PH, hPW6, hPH6, by omega, rfl, rfl, h60, h61⟩, h62, h63, h64, h6⟩
                      exact ⟨hn, ⟨sm_k1 (hs 0 (by omega)) (fun i h1 h2 => hs i (by omega)) d1, sm_k2 (fun i h1 h2 => hs i (by omega)) d2, sm_k3 (hs 1 (by omega)) (fun i h1 h2 => hs i (by omega)) d3, ⟨sm_k4 (fun i h1 h2 => hs i (by omega)) d4, sm_k4 (fun i h1 h2 => hs i (by omega)) d4b, sm_k4 (fun i h1 h2 => hs i (by omega)) d4c⟩, sm_k5 (fun i h1 h2 => hs i (by omega)) d5, h6c, sm_k7 (fun i h1 h2 => hs i (by omega)) d7, sm_k8 (hs 2 (by omega)) (hs 3 (by omega)) (fun i h1 h2 => hs i (by omega)) d8⟩, da, (by rw [show (mz_set (mz_set (mz_set (mz_set (mz_up (mz_up (mz_up (mz_up (mz_up (mz_set (mz_set (mz_set (mz_set (mz_set (mz_up (mz_up (mz_up (mz_up (mz_up w 20 0 xa) 20 1 xb) 20 2 (nI PW)) 20 3 (nI PH)) 20 4 xd) 21 (sm_pic PW PH 0 (fun i j => sm_end w (w 7 5) (xa + nI i * xd) (xb + nI j * xd) 0 0) ((mz_up (mz_up (mz_up (mz_up (mz_up w 20 0 xa) 20 1 xb) 20 2 (nI PW)) 20 3 (nI PH)) 20 4 xd) 21))) 22 (sm_pic PW PH 0 (fun i j => sm_last w (w 7 5) (xa + nI i * xd) (xb + nI j * xd) 0 0 4) ((mz_up (mz_up (mz_up (mz_up (mz_up w 20 0 xa) 20 1 xb) 20 2 (nI PW)) 20 3 (nI PH)) 20 4 xd) 22))) 50 rP) 51 fP) 52 gP) 66 60 (nI PW)) 66 61 (nI PH)) 66 62 xa) 66 63 xb) 66 64 xd) 66 sP) 65 rQ) 70 aQ) 71 bQ) 65 19 = w 65 19 from ((hKQ 19 (by omega)).trans rfl)]; exact db), (by rw [show (mz_set (mz_set (mz_set (mz_set (mz_up (mz_up (mz_up (mz_up (mz_up (mz_set (mz_set (mz_set (mz_set (mz_set (mz_up (mz_up (mz_up (mz_up (mz_up w 20 0 xa) 20 1 xb) 20 2 (nI PW)) 20 3 (nI PH)) 20 4 xd) 21 (sm_pic PW PH 0 (fun i j => sm_end w (w 7 5) (xa + nI i * xd) (xb + nI j * xd) 0 0) ((mz_up (mz_up (mz_up (mz_up (mz_up w 20 0 xa) 20 1 xb) 20 2 (nI PW)) 20 3 (nI PH)) 20 4 xd) 21))) 22 (sm_pic PW PH 0 (fun i j => sm_last w (w 7 5) (xa + nI i * xd) (xb + nI j * xd) 0 0 4) ((mz_up (mz_up (mz_up (mz_up (mz_up w 20 0 xa) 20 1 xb) 20 2 (nI PW)) 20 3 (nI PH)) 20 4 xd) 22))) 50 rP) 51 fP) 52 gP) 66 60 (nI PW)) 66 61 (nI PH)) 66 62 xa) 66 63 xb) 66 64 xd) 66 sP) 65 rQ) 70 aQ) 71 bQ) 65 2 = w 65 2 from ((hKQ 2 (by omega)).trans rfl)]; exact sm_cc_of (fun i h1 h2 => by simp only [mz_set_ne (show i ≠ 21 by omega), mz_set_ne (show i ≠ 22 by omega), mz_set_ne (show i ≠ 50 by omega), mz_set_ne (show i ≠ 51 by omega), mz_set_ne (show i ≠ 52 by omega), mz_set_ne (show i ≠ 65 by omega), mz_set_ne (show i ≠ 66 by omega), mz_set_ne (show i ≠ 70 by omega), mz_set_ne (show i ≠ 71 by omega), mz_up_ne (show i ≠ 20 by omega), mz_up_ne (show i ≠ 66 by omega)]) dc)⟩
