/-! the nearest magnet -/
def sm_push (k : Int32) : Bool := decide (k = 2) || decide (k = 6)
/-- of the first magnets: the nearest (of those at which one may rest, with tr), and its FAR -/
def sm_near (kd px py : Nat → Int32) (x y : Int32) (tr : Bool) : Nat → Int32 × Int32
  | 0 => (-1, 0)
  | k + 1 => if ((sm_near kd px py x y tr k).1 < 0 ∨ sm_far (px k) (py k) x y < (sm_near kd px py x y tr k).2) ∧ ¬ (tr = true ∧ sm_push (kd k) = true) then (nI k, sm_far (px k) (py k) x y) else sm_near kd px py x y tr k
theorem sm_near_is (kd px py : Nat → Int32) (x y : Int32) (tr : Bool) : ∀ n, n < 2 ^ 31 → (sm_near kd px py x y tr n).1 = -1 ∨ ∃ j, j < n ∧ (sm_near kd px py x y tr n).1 = nI j ∧ (sm_near kd px py x y tr n).2 = sm_far (px j) (py j) x y := by
  intro n
  induction n with
  | zero => exact fun _ => Or.inl rfl
  | succ n ih =>
    intro hn
    unfold sm_near
    split
    · exact Or.inr ⟨n, by omega, rfl, rfl⟩
    · rcases ih (by omega) with h | ⟨j, h1, h2, h3⟩
      · exact Or.inl h
      · exact Or.inr ⟨j, by omega, h2, h3⟩
theorem sm_near_neg {kd px py : Nat → Int32} {x y : Int32} {tr : Bool} {n : Nat} (hn : n < 2 ^ 31) (h : (sm_near kd px py x y tr n).1 < 0) : (sm_near kd px py x y tr n).1 = -1 := by
  rcases sm_near_is kd px py x y tr n hn with h1 | ⟨j, h1, h2, -⟩
  · exact h1
  · rw [h2] at h
    exact absurd h (nI_pos (by omega))
theorem sm_near_pos {kd px py : Nat → Int32} {x y : Int32} {tr : Bool} {n : Nat} (hn : n < 2 ^ 31) (h : ¬ (sm_near kd px py x y tr n).1 < 0) : ∃ j, j < n ∧ (sm_near kd px py x y tr n).1 = nI j ∧ (sm_near kd px py x y tr n).2 = sm_far (px j) (py j) x y := by
  rcases sm_near_is kd px py x y tr n hn with h1 | h1
  · rw [h1] at h
    exact absurd (by decide) h
  · exact h1
/-! what a text gives -/
def sm_upd (f : Nat → Int32) (k : Nat) (v : Int32) : Nat → Int32 := fun j => if j = k then v else f j
def sm_bI (b : Bool) : Int32 := if b then 1 else 0
def sm_op (s a b : Int32) : Int32 :=
  if s = 124 then sm_bI (!decide (a = 0) || !decide (b = 0))
  else if s = 38 then sm_bI (!decide (a = 0) && !decide (b = 0))
  else if s = 60 then sm_bI (decide (a < b))
  else if s = 61 then sm_bI (decide (a = b))
  else if s = 62 then sm_bI (decide (b < a))
  else if s = 43 then a + b
  else if s = 45 then a - b
  else if s = 42 then a * b
  else if s = 47 then (if b = 0 then 0 else a / b)
  else (if b = 0 then 0 else a - a / b * b)
def sm_dp (sg : Nat → Int32) : Nat → Nat
  | 0 => 0
  | k + 1 => if sg k = 0 ∨ sg k = 1 then sm_dp sg k + 1 else if sg k = 33 then sm_dp sg k else sm_dp sg k - 1
def sm_st (sg va nm : Nat → Int32) : Nat → Nat → Int32
  | 0 => fun _ => 0
  | k + 1 => if sg k = 0 then sm_upd (sm_st sg va nm k) (sm_dp sg k) (va k)
    else if sg k = 1 then sm_upd (sm_st sg va nm k) (sm_dp sg k) (nm (va k).toNatClampNeg)
    else if sg k = 33 then sm_upd (sm_st sg va nm k) (sm_dp sg k - 1) (sm_bI (decide (sm_st sg va nm k (sm_dp sg k - 1) = 0)))
    else sm_upd (sm_st sg va nm k) (sm_dp sg k - 2) (sm_op (sg k) (sm_st sg va nm k (sm_dp sg k - 2)) (sm_st sg va nm k (sm_dp sg k - 1)))
def sm_sgn (s : Int32) : Bool := [124, 38, 60, 61, 62, 43, 45, 42, 47, 37].contains s
/-- a text of n steps, with so many names, is good -/
def sm_wf (n names : Nat) (sg va : Nat → Int32) : Prop := n ≤ 60 ∧ sm_dp sg n = 1 ∧ ∀ k, k < n → sg k = 0 ∨ (sg k = 1 ∧ ∃ j, j < names ∧ va k = nI j) ∨ (sg k = 33 ∧ 1 ≤ sm_dp sg k) ∨ (sm_sgn (sg k) = true ∧ 2 ≤ sm_dp sg k)
theorem sm_dp_le (sg : Nat → Int32) : ∀ k, sm_dp sg k ≤ k := by
  intro k
  induction k with
  | zero => exact Nat.le_refl 0
  | succ k ih =>
    unfold sm_dp
    split
    · omega
    · split <;> omega
/-- names' values as a row -/
def sm_nm (a b c d e : Int32) : Nat → Int32 := fun k => if k = 0 then a else if k = 1 then b else if k = 2 then c else if k = 3 then d else e
def sm_ev (n : Nat) (sg va nm : Nat → Int32) : Int32 := sm_st sg va nm n 0
/-! pulls and rubs -/
def sm_full (m : mz_M) (st r t : Int32) : Int32 := if m 10 2 ≤ 0 then st * 9 / (r + 3) else sm_held (sm_ev (m 10 2).toNatClampNeg (m 11) (m 12) (sm_nm r st t 0 0)) (-999) 999
def sm_kind (k v r t : Int32) : Int32 :=
  if k = 0 then v else if k = 1 then v / 2 else if k = 2 then 0 - v
  else if k = 3 then (if t - t / 2 * 2 = 0 then v else 0)
  else if k = 4 then (if r ≤ 20 then v / 2 else 0)
  else if k = 5 then (if t - t / 2 * 2 = 0 ∧ 3 < v then v - 3 else 0)
  else 0 - 2 * v
def sm_pull (m : mz_M) (k : Nat) (x y t : Int32) : Int32 := sm_kind (m 3 k) (sm_full m (m 6 k) (sm_far (m 4 k) (m 5 k) x y) t) (sm_far (m 4 k) (m 5 k) x y) t
/-- what the first magnets make of U, V -/
def sm_uv (m : mz_M) (f x y u v t : Int32) : Nat → Int32 × Int32
  | 0 => (u, v)
  | k + 1 => ((sm_uv m f x y u v t k).1 + (16 * m 4 k - x) * sm_pull m k x y t / (16 * (sm_far (m 4 k) (m 5 k) x y + 1)) / f, (sm_uv m f x y u v t k).2 + (16 * m 5 k - y) * sm_pull m k x y t / (16 * (sm_far (m 4 k) (m 5 k) x y + 1)) / f)
def sm_cnt (m : mz_M) : Nat := (m 2 4).toNatClampNeg
def sm_nearr (m : mz_M) (x y : Int32) : Int32 := if (sm_near (m 3) (m 4) (m 5) x y false (sm_cnt m)).1 < 0 then 999 else (sm_near (m 3) (m 4) (m 5) x y false (sm_cnt m)).2
def sm_rub (m : mz_M) (x y u v t : Int32) : Int32 := if m 13 2 ≤ 0 then m 7 1 else sm_held (sm_ev (m 13 2).toNatClampNeg (m 14) (m 15) (sm_nm (sm_abs u + sm_abs v) (sm_nearr m x y) t 0 0)) 0 99
/-- U behind gravity -/
def sm_gr (m : mz_M) (f x u : Int32) : Int32 := u - x * m 7 0 / 1600 / f
def sm_ru (f rub u : Int32) : Int32 := u - u * rub / 100 / f
/-- a tick: x, y, u, v, ticks -/
def sm_tick (m : mz_M) (f : Int32) (b : Nat → Int32) : Nat → Int32 :=
  let p := sm_uv m f (b 0) (b 1) (b 2) (b 3) (b 4) (sm_cnt m)
  let u := sm_gr m f (b 0) p.1
  let v := sm_gr m f (b 1) p.2
  let rub := sm_rub m (b 0) (b 1) u v (b 4)
  let u := sm_ru f rub u
  let v := sm_ru f rub v
  let x := b 0 + u / f
  let y := b 1 + v / f
  fun k => if k = 0 then sm_held x (-1600) 1600 else if k = 1 then sm_held y (-1600) 1600
    else if k = 2 then (if sm_held x (-1600) 1600 = x then u else 0)
    else if k = 3 then (if sm_held y (-1600) 1600 = y then v else 0) else b 4 + 1
def sm_rest (m : mz_M) (b : Nat → Int32) : Int32 :=
  if m 7 3 < sm_abs (b 2) + sm_abs (b 3) then 9
  else if (sm_near (m 3) (m 4) (m 5) (b 0) (b 1) true (sm_cnt m)).1 < 0 then 9
  else if m 7 4 < (sm_near (m 3) (m 4) (m 5) (b 0) (b 1) true (sm_cnt m)).2 then 9
  else (sm_near (m 3) (m 4) (m 5) (b 0) (b 1) true (sm_cnt m)).1
/-- so many more ticks, until it rests -/
def sm_run (m : mz_M) (f : Int32) : Nat → (Nat → Int32) → Nat → Int32
  | 0, b => b
  | n + 1, b => if sm_rest m b = 9 then sm_run m f n (sm_tick m f b) else b
def sm_go (x y u v : Int32) : Nat → Int32 := fun k => if k = 0 then 16 * x else if k = 1 then 16 * y else if k = 2 then u else if k = 3 then v else 0
