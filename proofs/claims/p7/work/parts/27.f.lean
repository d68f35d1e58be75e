/-! throws -/
def sm_z1 (z : Int32) : Int32 := (z * 1103515245) + 12345
def sm_sh (z : Int32) : Int32 := (z.toUInt32 >>> ((8 : Int32).toUInt32 &&& Int32.toUInt32 31)).toInt32
def sm_dr (z d : Int32) : Int32 := (sm_sh z - sm_sh z / ((2 * d) + 1) * ((2 * d) + 1)) - d
def sm_thx (x z d : Int32) : Int32 := sm_held (x + sm_dr (sm_z1 z) d) (-100) 100
def sm_the (w : mz_M) (f x y d z : Int32) : Int32 := sm_end w f (sm_thx x z d) (sm_thx y (sm_z1 z) d) 0 0
def sm_z2 (z : Int32) : Int32 := sm_z1 (sm_z1 z)
def sm_thd (w : mz_M) (f x y d z : Int32) (c : Nat → Int32) : Nat → Int32 := sm_upd c (sm_the w f x y d z).toNatClampNeg (c (sm_the w f x y d z).toNatClampNeg + 1)
theorem sm_z2_eq (z : Int32) : sm_z1 (sm_z1 z) = sm_z2 z := rfl
def sm_it (F : Int32 → Int32) : Nat → Int32 → Int32
  | 0, z => z
  | n + 1, z => sm_it F n (F z)
def sm_ic (F : Int32 → Int32) (G : Int32 → (Nat → Int32) → Nat → Int32) : Nat → Int32 → (Nat → Int32) → Nat → Int32
  | 0, _, c => c
  | n + 1, z, c => sm_ic F G n (F z) (G z c)
theorem sm_it_S (F : Int32 → Int32) (n : Nat) (z : Int32) : sm_it F (n + 1) z = sm_it F n (F z) := rfl
theorem sm_ic_S (F : Int32 → Int32) (G : Int32 → (Nat → Int32) → Nat → Int32) (n : Nat) (z : Int32) (c : Nat → Int32) : sm_ic F G (n + 1) z c = sm_ic F G n (F z) (G z c) := rfl
theorem sm_heldB (v : Int32) : sm_B 100 (sm_held v (-100) 100) := by
  have e1 : (-100 : Int32).toInt = -100 := by decide
  have e2 : (100 : Int32).toInt = 100 := by decide
  unfold sm_held
  by_cases h1 : v < -100
  · rw [if_pos h1]
    unfold sm_B
    rw [e1]
    omega
  · rw [if_neg h1]
    by_cases h2 : 100 < v
    · rw [if_pos h2]
      unfold sm_B
      rw [e2]
      omega
    · rw [if_neg h2]
      rw [Int32.lt_iff_toInt_lt, e1] at h1
      rw [Int32.lt_iff_toInt_lt, e2] at h2
      unfold sm_B
      omega
theorem sm_adds (x a d : Int32) : (x + a) - d = x + (a - d) := by
  rw [Int32.sub_eq_add_neg, Int32.sub_eq_add_neg, Int32.add_assoc]
theorem sm_the_N {w : mz_M} {N : Nat} (hw : sm_W w N) (f x y d z : Int32) : ∃ V, V ≤ 9 ∧ sm_the w f x y d z = nI V := sm_colN (sm_end_col hw _ _ _ _ _)
theorem sm_thd_eq {w : mz_M} {f x y d z : Int32} {c : Nat → Int32} {V : Nat} (hV : V ≤ 9) (e : sm_the w f x y d z = nI V) : sm_thd w f x y d z c = sm_upd c V (c V + 1) := by
  have h : (sm_the w f x y d z).toNatClampNeg = V := by rw [e, nI_clamp (by omega)]
  show sm_upd c (sm_the w f x y d z).toNatClampNeg (c (sm_the w f x y d z).toNatClampNeg + 1) = _
  rw [h]
set_option maxHeartbeats 4000000 in
set_option maxRecDepth 100000 in
theorem cs_wan {m : mz_M} {D : Nat} (hD : D ≤ 50) : mz_Me 5 mz_r111 [.ref 0, .int (nI D)] m (some (.int (sm_dr (sm_z1 (m 1 12)) (nI D)))) (mz_up m 1 12 (sm_z1 (m 1 12))) := by
  show mz_Me 5 mz_r111 [.ref 0, .int (nI D)] m (some (.int (((((((m 1 12) * 1103515245) + 12345 : Int32).toUInt32 >>> ((8 : Int32).toUInt32 &&& Int32.toUInt32 31)).toInt32) - (((((m 1 12) * 1103515245) + 12345 : Int32).toUInt32 >>> ((8 : Int32).toUInt32 &&& Int32.toUInt32 31)).toInt32) / ((2 * (nI D)) + 1) * ((2 * (nI D)) + 1)) - (nI D)))) (mz_up m 1 12 (((m 1 12) * 1103515245) + 12345))
  refine ⟨?_, rfl⟩
  refine mz_go 18 (c' := (if ((2 * (nI D)) + 1) ≤ 0 then 49 else 32, [some (.ref 0), some (.int (nI D)), some (.int ((2 * (nI D)) + 1))], [], mz_up m 1 12 (((m 1 12) * 1103515245) + 12345))) rfl ?_
  refine mz_ifF (show ¬ (((2 * (nI D)) + 1) ≤ 0) from (sm_nleN (sm_addN (sm_mulN rfl rfl) rfl) rfl (show 0 < ((2 * D) + 1) by omega) (show ((2 * D) + 1) < 2 ^ 31 by omega))) ?_
  refine mz_go 6 (c' := (43, [some (.ref 0), some (.int (nI D)), some (.int ((2 * (nI D)) + 1))], [.int ((2 * (nI D)) + 1), .int (((((m 1 12) * 1103515245) + 12345 : Int32).toUInt32 >>> ((8 : Int32).toUInt32 &&& Int32.toUInt32 31)).toInt32)], mz_up m 1 12 (((m 1 12) * 1103515245) + 12345))) rfl ?_
  refine mz_div (c' := (44, [some (.ref 0), some (.int (nI D)), some (.int ((2 * (nI D)) + 1))], [.int ((((((m 1 12) * 1103515245) + 12345 : Int32).toUInt32 >>> ((8 : Int32).toUInt32 &&& Int32.toUInt32 31)).toInt32) - (((((m 1 12) * 1103515245) + 12345 : Int32).toUInt32 >>> ((8 : Int32).toUInt32 &&& Int32.toUInt32 31)).toInt32) / ((2 * (nI D)) + 1) * ((2 * (nI D)) + 1))], mz_up m 1 12 (((m 1 12) * 1103515245) + 12345))) rfl (sm_neN (a := 2 * D + 1) (b := 0) (sm_addN (sm_mulN rfl rfl) rfl) rfl (by omega) (by omega) (by decide)) ?_
  refine mz_go 3 (c' := (50, [some (.ref 0), some (.int (nI D)), some (.int ((2 * (nI D)) + 1))], [.int (((((((m 1 12) * 1103515245) + 12345 : Int32).toUInt32 >>> ((8 : Int32).toUInt32 &&& Int32.toUInt32 31)).toInt32) - (((((m 1 12) * 1103515245) + 12345 : Int32).toUInt32 >>> ((8 : Int32).toUInt32 &&& Int32.toUInt32 31)).toInt32) / ((2 * (nI D)) + 1) * ((2 * (nI D)) + 1)) - (nI D))], mz_up m 1 12 (((m 1 12) * 1103515245) + 12345))) rfl ?_
  exact mz_ret rfl
set_option maxHeartbeats 4000000 in
set_option maxRecDepth 100000 in
theorem ct_draw {m : mz_M} : mz_Me 5 mz_r205 [.ref 65] m (some (.int (sm_sh (sm_z1 (m 66 3))))) (mz_up m 66 3 (sm_z1 (m 66 3))) := by
  show mz_Me 5 mz_r205 [.ref 65] m (some (.int (((((m 66 3) * 1103515245) + 12345 : Int32).toUInt32 >>> ((8 : Int32).toUInt32 &&& Int32.toUInt32 31)).toInt32))) (mz_up m 66 3 (((m 66 3) * 1103515245) + 12345))
  refine ⟨?_, rfl⟩
  refine mz_go 18 (c' := (28, [some (.ref 65)], [.int (((((m 66 3) * 1103515245) + 12345 : Int32).toUInt32 >>> ((8 : Int32).toUInt32 &&& Int32.toUInt32 31)).toInt32)], mz_up m 66 3 (((m 66 3) * 1103515245) + 12345))) rfl ?_
  exact mz_ret rfl
set_option maxHeartbeats 4000000 in
set_option maxRecDepth 100000 in
theorem cs_thrl {m w : mz_M} {N : Nat} (hWl : sm_Wl m w) (hw : sm_W w N) (hr5 : w 7 5 = 1 ∨ w 7 5 = 2) (hr80 : sm_N 80 (w 7 2)) {n D : Nat} (hn : n ≤ 40) (hD : D ≤ 50) (xa xb : Int32) : ∀ j k : Nat, k + j = n → ∀ (t c r f g : Nat → Int32) (o7 o8 o9 : Option Value), ∃ (t' c' r' f' g' : Nat → Int32) (p7 p8 p9 : Option Value), t' 12 = sm_it sm_z2 j (t 12) ∧ c' = sm_ic sm_z2 (sm_thd w (w 7 5) xa xb (nI D)) j (t 12) c ∧ (∀ i, i ≠ 12 → t' i = t i) ∧ ∀ res, mz_Ex 100 mz_k94 (149, [some (.ref 0), some (.int xa), some (.int xb), some (.int (nI D)), some (.int (nI n)), some (.ref 23), some (.int (nI n)), p7, p8, p9], [], mz_set (mz_set (mz_set (mz_set (mz_set m 1 t') 23 c') 50 r') 51 f') 52 g') res → mz_Ex 100 mz_k94 (60, [some (.ref 0), some (.int xa), some (.int xb), some (.int (nI D)), some (.int (nI n)), some (.ref 23), some (.int (nI k)), o7, o8, o9], [], mz_set (mz_set (mz_set (mz_set (mz_set m 1 t) 23 c) 50 r) 51 f) 52 g) res := by
  have h75 : m 7 5 = w 7 5 := by rw [hWl 7 (by decide) (by decide)]
  intro j
  induction j with
  | zero =>
    intro k hk t c r f g o7 o8 o9
    rw [show k = n by omega]
    exact ⟨t, c, r, f, g, o7, o8, o9, rfl, rfl, fun i hi => rfl, fun res hr => by
      refine mz_go 3 (c' := (if (nI n) ≤ (nI n) then 149 else 67, [some (.ref 0), some (.int xa), some (.int xb), some (.int (nI D)), some (.int (nI n)), some (.ref 23), some (.int (nI n)), o7, o8, o9], [], mz_set (mz_set (mz_set (mz_set (mz_set m 1 t) 23 c) 50 r) 51 f) 52 g)) rfl ?_
      refine mz_ifT (show ((nI n) ≤ (nI n)) from (sm_leN rfl rfl (show n ≤ n by omega) (show n < 2 ^ 31 by omega))) ?_
      exact hr⟩
  | succ j ih =>
    intro k hk t c r f g o7 o8 o9
    obtain ⟨za, hza⟩ : ∃ q, sm_z1 (t 12) = q := ⟨_, rfl⟩
    have Wza := cs_wan (m := mz_set (mz_set (mz_set (mz_set (mz_set m 1 t) 23 c) 50 r) 51 f) 52 g) (D := D) (by omega)
    rw [show (mz_set (mz_set (mz_set (mz_set (mz_set m 1 t) 23 c) 50 r) 51 f) 52 g) 1 12 = t 12 from rfl, hza] at Wza
    obtain ⟨zb, hzb⟩ : ∃ q, sm_z1 za = q := ⟨_, rfl⟩
    have Wzb := cs_wan (m := mz_up (mz_set (mz_set (mz_set (mz_set (mz_set m 1 t) 23 c) 50 r) 51 f) 52 g) 1 12 za) (D := D) (by omega)
    rw [show (mz_up (mz_set (mz_set (mz_set (mz_set (mz_set m 1 t) 23 c) 50 r) 51 f) 52 g) 1 12 za) 1 12 = za from rfl, hzb] at Wzb
    obtain ⟨V, hV, eV⟩ := sm_the_N hw (w 7 5) xa xb (nI D) (t 12)
    obtain ⟨re1, fe1, ge1, le1, Ee1⟩ := cw_end (m := mz_up (mz_up (mz_set (mz_set (mz_set (mz_set (mz_set m 1 t) 23 c) 50 r) 51 f) 52 g) 1 12 za) 1 12 zb) (w := w) (fun i h1 h2 => by simp only [mz_set_ne (show i ≠ 1 by omega), mz_set_ne (show i ≠ 23 by omega), mz_set_ne (show i ≠ 50 by omega), mz_set_ne (show i ≠ 51 by omega), mz_set_ne (show i ≠ 52 by omega), mz_up_ne (show i ≠ 1 by omega)]; exact hWl i h1 h2) hw (hr5.imp id Or.inl) hr80 (x := sm_held (xa + (sm_dr za (nI D))) (-100) 100) (y := sm_held (xb + (sm_dr zb (nI D))) (-100) 100) (sm_heldB _) (sm_heldB _) 0 0
    have eV2 : sm_end w (w 7 5) (sm_held (xa + (sm_dr za (nI D))) (-100) 100) (sm_held (xb + (sm_dr zb (nI D))) (-100) 100) 0 0 = nI V := by
      have h := eV
      unfold sm_the sm_thx at h
      rw [hza, hzb] at h
      exact h
    rw [eV2] at Ee1
    have e1 : ((mz_up (mz_set (mz_set (mz_set (mz_up (mz_up (mz_set (mz_set (mz_set (mz_set (mz_set m 1 t) 23 c) 50 r) 51 f) 52 g) 1 12 za) 1 12 zb) 50 re1) 51 fe1) 52 ge1) 23 V ((c V) + 1)) 1) = sm_upd (sm_upd t 12 za) 12 zb := by
      rw [mz_up_ne (show (1 : Nat) ≠ 23 by decide), mz_set_ne (show (1 : Nat) ≠ 52 by decide), mz_set_ne (show (1 : Nat) ≠ 51 by decide), mz_set_ne (show (1 : Nat) ≠ 50 by decide), sm_up_row, sm_up_row, mz_set_ne (show (1 : Nat) ≠ 52 by decide), mz_set_ne (show (1 : Nat) ≠ 51 by decide), mz_set_ne (show (1 : Nat) ≠ 50 by decide), mz_set_ne (show (1 : Nat) ≠ 23 by decide), mz_set_eq]
    have e12 : ((mz_up (mz_set (mz_set (mz_set (mz_up (mz_up (mz_set (mz_set (mz_set (mz_set (mz_set m 1 t) 23 c) 50 r) 51 f) 52 g) 1 12 za) 1 12 zb) 50 re1) 51 fe1) 52 ge1) 23 V ((c V) + 1)) 1) 12 = sm_z2 (t 12) := (congrFun e1 12).trans ((if_pos rfl).trans (by rw [← hzb, ← hza, sm_z2_eq]))
    have e23 : ((mz_up (mz_set (mz_set (mz_set (mz_up (mz_up (mz_set (mz_set (mz_set (mz_set (mz_set m 1 t) 23 c) 50 r) 51 f) 52 g) 1 12 za) 1 12 zb) 50 re1) 51 fe1) 52 ge1) 23 V ((c V) + 1)) 23) = sm_upd c V (c V + 1) := by
      rw [sm_up_row, mz_set_ne (show (23 : Nat) ≠ 52 by decide), mz_set_ne (show (23 : Nat) ≠ 51 by decide), mz_set_ne (show (23 : Nat) ≠ 50 by decide), mz_up_ne (show (23 : Nat) ≠ 1 by decide), mz_up_ne (show (23 : Nat) ≠ 1 by decide), mz_set_ne (show (23 : Nat) ≠ 52 by decide), mz_set_ne (show (23 : Nat) ≠ 51 by decide), mz_set_ne (show (23 : Nat) ≠ 50 by decide), mz_set_eq]
    have hm : mz_up (mz_set (mz_set (mz_set (mz_up (mz_up (mz_set (mz_set (mz_set (mz_set (mz_set m 1 t) 23 c) 50 r) 51 f) 52 g) 1 12 za) 1 12 zb) 50 re1) 51 fe1) 52 ge1) 23 V ((c V) + 1) = mz_set (mz_set (mz_set (mz_set (mz_set m 1 ((mz_up (mz_set (mz_set (mz_set (mz_up (mz_up (mz_set (mz_set (mz_set (mz_set (mz_set m 1 t) 23 c) 50 r) 51 f) 52 g) 1 12 za) 1 12 zb) 50 re1) 51 fe1) 52 ge1) 23 V ((c V) + 1)) 1)) 23 ((mz_up (mz_set (mz_set (mz_set (mz_up (mz_up (mz_set (mz_set (mz_set (mz_set (mz_set m 1 t) 23 c) 50 r) 51 f) 52 g) 1 12 za) 1 12 zb) 50 re1) 51 fe1) 52 ge1) 23 V ((c V) + 1)) 23)) 50 ((mz_up (mz_set (mz_set (mz_set (mz_up (mz_up (mz_set (mz_set (mz_set (mz_set (mz_set m 1 t) 23 c) 50 r) 51 f) 52 g) 1 12 za) 1 12 zb) 50 re1) 51 fe1) 52 ge1) 23 V ((c V) + 1)) 50)) 51 ((mz_up (mz_set (mz_set (mz_set (mz_up (mz_up (mz_set (mz_set (mz_set (mz_set (mz_set m 1 t) 23 c) 50 r) 51 f) 52 g) 1 12 za) 1 12 zb) 50 re1) 51 fe1) 52 ge1) 23 V ((c V) + 1)) 51)) 52 ((mz_up (mz_set (mz_set (mz_set (mz_up (mz_up (mz_set (mz_set (mz_set (mz_set (mz_set m 1 t) 23 c) 50 r) 51 f) 52 g) 1 12 za) 1 12 zb) 50 re1) 51 fe1) 52 ge1) 23 V ((c V) + 1)) 52) := sm_of5 (fun i h1 h2 h3 h4 h5 => by simp only [mz_set_ne h1, mz_set_ne h2, mz_set_ne h3, mz_set_ne h4, mz_set_ne h5, mz_up_ne h1, mz_up_ne h2])
    obtain ⟨t', c', r', f', g', p7, p8, p9, h1, h1c, h2, E⟩ := ih (k + 1) (by omega) ((mz_up (mz_set (mz_set (mz_set (mz_up (mz_up (mz_set (mz_set (mz_set (mz_set (mz_set m 1 t) 23 c) 50 r) 51 f) 52 g) 1 12 za) 1 12 zb) 50 re1) 51 fe1) 52 ge1) 23 V ((c V) + 1)) 1) ((mz_up (mz_set (mz_set (mz_set (mz_up (mz_up (mz_set (mz_set (mz_set (mz_set (mz_set m 1 t) 23 c) 50 r) 51 f) 52 g) 1 12 za) 1 12 zb) 50 re1) 51 fe1) 52 ge1) 23 V ((c V) + 1)) 23) ((mz_up (mz_set (mz_set (mz_set (mz_up (mz_up (mz_set (mz_set (mz_set (mz_set (mz_set m 1 t) 23 c) 50 r) 51 f) 52 g) 1 12 za) 1 12 zb) 50 re1) 51 fe1) 52 ge1) 23 V ((c V) + 1)) 50) ((mz_up (mz_set (mz_set (mz_set (mz_up (mz_up (mz_set (mz_set (mz_set (mz_set (mz_set m 1 t) 23 c) 50 r) 51 f) 52 g) 1 12 za) 1 12 zb) 50 re1) 51 fe1) 52 ge1) 23 V ((c V) + 1)) 51) ((mz_up (mz_set (mz_set (mz_set (mz_up (mz_up (mz_set (mz_set (mz_set (mz_set (mz_set m 1 t) 23 c) 50 r) 51 f) 52 g) 1 12 za) 1 12 zb) 50 re1) 51 fe1) 52 ge1) 23 V ((c V) + 1)) 52) (some (.int (sm_held (xa + (sm_dr za (nI D))) (-100) 100))) (some (.int (sm_held (xb + (sm_dr zb (nI D))) (-100) 100))) (some (.int (nI V)))
    refine ⟨t', c', r', f', g', p7, p8, p9, ?_, ?_, fun i hi => (h2 i hi).trans ?_, fun res hr0 => ?_⟩
    · rw [sm_it_S, h1, e12]
    · rw [sm_ic_S, h1c, e12, e23, sm_thd_eq hV eV]
    · rw [e1]
      unfold sm_upd
      rw [if_neg hi, if_neg hi]
    · have hr := E res hr0
      rw [nI_succ k, ← hm] at hr
      refine mz_go 3 (c' := (if (nI n) ≤ (nI k) then 149 else 67, [some (.ref 0), some (.int xa), some (.int xb), some (.int (nI D)), some (.int (nI n)), some (.ref 23), some (.int (nI k)), o7, o8, o9], [], mz_set (mz_set (mz_set (mz_set (mz_set m 1 t) 23 c) 50 r) 51 f) 52 g)) rfl ?_
      refine mz_ifF (show ¬ ((nI n) ≤ (nI k)) from (sm_nleN rfl rfl (show k < n by omega) (show n < 2 ^ 31 by omega))) ?_
      refine mz_go 3 (c' := (70, [some (.ref 0), some (.int xa), some (.int xb), some (.int (nI D)), some (.int (nI n)), some (.ref 23), some (.int (nI k)), o7, o8, o9], [.int (nI D), .ref 0, .int xa], mz_set (mz_set (mz_set (mz_set (mz_set m 1 t) 23 c) 50 r) 51 f) 52 g)) rfl ?_
      refine mz_do (R := mz_r111) (as := [.ref 0, .int (nI D)]) (rest := [.int xa]) (r1 := some (.int (sm_dr za (nI D)))) (m1 := mz_up (mz_set (mz_set (mz_set (mz_set (mz_set m 1 t) 23 c) 50 r) 51 f) 52 g) 1 12 za) rfl (Wza.deep (by decide)) ?_
      refine mz_go 3 (c' := (78, [some (.ref 0), some (.int xa), some (.int xb), some (.int (nI D)), some (.int (nI n)), some (.ref 23), some (.int (nI k)), o7, o8, o9], [.int 100, .int (-100), .int (xa + (sm_dr za (nI D)))], mz_up (mz_set (mz_set (mz_set (mz_set (mz_set m 1 t) 23 c) 50 r) 51 f) 52 g) 1 12 za)) rfl ?_
      refine mz_do (R := mz_r122) (as := [.int (xa + (sm_dr za (nI D))), .int (-100), .int 100]) (rest := []) (r1 := some (.int (sm_held (xa + (sm_dr za (nI D))) (-100) 100))) (m1 := mz_up (mz_set (mz_set (mz_set (mz_set (mz_set m 1 t) 23 c) 50 r) 51 f) 52 g) 1 12 za) rfl ((cs_held (m := mz_up (mz_set (mz_set (mz_set (mz_set (mz_set m 1 t) 23 c) 50 r) 51 f) 52 g) 1 12 za) (v := xa + (sm_dr za (nI D))) (a := -100) (b := 100) (by decide)).deep (by decide)) ?_
      refine mz_go 4 (c' := (86, [some (.ref 0), some (.int xa), some (.int xb), some (.int (nI D)), some (.int (nI n)), some (.ref 23), some (.int (nI k)), some (.int (sm_held (xa + (sm_dr za (nI D))) (-100) 100)), o8, o9], [.int (nI D), .ref 0, .int xb], mz_up (mz_set (mz_set (mz_set (mz_set (mz_set m 1 t) 23 c) 50 r) 51 f) 52 g) 1 12 za)) rfl ?_
      refine mz_do (R := mz_r111) (as := [.ref 0, .int (nI D)]) (rest := [.int xb]) (r1 := some (.int (sm_dr zb (nI D)))) (m1 := mz_up (mz_up (mz_set (mz_set (mz_set (mz_set (mz_set m 1 t) 23 c) 50 r) 51 f) 52 g) 1 12 za) 1 12 zb) rfl (Wzb.deep (by decide)) ?_
      refine mz_go 3 (c' := (94, [some (.ref 0), some (.int xa), some (.int xb), some (.int (nI D)), some (.int (nI n)), some (.ref 23), some (.int (nI k)), some (.int (sm_held (xa + (sm_dr za (nI D))) (-100) 100)), o8, o9], [.int 100, .int (-100), .int (xb + (sm_dr zb (nI D)))], mz_up (mz_up (mz_set (mz_set (mz_set (mz_set (mz_set m 1 t) 23 c) 50 r) 51 f) 52 g) 1 12 za) 1 12 zb)) rfl ?_
      refine mz_do (R := mz_r122) (as := [.int (xb + (sm_dr zb (nI D))), .int (-100), .int 100]) (rest := []) (r1 := some (.int (sm_held (xb + (sm_dr zb (nI D))) (-100) 100))) (m1 := mz_up (mz_up (mz_set (mz_set (mz_set (mz_set (mz_set m 1 t) 23 c) 50 r) 51 f) 52 g) 1 12 za) 1 12 zb) rfl ((cs_held (m := mz_up (mz_up (mz_set (mz_set (mz_set (mz_set (mz_set m 1 t) 23 c) 50 r) 51 f) 52 g) 1 12 za) 1 12 zb) (v := xb + (sm_dr zb (nI D))) (a := -100) (b := 100) (by decide)).deep (by decide)) ?_
      refine mz_go 12 (c' := (118, [some (.ref 0), some (.int xa), some (.int xb), some (.int (nI D)), some (.int (nI n)), some (.ref 23), some (.int (nI k)), some (.int (sm_held (xa + (sm_dr za (nI D))) (-100) 100)), some (.int (sm_held (xb + (sm_dr zb (nI D))) (-100) 100)), o9], [.int (m 7 5), .int 0, .int 0, .int (sm_held (xb + (sm_dr zb (nI D))) (-100) 100), .int (sm_held (xa + (sm_dr za (nI D))) (-100) 100), .ref 49], mz_up (mz_up (mz_set (mz_set (mz_set (mz_set (mz_set m 1 t) 23 c) 50 r) 51 f) 52 g) 1 12 za) 1 12 zb)) rfl ?_
      rw [h75]
      refine mz_do (R := mz_r36) (as := [.ref 49, .int (sm_held (xa + (sm_dr za (nI D))) (-100) 100), .int (sm_held (xb + (sm_dr zb (nI D))) (-100) 100), .int 0, .int 0, .int (w 7 5)]) (rest := []) (r1 := some (.int (nI V))) (m1 := mz_set (mz_set (mz_set (mz_up (mz_up (mz_set (mz_set (mz_set (mz_set (mz_set m 1 t) 23 c) 50 r) 51 f) 52 g) 1 12 za) 1 12 zb) 50 re1) 51 fe1) 52 ge1) rfl (Ee1.deep (by decide)) ?_
      refine mz_go 4 (c' := (128, [some (.ref 0), some (.int xa), some (.int xb), some (.int (nI D)), some (.int (nI n)), some (.ref 23), some (.int (nI k)), some (.int (sm_held (xa + (sm_dr za (nI D))) (-100) 100)), some (.int (sm_held (xb + (sm_dr zb (nI D))) (-100) 100)), some (.int (nI V))], [.int 9, .int 0, .int (nI V)], mz_set (mz_set (mz_set (mz_up (mz_up (mz_set (mz_set (mz_set (mz_set (mz_set m 1 t) 23 c) 50 r) 51 f) 52 g) 1 12 za) 1 12 zb) 50 re1) 51 fe1) 52 ge1)) rfl ?_
      refine mz_do (R := mz_r121) (as := [.int (nI V), .int 0, .int 9]) (rest := []) (r1 := some (.int 1)) (m1 := mz_set (mz_set (mz_set (mz_up (mz_up (mz_set (mz_set (mz_set (mz_set (mz_set m 1 t) 23 c) 50 r) 51 f) 52 g) 1 12 za) 1 12 zb) 50 re1) 51 fe1) 52 ge1) rfl ⟨?_, rfl⟩ ?_
      · refine mz_go 3 (c' := (if (nI V) < 0 then 14 else 5, [some (.int (nI V)), some (.int 0), some (.int 9)], [], mz_set (mz_set (mz_set (mz_up (mz_up (mz_set (mz_set (mz_set (mz_set (mz_set m 1 t) 23 c) 50 r) 51 f) 52 g) 1 12 za) 1 12 zb) 50 re1) 51 fe1) 52 ge1)) rfl ?_
        refine mz_ifF (show ¬ ((nI V) < 0) from (sm_nltN rfl rfl (show 0 ≤ V by omega) (show V < 2 ^ 31 by omega))) ?_
        refine mz_go 3 (c' := (if 9 < (nI V) then 14 else 10, [some (.int (nI V)), some (.int 0), some (.int 9)], [], mz_set (mz_set (mz_set (mz_up (mz_up (mz_set (mz_set (mz_set (mz_set (mz_set m 1 t) 23 c) 50 r) 51 f) 52 g) 1 12 za) 1 12 zb) 50 re1) 51 fe1) 52 ge1)) rfl ?_
        refine mz_ifF (show ¬ (9 < (nI V)) from (sm_nltN rfl rfl (show V ≤ 9 by omega) (show 9 < 2 ^ 31 by omega))) ?_
        refine mz_go 2 (c' := (15, [some (.int (nI V)), some (.int 0), some (.int 9)], [.int 1], mz_set (mz_set (mz_set (mz_up (mz_up (mz_set (mz_set (mz_set (mz_set (mz_set m 1 t) 23 c) 50 r) 51 f) 52 g) 1 12 za) 1 12 zb) 50 re1) 51 fe1) 52 ge1)) rfl ?_
        exact mz_ret rfl
      refine mz_go 4 (c' := (139, [some (.ref 0), some (.int xa), some (.int xb), some (.int (nI D)), some (.int (nI n)), some (.ref 23), some (.int (nI k)), some (.int (sm_held (xa + (sm_dr za (nI D))) (-100) 100)), some (.int (sm_held (xb + (sm_dr zb (nI D))) (-100) 100)), some (.int (nI V))], [.int (nI V), .ref 23, .int (nI V), .ref 23], mz_set (mz_set (mz_set (mz_up (mz_up (mz_set (mz_set (mz_set (mz_set (mz_set m 1 t) 23 c) 50 r) 51 f) 52 g) 1 12 za) 1 12 zb) 50 re1) 51 fe1) 52 ge1)) rfl ?_
      refine mz_arr (c' := (140, [some (.ref 0), some (.int xa), some (.int xb), some (.int (nI D)), some (.int (nI n)), some (.ref 23), some (.int (nI k)), some (.int (sm_held (xa + (sm_dr za (nI D))) (-100) 100)), some (.int (sm_held (xb + (sm_dr zb (nI D))) (-100) 100)), some (.int (nI V))], [.int (c ((nI V).toNatClampNeg)), .int (nI V), .ref 23], mz_set (mz_set (mz_set (mz_up (mz_up (mz_set (mz_set (mz_set (mz_set (mz_set m 1 t) 23 c) 50 r) 51 f) 52 g) 1 12 za) 1 12 zb) 50 re1) 51 fe1) 52 ge1)) rfl (show mz_in (nI V) 10 = true from sm_inN rfl (show V < 10 by omega) (by decide)) ?_
      rw [show (nI V : Int32).toNatClampNeg = V from sm_clN rfl (show V < 2 ^ 31 by omega)]
      refine mz_go 2 (c' := (142, [some (.ref 0), some (.int xa), some (.int xb), some (.int (nI D)), some (.int (nI n)), some (.ref 23), some (.int (nI k)), some (.int (sm_held (xa + (sm_dr za (nI D))) (-100) 100)), some (.int (sm_held (xb + (sm_dr zb (nI D))) (-100) 100)), some (.int (nI V))], [.int ((c V) + 1), .int (nI V), .ref 23], mz_set (mz_set (mz_set (mz_up (mz_up (mz_set (mz_set (mz_set (mz_set (mz_set m 1 t) 23 c) 50 r) 51 f) 52 g) 1 12 za) 1 12 zb) 50 re1) 51 fe1) 52 ge1)) rfl ?_
      refine mz_arr (c' := (143, [some (.ref 0), some (.int xa), some (.int xb), some (.int (nI D)), some (.int (nI n)), some (.ref 23), some (.int (nI k)), some (.int (sm_held (xa + (sm_dr za (nI D))) (-100) 100)), some (.int (sm_held (xb + (sm_dr zb (nI D))) (-100) 100)), some (.int (nI V))], [], mz_up (mz_set (mz_set (mz_set (mz_up (mz_up (mz_set (mz_set (mz_set (mz_set (mz_set m 1 t) 23 c) 50 r) 51 f) 52 g) 1 12 za) 1 12 zb) 50 re1) 51 fe1) 52 ge1) 23 ((nI V).toNatClampNeg) ((c V) + 1))) rfl (show mz_in (nI V) 10 = true from sm_inN rfl (show V < 10 by omega) (by decide)) ?_
      rw [show (nI V : Int32).toNatClampNeg = V from sm_clN rfl (show V < 2 ^ 31 by omega)]
      refine mz_go 2 (c' := (60, [some (.ref 0), some (.int xa), some (.int xb), some (.int (nI D)), some (.int (nI n)), some (.ref 23), some (.int ((nI k) + 1)), some (.int (sm_held (xa + (sm_dr za (nI D))) (-100) 100)), some (.int (sm_held (xb + (sm_dr zb (nI D))) (-100) 100)), some (.int (nI V))], [], mz_up (mz_set (mz_set (mz_set (mz_up (mz_up (mz_set (mz_set (mz_set (mz_set (mz_set m 1 t) 23 c) 50 r) 51 f) 52 g) 1 12 za) 1 12 zb) 50 re1) 51 fe1) 52 ge1) 23 V ((c V) + 1))) rfl ?_
      exact hr
set_option maxHeartbeats 4000000 in
set_option maxRecDepth 100000 in
theorem ct_thrl {m w : mz_M} {N : Nat} (hw : sm_W w N) (hr2 : sm_HR w (m 66)) (h6615 : m 66 15 = w 7 5) (hr5 : w 7 5 = 1 ∨ w 7 5 = 2) (hr80 : sm_N 80 (w 7 2)) {n D : Nat} (hn : n ≤ 40) (hD : D ≤ 50) (xa xb : Int32) : ∀ j k : Nat, k + j = n → ∀ (s c r a b : Nat → Int32) (u : Int32) (o7 o8 o9 : Option Value), (∀ i, i < 10 → s (150 + i) = c i) → (∀ i, i ≠ 3 → (i < 150 ∨ 160 ≤ i) → s i = m 66 i) → (∀ k, k < 4 ∨ 8 < k → r k = m 65 k) → ∃ (s' r' a' b' : Nat → Int32) (u' : Int32) (p7 p8 p9 : Option Value), s' 3 = sm_it sm_z2 j (s 3) ∧ (∀ i, i < 10 → s' (150 + i) = sm_ic sm_z2 (sm_thd w (w 7 5) xa xb (nI D)) j (s 3) c i) ∧ (∀ i, i ≠ 3 → (i < 150 ∨ 160 ≤ i) → s' i = m 66 i) ∧ (∀ k, k < 4 ∨ 8 < k → r' k = m 65 k) ∧ ∀ res, mz_Ex 100 mz_k206 (183, [some (.ref 65), some (.int xa), some (.int xb), some (.int (nI D)), some (.int (nI n)), some (.int u'), some (.int (nI n)), p7, p8, p9], [], mz_set (mz_set (mz_set (mz_set m 66 s') 65 r') 70 a') 71 b') res → mz_Ex 100 mz_k206 (78, [some (.ref 65), some (.int xa), some (.int xb), some (.int (nI D)), some (.int (nI n)), some (.int u), some (.int (nI k)), o7, o8, o9], [], mz_set (mz_set (mz_set (mz_set m 66 s) 65 r) 70 a) 71 b) res := by
  intro j
  induction j with
  | zero =>
    intro k hk s c r a b u o7 o8 o9 hc hs hkr
    rw [show k = n by omega]
    exact ⟨s, r, a, b, u, o7, o8, o9, rfl, hc, hs, hkr, fun res hr => by
      refine mz_go 3 (c' := (if (nI n) ≤ (nI n) then 183 else 85, [some (.ref 65), some (.int xa), some (.int xb), some (.int (nI D)), some (.int (nI n)), some (.int u), some (.int (nI n)), o7, o8, o9], [], mz_set (mz_set (mz_set (mz_set m 66 s) 65 r) 70 a) 71 b)) rfl ?_
      refine mz_ifT (show ((nI n) ≤ (nI n)) from (sm_leN rfl rfl (show n ≤ n by omega) (show n < 2 ^ 31 by omega))) ?_
      exact hr⟩
  | succ j ih =>
    intro k hk s c r a b u o7 o8 o9 hc hs hkr
    have h75 : s 15 = w 7 5 := (hs 15 (by omega) (by omega)).trans h6615
    obtain ⟨za, hza⟩ : ∃ q, sm_z1 (s 3) = q := ⟨_, rfl⟩
    have Wza := ct_draw (m := mz_set (mz_set (mz_set (mz_set m 66 s) 65 r) 70 a) 71 b)
    rw [show (mz_set (mz_set (mz_set (mz_set m 66 s) 65 r) 70 a) 71 b) 66 3 = s 3 from rfl, hza] at Wza
    obtain ⟨sza, hsza⟩ : ∃ q, sm_sh za = q := ⟨_, rfl⟩
    rw [hsza] at Wza
    obtain ⟨zb, hzb⟩ : ∃ q, sm_z1 za = q := ⟨_, rfl⟩
    have Wzb := ct_draw (m := mz_up (mz_set (mz_set (mz_set (mz_set m 66 s) 65 r) 70 a) 71 b) 66 3 za)
    rw [show (mz_up (mz_set (mz_set (mz_set (mz_set m 66 s) 65 r) 70 a) 71 b) 66 3 za) 66 3 = za from rfl, hzb] at Wzb
    obtain ⟨szb, hszb⟩ : ∃ q, sm_sh zb = q := ⟨_, rfl⟩
    rw [hszb] at Wzb
    obtain ⟨V, hV, eV⟩ := sm_the_N hw (w 7 5) xa xb (nI D) (s 3)
    obtain ⟨re1, fe1, ge1, le1, ke1, Ee1⟩ := ct_from (w := w) (m := mz_up (mz_up (mz_set (mz_set (mz_set (mz_set m 66 s) 65 r) 70 a) 71 b) 66 3 za) 66 3 zb) hw (sm_HR_s (s := m 66) (fun i hi => by rw [mz_up_eq, if_neg (by omega), mz_up_eq, if_neg (by omega), mz_set_ne (show (66 : Nat) ≠ 71 by decide), mz_set_ne (show (66 : Nat) ≠ 70 by decide), mz_set_ne (show (66 : Nat) ≠ 65 by decide), mz_set_eq]; exact hs i (by omega) (by omega)) hr2) (hr5.imp id Or.inl) hr80 (x := sm_held (xa + (sm_dr za (nI D))) (-100) 100) (y := sm_held (xb + (sm_dr zb (nI D))) (-100) 100) (sm_heldB _) (sm_heldB _)
    have eV2 : sm_end w (w 7 5) (sm_held (xa + (sm_dr za (nI D))) (-100) 100) (sm_held (xb + (sm_dr zb (nI D))) (-100) 100) 0 0 = nI V := by
      have h := eV
      unfold sm_the sm_thx at h
      rw [hza, hzb] at h
      exact h
    rw [eV2] at Ee1
    by_cases h9 : V = 9
    · have hv : ((mz_set (mz_set (mz_set (mz_up (mz_up (mz_set (mz_set (mz_set (mz_set m 66 s) 65 r) 70 a) 71 b) 66 3 za) 66 3 zb) 65 re1) 70 fe1) 71 ge1) 66 (150 + V)) + 1 = c V + 1 := by
        rw [show ((mz_set (mz_set (mz_set (mz_up (mz_up (mz_set (mz_set (mz_set (mz_set m 66 s) 65 r) 70 a) 71 b) 66 3 za) 66 3 zb) 65 re1) 70 fe1) 71 ge1) 66 (150 + V)) = s (150 + V) from by rw [mz_set_ne (show (66 : Nat) ≠ 71 by decide), mz_set_ne (show (66 : Nat) ≠ 70 by decide), mz_set_ne (show (66 : Nat) ≠ 65 by decide), mz_up_eq, if_neg (show ¬ 150 + V = 3 by omega), mz_up_eq, if_neg (show ¬ 150 + V = 3 by omega), mz_set_ne (show (66 : Nat) ≠ 71 by decide), mz_set_ne (show (66 : Nat) ≠ 70 by decide), mz_set_ne (show (66 : Nat) ≠ 65 by decide), mz_set_eq], hc V (by omega)]
      have e66 : ∀ i, ((mz_up (mz_set (mz_set (mz_set (mz_up (mz_up (mz_set (mz_set (mz_set (mz_set m 66 s) 65 r) 70 a) 71 b) 66 3 za) 66 3 zb) 65 re1) 70 fe1) 71 ge1) 66 (150 + V) (((mz_set (mz_set (mz_set (mz_up (mz_up (mz_set (mz_set (mz_set (mz_set m 66 s) 65 r) 70 a) 71 b) 66 3 za) 66 3 zb) 65 re1) 70 fe1) 71 ge1) 66 (150 + V)) + 1)) 66) i = if i = 150 + V then c V + 1 else if i = 3 then zb else if i = 3 then za else s i := fun i => by
        rw [hv, mz_up_eq, mz_set_ne (show (66 : Nat) ≠ 71 by decide), mz_set_ne (show (66 : Nat) ≠ 70 by decide), mz_set_ne (show (66 : Nat) ≠ 65 by decide), mz_up_eq, mz_up_eq, mz_set_ne (show (66 : Nat) ≠ 71 by decide), mz_set_ne (show (66 : Nat) ≠ 70 by decide), mz_set_ne (show (66 : Nat) ≠ 65 by decide), mz_set_eq]
      have hm : mz_up (mz_set (mz_set (mz_set (mz_up (mz_up (mz_set (mz_set (mz_set (mz_set m 66 s) 65 r) 70 a) 71 b) 66 3 za) 66 3 zb) 65 re1) 70 fe1) 71 ge1) 66 (150 + V) (((mz_set (mz_set (mz_set (mz_up (mz_up (mz_set (mz_set (mz_set (mz_set m 66 s) 65 r) 70 a) 71 b) 66 3 za) 66 3 zb) 65 re1) 70 fe1) 71 ge1) 66 (150 + V)) + 1) = mz_set (mz_set (mz_set (mz_set m 66 ((mz_up (mz_set (mz_set (mz_set (mz_up (mz_up (mz_set (mz_set (mz_set (mz_set m 66 s) 65 r) 70 a) 71 b) 66 3 za) 66 3 zb) 65 re1) 70 fe1) 71 ge1) 66 (150 + V) (((mz_set (mz_set (mz_set (mz_up (mz_up (mz_set (mz_set (mz_set (mz_set m 66 s) 65 r) 70 a) 71 b) 66 3 za) 66 3 zb) 65 re1) 70 fe1) 71 ge1) 66 (150 + V)) + 1)) 66)) 65 ((mz_up (mz_set (mz_set (mz_set (mz_up (mz_up (mz_set (mz_set (mz_set (mz_set m 66 s) 65 r) 70 a) 71 b) 66 3 za) 66 3 zb) 65 re1) 70 fe1) 71 ge1) 66 (150 + V) (((mz_set (mz_set (mz_set (mz_up (mz_up (mz_set (mz_set (mz_set (mz_set m 66 s) 65 r) 70 a) 71 b) 66 3 za) 66 3 zb) 65 re1) 70 fe1) 71 ge1) 66 (150 + V)) + 1)) 65)) 70 ((mz_up (mz_set (mz_set (mz_set (mz_up (mz_up (mz_set (mz_set (mz_set (mz_set m 66 s) 65 r) 70 a) 71 b) 66 3 za) 66 3 zb) 65 re1) 70 fe1) 71 ge1) 66 (150 + V) (((mz_set (mz_set (mz_set (mz_up (mz_up (mz_set (mz_set (mz_set (mz_set m 66 s) 65 r) 70 a) 71 b) 66 3 za) 66 3 zb) 65 re1) 70 fe1) 71 ge1) 66 (150 + V)) + 1)) 70)) 71 ((mz_up (mz_set (mz_set (mz_set (mz_up (mz_up (mz_set (mz_set (mz_set (mz_set m 66 s) 65 r) 70 a) 71 b) 66 3 za) 66 3 zb) 65 re1) 70 fe1) 71 ge1) 66 (150 + V) (((mz_set (mz_set (mz_set (mz_up (mz_up (mz_set (mz_set (mz_set (mz_set m 66 s) 65 r) 70 a) 71 b) 66 3 za) 66 3 zb) 65 re1) 70 fe1) 71 ge1) 66 (150 + V)) + 1)) 71) := sm_of4 (fun i h1 h2 h3 h4 => by simp only [mz_set_ne h1, mz_set_ne h2, mz_set_ne h3, mz_set_ne h4, mz_up_ne h1])
      obtain ⟨s', r', a', b', u', p7, p8, p9, h1, h2, h3, h4, E⟩ := ih (k + 1) (by omega) ((mz_up (mz_set (mz_set (mz_set (mz_up (mz_up (mz_set (mz_set (mz_set (mz_set m 66 s) 65 r) 70 a) 71 b) 66 3 za) 66 3 zb) 65 re1) 70 fe1) 71 ge1) 66 (150 + V) (((mz_set (mz_set (mz_set (mz_up (mz_up (mz_set (mz_set (mz_set (mz_set m 66 s) 65 r) 70 a) 71 b) 66 3 za) 66 3 zb) 65 re1) 70 fe1) 71 ge1) 66 (150 + V)) + 1)) 66) (sm_upd c V (c V + 1)) ((mz_up (mz_set (mz_set (mz_set (mz_up (mz_up (mz_set (mz_set (mz_set (mz_set m 66 s) 65 r) 70 a) 71 b) 66 3 za) 66 3 zb) 65 re1) 70 fe1) 71 ge1) 66 (150 + V) (((mz_set (mz_set (mz_set (mz_up (mz_up (mz_set (mz_set (mz_set (mz_set m 66 s) 65 r) 70 a) 71 b) 66 3 za) 66 3 zb) 65 re1) 70 fe1) 71 ge1) 66 (150 + V)) + 1)) 65) ((mz_up (mz_set (mz_set (mz_set (mz_up (mz_up (mz_set (mz_set (mz_set (mz_set m 66 s) 65 r) 70 a) 71 b) 66 3 za) 66 3 zb) 65 re1) 70 fe1) 71 ge1) 66 (150 + V) (((mz_set (mz_set (mz_set (mz_up (mz_up (mz_set (mz_set (mz_set (mz_set m 66 s) 65 r) 70 a) 71 b) 66 3 za) 66 3 zb) 65 re1) 70 fe1) 71 ge1) 66 (150 + V)) + 1)) 70) ((mz_up (mz_set (mz_set (mz_set (mz_up (mz_up (mz_set (mz_set (mz_set (mz_set m 66 s) 65 r) 70 a) 71 b) 66 3 za) 66 3 zb) 65 re1) 70 fe1) 71 ge1) 66 (150 + V) (((mz_set (mz_set (mz_set (mz_up (mz_up (mz_set (mz_set (mz_set (mz_set m 66 s) 65 r) 70 a) 71 b) 66 3 za) 66 3 zb) 65 re1) 70 fe1) 71 ge1) 66 (150 + V)) + 1)) 71) (u + 0) (some (.int (xa + (sm_dr za (nI D))))) (some (.int (xb + (sm_dr zb (nI D))))) (some (.int (nI V))) (fun i hi => by
          rw [e66]
          unfold sm_upd
          by_cases e : i = V
          · rw [if_pos (by omega), if_pos e]
          · rw [if_neg (by omega), if_neg (by omega), if_neg (by omega), if_neg e]
            exact hc i hi) (fun i hi1 hi2 => by
          rw [e66, if_neg (by omega), if_neg hi1, if_neg hi1]
          exact hs i hi1 hi2) (fun k hk => (ke1 k hk).trans (hkr k hk))
      refine ⟨s', r', a', b', u', p7, p8, p9, ?_, fun i hi => ?_, h3, h4, fun res hr0 => ?_⟩
      · rw [sm_it_S, h1, e66, if_neg (by omega), if_pos rfl, ← hzb, ← hza, sm_z2_eq]
      · rw [sm_ic_S, sm_thd_eq hV eV, h2 i hi, e66, if_neg (by omega), if_pos rfl, ← hzb, ← hza, sm_z2_eq]
      · have hr := E res hr0
        rw [nI_succ k, ← hm] at hr
        refine mz_go 3 (c' := (if (nI n) ≤ (nI k) then 183 else 85, [some (.ref 65), some (.int xa), some (.int xb), some (.int (nI D)), some (.int (nI n)), some (.int u), some (.int (nI k)), o7, o8, o9], [], mz_set (mz_set (mz_set (mz_set m 66 s) 65 r) 70 a) 71 b)) rfl ?_
        refine mz_ifF (show ¬ ((nI n) ≤ (nI k)) from (sm_nleN rfl rfl (show k < n by omega) (show n < 2 ^ 31 by omega))) ?_
        refine mz_go 2 (c' := (87, [some (.ref 65), some (.int xa), some (.int xb), some (.int (nI D)), some (.int (nI n)), some (.int u), some (.int (nI k)), o7, o8, o9], [.ref 65, .int xa], mz_set (mz_set (mz_set (mz_set m 66 s) 65 r) 70 a) 71 b)) rfl ?_
        refine mz_do (R := mz_r205) (as := [.ref 65]) (rest := [.int xa]) (r1 := some (.int sza)) (m1 := mz_up (mz_set (mz_set (mz_set (mz_set m 66 s) 65 r) 70 a) 71 b) 66 3 za) rfl (Wza.deep (by decide)) ?_
        refine mz_go 5 (c' := (95, [some (.ref 65), some (.int xa), some (.int xb), some (.int (nI D)), some (.int (nI n)), some (.int u), some (.int (nI k)), o7, o8, o9], [.int ((2 * (nI D)) + 1), .int sza, .int xa], mz_up (mz_set (mz_set (mz_set (mz_set m 66 s) 65 r) 70 a) 71 b) 66 3 za)) rfl ?_
        refine mz_div (c' := (96, [some (.ref 65), some (.int xa), some (.int xb), some (.int (nI D)), some (.int (nI n)), some (.int u), some (.int (nI k)), o7, o8, o9], [.int (sza - sza / ((2 * (nI D)) + 1) * ((2 * (nI D)) + 1)), .int xa], mz_up (mz_set (mz_set (mz_set (mz_set m 66 s) 65 r) 70 a) 71 b) 66 3 za)) rfl (sm_neN (a := 2 * D + 1) (b := 0) (sm_addN (sm_mulN rfl rfl) rfl) rfl (by omega) (by omega) (by decide)) ?_
        refine mz_go 3 (c' := (99, [some (.ref 65), some (.int xa), some (.int xb), some (.int (nI D)), some (.int (nI n)), some (.int u), some (.int (nI k)), o7, o8, o9], [.int ((xa + (sza - sza / ((2 * (nI D)) + 1) * ((2 * (nI D)) + 1))) - (nI D))], mz_up (mz_set (mz_set (mz_set (mz_set m 66 s) 65 r) 70 a) 71 b) 66 3 za)) rfl ?_
        rw [show (xa + (sza - sza / ((2 * (nI D)) + 1) * ((2 * (nI D)) + 1))) - (nI D) = xa + (sm_dr za (nI D)) from by rw [sm_adds, ← hsza]; rfl]
        refine mz_go 3 (c' := (103, [some (.ref 65), some (.int xa), some (.int xb), some (.int (nI D)), some (.int (nI n)), some (.int u), some (.int (nI k)), some (.int (xa + (sm_dr za (nI D)))), o8, o9], [.ref 65, .int xb], mz_up (mz_set (mz_set (mz_set (mz_set m 66 s) 65 r) 70 a) 71 b) 66 3 za)) rfl ?_
        refine mz_do (R := mz_r205) (as := [.ref 65]) (rest := [.int xb]) (r1 := some (.int szb)) (m1 := mz_up (mz_up (mz_set (mz_set (mz_set (mz_set m 66 s) 65 r) 70 a) 71 b) 66 3 za) 66 3 zb) rfl (Wzb.deep (by decide)) ?_
        refine mz_go 5 (c' := (111, [some (.ref 65), some (.int xa), some (.int xb), some (.int (nI D)), some (.int (nI n)), some (.int u), some (.int (nI k)), some (.int (xa + (sm_dr za (nI D)))), o8, o9], [.int ((2 * (nI D)) + 1), .int szb, .int xb], mz_up (mz_up (mz_set (mz_set (mz_set (mz_set m 66 s) 65 r) 70 a) 71 b) 66 3 za) 66 3 zb)) rfl ?_
        refine mz_div (c' := (112, [some (.ref 65), some (.int xa), some (.int xb), some (.int (nI D)), some (.int (nI n)), some (.int u), some (.int (nI k)), some (.int (xa + (sm_dr za (nI D)))), o8, o9], [.int (szb - szb / ((2 * (nI D)) + 1) * ((2 * (nI D)) + 1)), .int xb], mz_up (mz_up (mz_set (mz_set (mz_set (mz_set m 66 s) 65 r) 70 a) 71 b) 66 3 za) 66 3 zb)) rfl (sm_neN (a := 2 * D + 1) (b := 0) (sm_addN (sm_mulN rfl rfl) rfl) rfl (by omega) (by omega) (by decide)) ?_
        refine mz_go 3 (c' := (115, [some (.ref 65), some (.int xa), some (.int xb), some (.int (nI D)), some (.int (nI n)), some (.int u), some (.int (nI k)), some (.int (xa + (sm_dr za (nI D)))), o8, o9], [.int ((xb + (szb - szb / ((2 * (nI D)) + 1) * ((2 * (nI D)) + 1))) - (nI D))], mz_up (mz_up (mz_set (mz_set (mz_set (mz_set m 66 s) 65 r) 70 a) 71 b) 66 3 za) 66 3 zb)) rfl ?_
        rw [show (xb + (szb - szb / ((2 * (nI D)) + 1) * ((2 * (nI D)) + 1))) - (nI D) = xb + (sm_dr zb (nI D)) from by rw [sm_adds, ← hszb]; rfl]
        refine mz_go 5 (c' := (124, [some (.ref 65), some (.int xa), some (.int xb), some (.int (nI D)), some (.int (nI n)), some (.int u), some (.int (nI k)), some (.int (xa + (sm_dr za (nI D)))), some (.int (xb + (sm_dr zb (nI D)))), o9], [.int 100, .int (-100), .int (xa + (sm_dr za (nI D))), .ref 65], mz_up (mz_up (mz_set (mz_set (mz_set (mz_set m 66 s) 65 r) 70 a) 71 b) 66 3 za) 66 3 zb)) rfl ?_
        refine mz_do (R := mz_r130) (as := [.int (xa + (sm_dr za (nI D))), .int (-100), .int 100]) (rest := [.ref 65]) (r1 := some (.int (sm_held (xa + (sm_dr za (nI D))) (-100) 100))) (m1 := mz_up (mz_up (mz_set (mz_set (mz_set (mz_set m 66 s) 65 r) 70 a) 71 b) 66 3 za) 66 3 zb) rfl ((ct_held (m := mz_up (mz_up (mz_set (mz_set (mz_set (mz_set m 66 s) 65 r) 70 a) 71 b) 66 3 za) 66 3 zb) (xa + (sm_dr za (nI D))) (-100) 100).deep (by decide)) ?_
        refine mz_go 3 (c' := (133, [some (.ref 65), some (.int xa), some (.int xb), some (.int (nI D)), some (.int (nI n)), some (.int u), some (.int (nI k)), some (.int (xa + (sm_dr za (nI D)))), some (.int (xb + (sm_dr zb (nI D)))), o9], [.int 100, .int (-100), .int (xb + (sm_dr zb (nI D))), .int (sm_held (xa + (sm_dr za (nI D))) (-100) 100), .ref 65], mz_up (mz_up (mz_set (mz_set (mz_set (mz_set m 66 s) 65 r) 70 a) 71 b) 66 3 za) 66 3 zb)) rfl ?_
        refine mz_do (R := mz_r130) (as := [.int (xb + (sm_dr zb (nI D))), .int (-100), .int 100]) (rest := [.int (sm_held (xa + (sm_dr za (nI D))) (-100) 100), .ref 65]) (r1 := some (.int (sm_held (xb + (sm_dr zb (nI D))) (-100) 100))) (m1 := mz_up (mz_up (mz_set (mz_set (mz_set (mz_set m 66 s) 65 r) 70 a) 71 b) 66 3 za) 66 3 zb) rfl ((ct_held (m := mz_up (mz_up (mz_set (mz_set (mz_set (mz_set m 66 s) 65 r) 70 a) 71 b) 66 3 za) 66 3 zb) (xb + (sm_dr zb (nI D))) (-100) 100).deep (by decide)) ?_
        refine mz_go 1 (c' := (137, [some (.ref 65), some (.int xa), some (.int xb), some (.int (nI D)), some (.int (nI n)), some (.int u), some (.int (nI k)), some (.int (xa + (sm_dr za (nI D)))), some (.int (xb + (sm_dr zb (nI D)))), o9], [.ref 65, .int (sm_held (xb + (sm_dr zb (nI D))) (-100) 100), .int (sm_held (xa + (sm_dr za (nI D))) (-100) 100), .ref 65], mz_up (mz_up (mz_set (mz_set (mz_set (mz_set m 66 s) 65 r) 70 a) 71 b) 66 3 za) 66 3 zb)) rfl ?_
        refine mz_do (R := mz_r156) (as := [.ref 65]) (rest := [.int (sm_held (xb + (sm_dr zb (nI D))) (-100) 100), .int (sm_held (xa + (sm_dr za (nI D))) (-100) 100), .ref 65]) (r1 := some (.int (w 7 5))) (m1 := mz_up (mz_up (mz_set (mz_set (mz_set (mz_set m 66 s) 65 r) 70 a) 71 b) 66 3 za) 66 3 zb) rfl ⟨?_, rfl⟩ ?_
        · refine mz_go 4 (c' := (7, [some (.ref 65)], [.int (s 15)], mz_up (mz_up (mz_set (mz_set (mz_set (mz_set m 66 s) 65 r) 70 a) 71 b) 66 3 za) 66 3 zb)) rfl ?_
          rw [h75]
          exact mz_ret rfl
        refine mz_do (R := mz_r155) (as := [.ref 65, .int (sm_held (xa + (sm_dr za (nI D))) (-100) 100), .int (sm_held (xb + (sm_dr zb (nI D))) (-100) 100), .int (w 7 5)]) (rest := []) (r1 := some (.int (nI V))) (m1 := mz_set (mz_set (mz_set (mz_up (mz_up (mz_set (mz_set (mz_set (mz_set m 66 s) 65 r) 70 a) 71 b) 66 3 za) 66 3 zb) 65 re1) 70 fe1) 71 ge1) rfl (Ee1.deep (by decide)) ?_
        refine mz_go 7 (c' := (156, [some (.ref 65), some (.int xa), some (.int xb), some (.int (nI D)), some (.int (nI n)), some (.int u), some (.int (nI k)), some (.int (xa + (sm_dr za (nI D)))), some (.int (xb + (sm_dr zb (nI D)))), some (.int (nI V))], [.int (150 + (nI V)), .ref 66, .int (150 + (nI V)), .ref 66], mz_set (mz_set (mz_set (mz_up (mz_up (mz_set (mz_set (mz_set (mz_set m 66 s) 65 r) 70 a) 71 b) 66 3 za) 66 3 zb) 65 re1) 70 fe1) 71 ge1)) rfl ?_
        refine mz_arr (c' := (157, [some (.ref 65), some (.int xa), some (.int xb), some (.int (nI D)), some (.int (nI n)), some (.int u), some (.int (nI k)), some (.int (xa + (sm_dr za (nI D)))), some (.int (xb + (sm_dr zb (nI D)))), some (.int (nI V))], [.int ((mz_set (mz_set (mz_set (mz_up (mz_up (mz_set (mz_set (mz_set (mz_set m 66 s) 65 r) 70 a) 71 b) 66 3 za) 66 3 zb) 65 re1) 70 fe1) 71 ge1) 66 ((150 + (nI V)).toNatClampNeg)), .int (150 + (nI V)), .ref 66], mz_set (mz_set (mz_set (mz_up (mz_up (mz_set (mz_set (mz_set (mz_set m 66 s) 65 r) 70 a) 71 b) 66 3 za) 66 3 zb) 65 re1) 70 fe1) 71 ge1)) rfl (show mz_in (150 + (nI V)) 650 = true from sm_inN (sm_addN rfl rfl) (show (150 + V) < 650 by omega) (by decide)) ?_
        rw [show (150 + (nI V) : Int32).toNatClampNeg = (150 + V) from sm_clN (sm_addN rfl rfl) (show (150 + V) < 2 ^ 31 by omega)]
        refine mz_go 2 (c' := (159, [some (.ref 65), some (.int xa), some (.int xb), some (.int (nI D)), some (.int (nI n)), some (.int u), some (.int (nI k)), some (.int (xa + (sm_dr za (nI D)))), some (.int (xb + (sm_dr zb (nI D)))), some (.int (nI V))], [.int (((mz_set (mz_set (mz_set (mz_up (mz_up (mz_set (mz_set (mz_set (mz_set m 66 s) 65 r) 70 a) 71 b) 66 3 za) 66 3 zb) 65 re1) 70 fe1) 71 ge1) 66 (150 + V)) + 1), .int (150 + (nI V)), .ref 66], mz_set (mz_set (mz_set (mz_up (mz_up (mz_set (mz_set (mz_set (mz_set m 66 s) 65 r) 70 a) 71 b) 66 3 za) 66 3 zb) 65 re1) 70 fe1) 71 ge1)) rfl ?_
        refine mz_arr (c' := (160, [some (.ref 65), some (.int xa), some (.int xb), some (.int (nI D)), some (.int (nI n)), some (.int u), some (.int (nI k)), some (.int (xa + (sm_dr za (nI D)))), some (.int (xb + (sm_dr zb (nI D)))), some (.int (nI V))], [], mz_up (mz_set (mz_set (mz_set (mz_up (mz_up (mz_set (mz_set (mz_set (mz_set m 66 s) 65 r) 70 a) 71 b) 66 3 za) 66 3 zb) 65 re1) 70 fe1) 71 ge1) 66 ((150 + (nI V)).toNatClampNeg) (((mz_set (mz_set (mz_set (mz_up (mz_up (mz_set (mz_set (mz_set (mz_set m 66 s) 65 r) 70 a) 71 b) 66 3 za) 66 3 zb) 65 re1) 70 fe1) 71 ge1) 66 (150 + V)) + 1))) rfl (show mz_in (150 + (nI V)) 650 = true from sm_inN (sm_addN rfl rfl) (show (150 + V) < 650 by omega) (by decide)) ?_
        rw [show (150 + (nI V) : Int32).toNatClampNeg = (150 + V) from sm_clN (sm_addN rfl rfl) (show (150 + V) < 2 ^ 31 by omega)]
        refine mz_go 4 (c' := (if (nI V) = 9 then 169 else 173, [some (.ref 65), some (.int xa), some (.int xb), some (.int (nI D)), some (.int (nI n)), some (.int u), some (.int (nI k)), some (.int (xa + (sm_dr za (nI D)))), some (.int (xb + (sm_dr zb (nI D)))), some (.int (nI V))], [.int u], mz_up (mz_set (mz_set (mz_set (mz_up (mz_up (mz_set (mz_set (mz_set (mz_set m 66 s) 65 r) 70 a) 71 b) 66 3 za) 66 3 zb) 65 re1) 70 fe1) 71 ge1) 66 (150 + V) (((mz_set (mz_set (mz_set (mz_up (mz_up (mz_set (mz_set (mz_set (mz_set m 66 s) 65 r) 70 a) 71 b) 66 3 za) 66 3 zb) 65 re1) 70 fe1) 71 ge1) 66 (150 + V)) + 1))) rfl ?_
        refine mz_ifT (show ((nI V) = 9) from (sm_eqN rfl rfl (show V = 9 by omega))) ?_
        refine mz_go 6 (c' := (78, [some (.ref 65), some (.int xa), some (.int xb), some (.int (nI D)), some (.int (nI n)), some (.int (u + 0)), some (.int ((nI k) + 1)), some (.int (xa + (sm_dr za (nI D)))), some (.int (xb + (sm_dr zb (nI D)))), some (.int (nI V))], [], mz_up (mz_set (mz_set (mz_set (mz_up (mz_up (mz_set (mz_set (mz_set (mz_set m 66 s) 65 r) 70 a) 71 b) 66 3 za) 66 3 zb) 65 re1) 70 fe1) 71 ge1) 66 (150 + V) (((mz_set (mz_set (mz_set (mz_up (mz_up (mz_set (mz_set (mz_set (mz_set m 66 s) 65 r) 70 a) 71 b) 66 3 za) 66 3 zb) 65 re1) 70 fe1) 71 ge1) 66 (150 + V)) + 1))) rfl ?_
        exact hr
    · have hv : ((mz_set (mz_set (mz_set (mz_up (mz_up (mz_set (mz_set (mz_set (mz_set m 66 s) 65 r) 70 a) 71 b) 66 3 za) 66 3 zb) 65 re1) 70 fe1) 71 ge1) 66 (150 + V)) + 1 = c V + 1 := by
        rw [show ((mz_set (mz_set (mz_set (mz_up (mz_up (mz_set (mz_set (mz_set (mz_set m 66 s) 65 r) 70 a) 71 b) 66 3 za) 66 3 zb) 65 re1) 70 fe1) 71 ge1) 66 (150 + V)) = s (150 + V) from by rw [mz_set_ne (show (66 : Nat) ≠ 71 by decide), mz_set_ne (show (66 : Nat) ≠ 70 by decide), mz_set_ne (show (66 : Nat) ≠ 65 by decide), mz_up_eq, if_neg (show ¬ 150 + V = 3 by omega), mz_up_eq, if_neg (show ¬ 150 + V = 3 by omega), mz_set_ne (show (66 : Nat) ≠ 71 by decide), mz_set_ne (show (66 : Nat) ≠ 70 by decide), mz_set_ne (show (66 : Nat) ≠ 65 by decide), mz_set_eq], hc V (by omega)]
      have e66 : ∀ i, ((mz_up (mz_set (mz_set (mz_set (mz_up (mz_up (mz_set (mz_set (mz_set (mz_set m 66 s) 65 r) 70 a) 71 b) 66 3 za) 66 3 zb) 65 re1) 70 fe1) 71 ge1) 66 (150 + V) (((mz_set (mz_set (mz_set (mz_up (mz_up (mz_set (mz_set (mz_set (mz_set m 66 s) 65 r) 70 a) 71 b) 66 3 za) 66 3 zb) 65 re1) 70 fe1) 71 ge1) 66 (150 + V)) + 1)) 66) i = if i = 150 + V then c V + 1 else if i = 3 then zb else if i = 3 then za else s i := fun i => by
        rw [hv, mz_up_eq, mz_set_ne (show (66 : Nat) ≠ 71 by decide), mz_set_ne (show (66 : Nat) ≠ 70 by decide), mz_set_ne (show (66 : Nat) ≠ 65 by decide), mz_up_eq, mz_up_eq, mz_set_ne (show (66 : Nat) ≠ 71 by decide), mz_set_ne (show (66 : Nat) ≠ 70 by decide), mz_set_ne (show (66 : Nat) ≠ 65 by decide), mz_set_eq]
      have hm : mz_up (mz_set (mz_set (mz_set (mz_up (mz_up (mz_set (mz_set (mz_set (mz_set m 66 s) 65 r) 70 a) 71 b) 66 3 za) 66 3 zb) 65 re1) 70 fe1) 71 ge1) 66 (150 + V) (((mz_set (mz_set (mz_set (mz_up (mz_up (mz_set (mz_set (mz_set (mz_set m 66 s) 65 r) 70 a) 71 b) 66 3 za) 66 3 zb) 65 re1) 70 fe1) 71 ge1) 66 (150 + V)) + 1) = mz_set (mz_set (mz_set (mz_set m 66 ((mz_up (mz_set (mz_set (mz_set (mz_up (mz_up (mz_set (mz_set (mz_set (mz_set m 66 s) 65 r) 70 a) 71 b) 66 3 za) 66 3 zb) 65 re1) 70 fe1) 71 ge1) 66 (150 + V) (((mz_set (mz_set (mz_set (mz_up (mz_up (mz_set (mz_set (mz_set (mz_set m 66 s) 65 r) 70 a) 71 b) 66 3 za) 66 3 zb) 65 re1) 70 fe1) 71 ge1) 66 (150 + V)) + 1)) 66)) 65 ((mz_up (mz_set (mz_set (mz_set (mz_up (mz_up (mz_set (mz_set (mz_set (mz_set m 66 s) 65 r) 70 a) 71 b) 66 3 za) 66 3 zb) 65 re1) 70 fe1) 71 ge1) 66 (150 + V) (((mz_set (mz_set (mz_set (mz_up (mz_up (mz_set (mz_set (mz_set (mz_set m 66 s) 65 r) 70 a) 71 b) 66 3 za) 66 3 zb) 65 re1) 70 fe1) 71 ge1) 66 (150 + V)) + 1)) 65)) 70 ((mz_up (mz_set (mz_set (mz_set (mz_up (mz_up (mz_set (mz_set (mz_set (mz_set m 66 s) 65 r) 70 a) 71 b) 66 3 za) 66 3 zb) 65 re1) 70 fe1) 71 ge1) 66 (150 + V) (((mz_set (mz_set (mz_set (mz_up (mz_up (mz_set (mz_set (mz_set (mz_set m 66 s) 65 r) 70 a) 71 b) 66 3 za) 66 3 zb) 65 re1) 70 fe1) 71 ge1) 66 (150 + V)) + 1)) 70)) 71 ((mz_up (mz_set (mz_set (mz_set (mz_up (mz_up (mz_set (mz_set (mz_set (mz_set m 66 s) 65 r) 70 a) 71 b) 66 3 za) 66 3 zb) 65 re1) 70 fe1) 71 ge1) 66 (150 + V) (((mz_set (mz_set (mz_set (mz_up (mz_up (mz_set (mz_set (mz_set (mz_set m 66 s) 65 r) 70 a) 71 b) 66 3 za) 66 3 zb) 65 re1) 70 fe1) 71 ge1) 66 (150 + V)) + 1)) 71) := sm_of4 (fun i h1 h2 h3 h4 => by simp only [mz_set_ne h1, mz_set_ne h2, mz_set_ne h3, mz_set_ne h4, mz_up_ne h1])
      obtain ⟨s', r', a', b', u', p7, p8, p9, h1, h2, h3, h4, E⟩ := ih (k + 1) (by omega) ((mz_up (mz_set (mz_set (mz_set (mz_up (mz_up (mz_set (mz_set (mz_set (mz_set m 66 s) 65 r) 70 a) 71 b) 66 3 za) 66 3 zb) 65 re1) 70 fe1) 71 ge1) 66 (150 + V) (((mz_set (mz_set (mz_set (mz_up (mz_up (mz_set (mz_set (mz_set (mz_set m 66 s) 65 r) 70 a) 71 b) 66 3 za) 66 3 zb) 65 re1) 70 fe1) 71 ge1) 66 (150 + V)) + 1)) 66) (sm_upd c V (c V + 1)) ((mz_up (mz_set (mz_set (mz_set (mz_up (mz_up (mz_set (mz_set (mz_set (mz_set m 66 s) 65 r) 70 a) 71 b) 66 3 za) 66 3 zb) 65 re1) 70 fe1) 71 ge1) 66 (150 + V) (((mz_set (mz_set (mz_set (mz_up (mz_up (mz_set (mz_set (mz_set (mz_set m 66 s) 65 r) 70 a) 71 b) 66 3 za) 66 3 zb) 65 re1) 70 fe1) 71 ge1) 66 (150 + V)) + 1)) 65) ((mz_up (mz_set (mz_set (mz_set (mz_up (mz_up (mz_set (mz_set (mz_set (mz_set m 66 s) 65 r) 70 a) 71 b) 66 3 za) 66 3 zb) 65 re1) 70 fe1) 71 ge1) 66 (150 + V) (((mz_set (mz_set (mz_set (mz_up (mz_up (mz_set (mz_set (mz_set (mz_set m 66 s) 65 r) 70 a) 71 b) 66 3 za) 66 3 zb) 65 re1) 70 fe1) 71 ge1) 66 (150 + V)) + 1)) 70) ((mz_up (mz_set (mz_set (mz_set (mz_up (mz_up (mz_set (mz_set (mz_set (mz_set m 66 s) 65 r) 70 a) 71 b) 66 3 za) 66 3 zb) 65 re1) 70 fe1) 71 ge1) 66 (150 + V) (((mz_set (mz_set (mz_set (mz_up (mz_up (mz_set (mz_set (mz_set (mz_set m 66 s) 65 r) 70 a) 71 b) 66 3 za) 66 3 zb) 65 re1) 70 fe1) 71 ge1) 66 (150 + V)) + 1)) 71) (u + 1) (some (.int (xa + (sm_dr za (nI D))))) (some (.int (xb + (sm_dr zb (nI D))))) (some (.int (nI V))) (fun i hi => by
          rw [e66]
          unfold sm_upd
          by_cases e : i = V
          · rw [if_pos (by omega), if_pos e]
          · rw [if_neg (by omega), if_neg (by omega), if_neg (by omega), if_neg e]
            exact hc i hi) (fun i hi1 hi2 => by
          rw [e66, if_neg (by omega), if_neg hi1, if_neg hi1]
          exact hs i hi1 hi2) (fun k hk => (ke1 k hk).trans (hkr k hk))
      refine ⟨s', r', a', b', u', p7, p8, p9, ?_, fun i hi => ?_, h3, h4, fun res hr0 => ?_⟩
      · rw [sm_it_S, h1, e66, if_neg (by omega), if_pos rfl, ← hzb, ← hza, sm_z2_eq]
      · rw [sm_ic_S, sm_thd_eq hV eV, h2 i hi, e66, if_neg (by omega), if_pos rfl, ← hzb, ← hza, sm_z2_eq]
      · have hr := E res hr0
        rw [nI_succ k, ← hm] at hr
        refine mz_go 3 (c' := (if (nI n) ≤ (nI k) then 183 else 85, [some (.ref 65), some (.int xa), some (.int xb), some (.int (nI D)), some (.int (nI n)), some (.int u), some (.int (nI k)), o7, o8, o9], [], mz_set (mz_set (mz_set (mz_set m 66 s) 65 r) 70 a) 71 b)) rfl ?_
        refine mz_ifF (show ¬ ((nI n) ≤ (nI k)) from (sm_nleN rfl rfl (show k < n by omega) (show n < 2 ^ 31 by omega))) ?_
        refine mz_go 2 (c' := (87, [some (.ref 65), some (.int xa), some (.int xb), some (.int (nI D)), some (.int (nI n)), some (.int u), some (.int (nI k)), o7, o8, o9], [.ref 65, .int xa], mz_set (mz_set (mz_set (mz_set m 66 s) 65 r) 70 a) 71 b)) rfl ?_
        refine mz_do (R := mz_r205) (as := [.ref 65]) (rest := [.int xa]) (r1 := some (.int sza)) (m1 := mz_up (mz_set (mz_set (mz_set (mz_set m 66 s) 65 r) 70 a) 71 b) 66 3 za) rfl (Wza.deep (by decide)) ?_
        refine mz_go 5 (c' := (95, [some (.ref 65), some (.int xa), some (.int xb), some (.int (nI D)), some (.int (nI n)), some (.int u), some (.int (nI k)), o7, o8, o9], [.int ((2 * (nI D)) + 1), .int sza, .int xa], mz_up (mz_set (mz_set (mz_set (mz_set m 66 s) 65 r) 70 a) 71 b) 66 3 za)) rfl ?_
        refine mz_div (c' := (96, [some (.ref 65), some (.int xa), some (.int xb), some (.int (nI D)), some (.int (nI n)), some (.int u), some (.int (nI k)), o7, o8, o9], [.int (sza - sza / ((2 * (nI D)) + 1) * ((2 * (nI D)) + 1)), .int xa], mz_up (mz_set (mz_set (mz_set (mz_set m 66 s) 65 r) 70 a) 71 b) 66 3 za)) rfl (sm_neN (a := 2 * D + 1) (b := 0) (sm_addN (sm_mulN rfl rfl) rfl) rfl (by omega) (by omega) (by decide)) ?_
        refine mz_go 3 (c' := (99, [some (.ref 65), some (.int xa), some (.int xb), some (.int (nI D)), some (.int (nI n)), some (.int u), some (.int (nI k)), o7, o8, o9], [.int ((xa + (sza - sza / ((2 * (nI D)) + 1) * ((2 * (nI D)) + 1))) - (nI D))], mz_up (mz_set (mz_set (mz_set (mz_set m 66 s) 65 r) 70 a) 71 b) 66 3 za)) rfl ?_
        rw [show (xa + (sza - sza / ((2 * (nI D)) + 1) * ((2 * (nI D)) + 1))) - (nI D) = xa + (sm_dr za (nI D)) from by rw [sm_adds, ← hsza]; rfl]
        refine mz_go 3 (c' := (103, [some (.ref 65), some (.int xa), some (.int xb), some (.int (nI D)), some (.int (nI n)), some (.int u), some (.int (nI k)), some (.int (xa + (sm_dr za (nI D)))), o8, o9], [.ref 65, .int xb], mz_up (mz_set (mz_set (mz_set (mz_set m 66 s) 65 r) 70 a) 71 b) 66 3 za)) rfl ?_
        refine mz_do (R := mz_r205) (as := [.ref 65]) (rest := [.int xb]) (r1 := some (.int szb)) (m1 := mz_up (mz_up (mz_set (mz_set (mz_set (mz_set m 66 s) 65 r) 70 a) 71 b) 66 3 za) 66 3 zb) rfl (Wzb.deep (by decide)) ?_
        refine mz_go 5 (c' := (111, [some (.ref 65), some (.int xa), some (.int xb), some (.int (nI D)), some (.int (nI n)), some (.int u), some (.int (nI k)), some (.int (xa + (sm_dr za (nI D)))), o8, o9], [.int ((2 * (nI D)) + 1), .int szb, .int xb], mz_up (mz_up (mz_set (mz_set (mz_set (mz_set m 66 s) 65 r) 70 a) 71 b) 66 3 za) 66 3 zb)) rfl ?_
        refine mz_div (c' := (112, [some (.ref 65), some (.int xa), some (.int xb), some (.int (nI D)), some (.int (nI n)), some (.int u), some (.int (nI k)), some (.int (xa + (sm_dr za (nI D)))), o8, o9], [.int (szb - szb / ((2 * (nI D)) + 1) * ((2 * (nI D)) + 1)), .int xb], mz_up (mz_up (mz_set (mz_set (mz_set (mz_set m 66 s) 65 r) 70 a) 71 b) 66 3 za) 66 3 zb)) rfl (sm_neN (a := 2 * D + 1) (b := 0) (sm_addN (sm_mulN rfl rfl) rfl) rfl (by omega) (by omega) (by decide)) ?_
        refine mz_go 3 (c' := (115, [some (.ref 65), some (.int xa), some (.int xb), some (.int (nI D)), some (.int (nI n)), some (.int u), some (.int (nI k)), some (.int (xa + (sm_dr za (nI D)))), o8, o9], [.int ((xb + (szb - szb / ((2 * (nI D)) + 1) * ((2 * (nI D)) + 1))) - (nI D))], mz_up (mz_up (mz_set (mz_set (mz_set (mz_set m 66 s) 65 r) 70 a) 71 b) 66 3 za) 66 3 zb)) rfl ?_
        rw [show (xb + (szb - szb / ((2 * (nI D)) + 1) * ((2 * (nI D)) + 1))) - (nI D) = xb + (sm_dr zb (nI D)) from by rw [sm_adds, ← hszb]; rfl]
        refine mz_go 5 (c' := (124, [some (.ref 65), some (.int xa), some (.int xb), some (.int (nI D)), some (.int (nI n)), some (.int u), some (.int (nI k)), some (.int (xa + (sm_dr za (nI D)))), some (.int (xb + (sm_dr zb (nI D)))), o9], [.int 100, .int (-100), .int (xa + (sm_dr za (nI D))), .ref 65], mz_up (mz_up (mz_set (mz_set (mz_set (mz_set m 66 s) 65 r) 70 a) 71 b) 66 3 za) 66 3 zb)) rfl ?_
        refine mz_do (R := mz_r130) (as := [.int (xa + (sm_dr za (nI D))), .int (-100), .int 100]) (rest := [.ref 65]) (r1 := some (.int (sm_held (xa + (sm_dr za (nI D))) (-100) 100))) (m1 := mz_up (mz_up (mz_set (mz_set (mz_set (mz_set m 66 s) 65 r) 70 a) 71 b) 66 3 za) 66 3 zb) rfl ((ct_held (m := mz_up (mz_up (mz_set (mz_set (mz_set (mz_set m 66 s) 65 r) 70 a) 71 b) 66 3 za) 66 3 zb) (xa + (sm_dr za (nI D))) (-100) 100).deep (by decide)) ?_
        refine mz_go 3 (c' := (133, [some (.ref 65), some (.int xa), some (.int xb), some (.int (nI D)), some (.int (nI n)), some (.int u), some (.int (nI k)), some (.int (xa + (sm_dr za (nI D)))), some (.int (xb + (sm_dr zb (nI D)))), o9], [.int 100, .int (-100), .int (xb + (sm_dr zb (nI D))), .int (sm_held (xa + (sm_dr za (nI D))) (-100) 100), .ref 65], mz_up (mz_up (mz_set (mz_set (mz_set (mz_set m 66 s) 65 r) 70 a) 71 b) 66 3 za) 66 3 zb)) rfl ?_
        refine mz_do (R := mz_r130) (as := [.int (xb + (sm_dr zb (nI D))), .int (-100), .int 100]) (rest := [.int (sm_held (xa + (sm_dr za (nI D))) (-100) 100), .ref 65]) (r1 := some (.int (sm_held (xb + (sm_dr zb (nI D))) (-100) 100))) (m1 := mz_up (mz_up (mz_set (mz_set (mz_set (mz_set m 66 s) 65 r) 70 a) 71 b) 66 3 za) 66 3 zb) rfl ((ct_held (m := mz_up (mz_up (mz_set (mz_set (mz_set (mz_set m 66 s) 65 r) 70 a) 71 b) 66 3 za) 66 3 zb) (xb + (sm_dr zb (nI D))) (-100) 100).deep (by decide)) ?_
        refine mz_go 1 (c' := (137, [some (.ref 65), some (.int xa), some (.int xb), some (.int (nI D)), some (.int (nI n)), some (.int u), some (.int (nI k)), some (.int (xa + (sm_dr za (nI D)))), some (.int (xb + (sm_dr zb (nI D)))), o9], [.ref 65, .int (sm_held (xb + (sm_dr zb (nI D))) (-100) 100), .int (sm_held (xa + (sm_dr za (nI D))) (-100) 100), .ref 65], mz_up (mz_up (mz_set (mz_set (mz_set (mz_set m 66 s) 65 r) 70 a) 71 b) 66 3 za) 66 3 zb)) rfl ?_
        refine mz_do (R := mz_r156) (as := [.ref 65]) (rest := [.int (sm_held (xb + (sm_dr zb (nI D))) (-100) 100), .int (sm_held (xa + (sm_dr za (nI D))) (-100) 100), .ref 65]) (r1 := some (.int (w 7 5))) (m1 := mz_up (mz_up (mz_set (mz_set (mz_set (mz_set m 66 s) 65 r) 70 a) 71 b) 66 3 za) 66 3 zb) rfl ⟨?_, rfl⟩ ?_
        · refine mz_go 4 (c' := (7, [some (.ref 65)], [.int (s 15)], mz_up (mz_up (mz_set (mz_set (mz_set (mz_set m 66 s) 65 r) 70 a) 71 b) 66 3 za) 66 3 zb)) rfl ?_
          rw [h75]
          exact mz_ret rfl
        refine mz_do (R := mz_r155) (as := [.ref 65, .int (sm_held (xa + (sm_dr za (nI D))) (-100) 100), .int (sm_held (xb + (sm_dr zb (nI D))) (-100) 100), .int (w 7 5)]) (rest := []) (r1 := some (.int (nI V))) (m1 := mz_set (mz_set (mz_set (mz_up (mz_up (mz_set (mz_set (mz_set (mz_set m 66 s) 65 r) 70 a) 71 b) 66 3 za) 66 3 zb) 65 re1) 70 fe1) 71 ge1) rfl (Ee1.deep (by decide)) ?_
        refine mz_go 7 (c' := (156, [some (.ref 65), some (.int xa), some (.int xb), some (.int (nI D)), some (.int (nI n)), some (.int u), some (.int (nI k)), some (.int (xa + (sm_dr za (nI D)))), some (.int (xb + (sm_dr zb (nI D)))), some (.int (nI V))], [.int (150 + (nI V)), .ref 66, .int (150 + (nI V)), .ref 66], mz_set (mz_set (mz_set (mz_up (mz_up (mz_set (mz_set (mz_set (mz_set m 66 s) 65 r) 70 a) 71 b) 66 3 za) 66 3 zb) 65 re1) 70 fe1) 71 ge1)) rfl ?_
        refine mz_arr (c' := (157, [some (.ref 65), some (.int xa), some (.int xb), some (.int (nI D)), some (.int (nI n)), some (.int u), some (.int (nI k)), some (.int (xa + (sm_dr za (nI D)))), some (.int (xb + (sm_dr zb (nI D)))), some (.int (nI V))], [.int ((mz_set (mz_set (mz_set (mz_up (mz_up (mz_set (mz_set (mz_set (mz_set m 66 s) 65 r) 70 a) 71 b) 66 3 za) 66 3 zb) 65 re1) 70 fe1) 71 ge1) 66 ((150 + (nI V)).toNatClampNeg)), .int (150 + (nI V)), .ref 66], mz_set (mz_set (mz_set (mz_up (mz_up (mz_set (mz_set (mz_set (mz_set m 66 s) 65 r) 70 a) 71 b) 66 3 za) 66 3 zb) 65 re1) 70 fe1) 71 ge1)) rfl (show mz_in (150 + (nI V)) 650 = true from sm_inN (sm_addN rfl rfl) (show (150 + V) < 650 by omega) (by decide)) ?_
        rw [show (150 + (nI V) : Int32).toNatClampNeg = (150 + V) from sm_clN (sm_addN rfl rfl) (show (150 + V) < 2 ^ 31 by omega)]
        refine mz_go 2 (c' := (159, [some (.ref 65), some (.int xa), some (.int xb), some (.int (nI D)), some (.int (nI n)), some (.int u), some (.int (nI k)), some (.int (xa + (sm_dr za (nI D)))), some (.int (xb + (sm_dr zb (nI D)))), some (.int (nI V))], [.int (((mz_set (mz_set (mz_set (mz_up (mz_up (mz_set (mz_set (mz_set (mz_set m 66 s) 65 r) 70 a) 71 b) 66 3 za) 66 3 zb) 65 re1) 70 fe1) 71 ge1) 66 (150 + V)) + 1), .int (150 + (nI V)), .ref 66], mz_set (mz_set (mz_set (mz_up (mz_up (mz_set (mz_set (mz_set (mz_set m 66 s) 65 r) 70 a) 71 b) 66 3 za) 66 3 zb) 65 re1) 70 fe1) 71 ge1)) rfl ?_
        refine mz_arr (c' := (160, [some (.ref 65), some (.int xa), some (.int xb), some (.int (nI D)), some (.int (nI n)), some (.int u), some (.int (nI k)), some (.int (xa + (sm_dr za (nI D)))), some (.int (xb + (sm_dr zb (nI D)))), some (.int (nI V))], [], mz_up (mz_set (mz_set (mz_set (mz_up (mz_up (mz_set (mz_set (mz_set (mz_set m 66 s) 65 r) 70 a) 71 b) 66 3 za) 66 3 zb) 65 re1) 70 fe1) 71 ge1) 66 ((150 + (nI V)).toNatClampNeg) (((mz_set (mz_set (mz_set (mz_up (mz_up (mz_set (mz_set (mz_set (mz_set m 66 s) 65 r) 70 a) 71 b) 66 3 za) 66 3 zb) 65 re1) 70 fe1) 71 ge1) 66 (150 + V)) + 1))) rfl (show mz_in (150 + (nI V)) 650 = true from sm_inN (sm_addN rfl rfl) (show (150 + V) < 650 by omega) (by decide)) ?_
        rw [show (150 + (nI V) : Int32).toNatClampNeg = (150 + V) from sm_clN (sm_addN rfl rfl) (show (150 + V) < 2 ^ 31 by omega)]
        refine mz_go 4 (c' := (if (nI V) = 9 then 169 else 173, [some (.ref 65), some (.int xa), some (.int xb), some (.int (nI D)), some (.int (nI n)), some (.int u), some (.int (nI k)), some (.int (xa + (sm_dr za (nI D)))), some (.int (xb + (sm_dr zb (nI D)))), some (.int (nI V))], [.int u], mz_up (mz_set (mz_set (mz_set (mz_up (mz_up (mz_set (mz_set (mz_set (mz_set m 66 s) 65 r) 70 a) 71 b) 66 3 za) 66 3 zb) 65 re1) 70 fe1) 71 ge1) 66 (150 + V) (((mz_set (mz_set (mz_set (mz_up (mz_up (mz_set (mz_set (mz_set (mz_set m 66 s) 65 r) 70 a) 71 b) 66 3 za) 66 3 zb) 65 re1) 70 fe1) 71 ge1) 66 (150 + V)) + 1))) rfl ?_
        refine mz_ifF (show ¬ ((nI V) = 9) from (sm_neN rfl rfl (show V ≠ 9 by omega) (show V < 2 ^ 31 by omega) (show 9 < 2 ^ 31 by omega))) ?_
        refine mz_go 5 (c' := (78, [some (.ref 65), some (.int xa), some (.int xb), some (.int (nI D)), some (.int (nI n)), some (.int (u + 1)), some (.int ((nI k) + 1)), some (.int (xa + (sm_dr za (nI D)))), some (.int (xb + (sm_dr zb (nI D)))), some (.int (nI V))], [], mz_up (mz_set (mz_set (mz_set (mz_up (mz_up (mz_set (mz_set (mz_set (mz_set m 66 s) 65 r) 70 a) 71 b) 66 3 za) 66 3 zb) 65 re1) 70 fe1) 71 ge1) 66 (150 + V) (((mz_set (mz_set (mz_set (mz_up (mz_up (mz_set (mz_set (mz_set (mz_set m 66 s) 65 r) 70 a) 71 b) 66 3 za) 66 3 zb) 65 re1) 70 fe1) 71 ge1) 66 (150 + V)) + 1))) rfl ?_
        exact hr
set_option maxHeartbeats 4000000 in
set_option maxRecDepth 100000 in
theorem sc_throwsOf {n : Nat} (hn : n < 64) {w : mz_M} (hI : sm_I n w) (xa : Int32) (xb : Int32) (xc : Int32) (xd : Int32) : ∃ v1 v2 m1 m2, mz_Me 100 mz_r94 [.ref 0, .int xa, .int xb, .int xc, .int xd] w (some (.int v1)) m1 ∧ mz_Me 100 mz_r206 [.ref 65, .int xa, .int xb, .int xc, .int xd] m1 (some (.int v2)) m2 ∧ sm_I (n + 1) m2 := by
  have hI2 := hI
  obtain ⟨hn0, ⟨-, ⟨hr80, hr5, hrr⟩, ⟨⟨TT, hTT, h81, h661⟩, htp⟩, ⟨⟨T0, hT0, hU0, hV0, -⟩, ⟨T1, hT1, hU1, hV1, -⟩, ⟨T2, hT2, hU2, hV2, -⟩⟩, ⟨hbx, hby, hbl⟩, ⟨⟨WW, HH, hWW, hHH, hWH, h202, h203, h6660, h6661⟩, h6662, h6663, h6664, hpc⟩, ⟨hth, h66160, hthr⟩, ⟨⟨AA, hAA, h111, h662⟩, h663, hwt⟩⟩, ⟨hsh, hsn⟩, ⟨hcb1, hcb2⟩, ⟨JJ, hJJ, h07, h652, hkept⟩⟩ := hI
  obtain ⟨N, hw, hr2, h660, -, -, h6615⟩ := sm_world hI2
  have hw2 := hw
  obtain ⟨hN, h4, hpb, -, -⟩ := hw2
  have hT60a := sm_T60 hV0
  have hT60b := sm_T60 hV1
  have hT60c := sm_T60 hV2
  obtain ⟨B1, hB1, e571⟩ := sm_Nof (by decide) hcb1
  obtain ⟨B2, hB2, e6519⟩ := sm_Nof (by decide) hcb2
  refine mz_two (fun _ => rfl) (fun _ => rfl) ?_
  by_cases q1 : (sm_bI (sm_plc xa xb)) = 0
  · refine mz_goP 2 (c' := (2, [some (.ref 0), some (.int xa), some (.int xb), some (.int xc), some (.int xd), none, none, none, none, none], [.int xb, .int xa], w)) rfl ?_
    refine mz_doP (R := mz_r116) (as := [.int xa, .int xb]) (rest := []) (r1 := some (.int (sm_bI (sm_plc xa xb)))) (m1 := w) rfl ((cs_plc (m := w) xa xb).deep (by decide)) ?_
    refine mz_goP 1 (c' := (if (sm_bI (sm_plc xa xb)) = 0 then 29 else 8, [some (.ref 0), some (.int xa), some (.int xb), some (.int xc), some (.int xd), none, none, none, none, none], [], w)) rfl ?_
    refine mz_ifTP q1 ?_
    refine mz_goP 2 (c' := (31, [some (.ref 0), some (.int xa), some (.int xb), some (.int xc), some (.int xd), none, none, none, none, none], [.int 1, .ref 0], w)) rfl ?_
    refine mz_doP (R := mz_r109) (as := [.ref 0, .int 1]) (rest := []) (r1 := some (.int (-1000001))) (m1 := mz_up w 64 1 ((w 64 1) + 1)) rfl ⟨?_, rfl⟩ ?_
    · refine mz_go 3 (c' := (4, [some (.ref 0), some (.int 1)], [.int 6, .int 1, .int 1], w)) rfl ?_
      refine mz_do (R := mz_r121) (as := [.int 1, .int 1, .int 6]) (rest := []) (r1 := some (.int 1)) (m1 := w) rfl ⟨?_, rfl⟩ ?_
      · refine mz_go 8 (c' := (15, [some (.int 1), some (.int 1), some (.int 6)], [.int 1], w)) rfl ?_
        exact mz_ret rfl
      refine mz_go 12 (c' := (25, [some (.ref 0), some (.int 1)], [.int (-1000001)], mz_up w 64 1 ((w 64 1) + 1))) rfl ?_
      exact mz_ret rfl
    refine mz_retP (r := (some (.int ((-1000001))), mz_up w 64 1 ((w 64 1) + 1))) rfl ⟨(-1000001), rfl, ?_⟩
    refine mz_goP 2 (c' := (2, [some (.ref 65), some (.int xa), some (.int xb), some (.int xc), some (.int xd), none, none, none, none, none], [.int xb, .int xa], mz_up w 64 1 ((w 64 1) + 1))) rfl ?_
    refine mz_doP (R := mz_r131) (as := [.int xa, .int xb]) (rest := []) (r1 := some (.int (sm_bI (sm_plc xa xb)))) (m1 := mz_up w 64 1 ((w 64 1) + 1)) rfl ((ct_plc (m := mz_up w 64 1 ((w 64 1) + 1)) xa xb).deep (by decide)) ?_
    refine mz_goP 1 (c' := (if (sm_bI (sm_plc xa xb)) = 0 then 29 else 8, [some (.ref 65), some (.int xa), some (.int xb), some (.int xc), some (.int xd), none, none, none, none, none], [], mz_up w 64 1 ((w 64 1) + 1))) rfl ?_
    refine mz_ifTP q1 ?_
    refine mz_goP 2 (c' := (31, [some (.ref 65), some (.int xa), some (.int xb), some (.int xc), some (.int xd), none, none, none, none, none], [.int 1, .ref 65], mz_up w 64 1 ((w 64 1) + 1))) rfl ?_
    refine mz_doP (R := mz_r127) (as := [.ref 65, .int 1]) (rest := []) (r1 := some (.int (-1000001))) (m1 := mz_up (mz_up w 64 1 ((w 64 1) + 1)) 68 1 ((w 68 1) + 1)) rfl ⟨?_, rfl⟩ ?_
    · refine mz_go 11 (c' := (14, [some (.ref 65), some (.int 1)], [.int (-1000001)], mz_up (mz_up w 64 1 ((w 64 1) + 1)) 68 1 ((w 68 1) + 1))) rfl ?_
      exact mz_ret rfl
    refine mz_retP (r := (some (.int ((-1000001))), mz_up (mz_up w 64 1 ((w 64 1) + 1)) 68 1 ((w 68 1) + 1))) rfl ⟨(-1000001), rfl, ?_⟩
    show sm_I (n + 1) (mz_up (mz_up w 64 1 ((w 64 1) + 1)) 68 1 ((w 68 1) + 1))
    exact sm_I_scr hn hI2 (fun i hi => by
      have hne : ∀ r, sm_scr r = true → i ≠ r := fun r hr e => by
        rw [e, hr] at hi
        cases hi
      simp only [mz_up_ne (hne 64 rfl), mz_up_ne (hne 68 rfl)]) rfl rfl
  · by_cases q2 : (sm_bI (sm_in xc 0 50)) = 0
    · refine mz_goP 2 (c' := (2, [some (.ref 0), some (.int xa), some (.int xb), some (.int xc), some (.int xd), none, none, none, none, none], [.int xb, .int xa], w)) rfl ?_
      refine mz_doP (R := mz_r116) (as := [.int xa, .int xb]) (rest := []) (r1 := some (.int 1)) (m1 := w) rfl ⟨?_, rfl⟩ ?_
      · refine mz_go 3 (c' := (5, [some (.int xa), some (.int xb)], [.int 100, .int (-100), .int xa], w)) rfl ?_
        refine mz_do (R := mz_r121) (as := [.int xa, .int (-100), .int 100]) (rest := []) (r1 := some (.int 1)) (m1 := w) rfl ⟨?_, rfl⟩ ?_
        · refine mz_go 3 (c' := (if xa < (-100) then 14 else 5, [some (.int xa), some (.int (-100)), some (.int 100)], [], w)) rfl ?_
          refine mz_ifF (show ¬ (xa < (-100)) from (sm_plc_of q1).1.1) ?_
          refine mz_go 3 (c' := (if 100 < xa then 14 else 10, [some (.int xa), some (.int (-100)), some (.int 100)], [], w)) rfl ?_
          refine mz_ifF (show ¬ (100 < xa) from (sm_plc_of q1).1.2) ?_
          refine mz_go 2 (c' := (15, [some (.int xa), some (.int (-100)), some (.int 100)], [.int 1], w)) rfl ?_
          exact mz_ret rfl
        refine mz_go 4 (c' := (16, [some (.int xa), some (.int xb)], [.int 100, .int (-100), .int xb], w)) rfl ?_
        refine mz_do (R := mz_r121) (as := [.int xb, .int (-100), .int 100]) (rest := []) (r1 := some (.int 1)) (m1 := w) rfl ⟨?_, rfl⟩ ?_
        · refine mz_go 3 (c' := (if xb < (-100) then 14 else 5, [some (.int xb), some (.int (-100)), some (.int 100)], [], w)) rfl ?_
          refine mz_ifF (show ¬ (xb < (-100)) from (sm_plc_of q1).2.1) ?_
          refine mz_go 3 (c' := (if 100 < xb then 14 else 10, [some (.int xb), some (.int (-100)), some (.int 100)], [], w)) rfl ?_
          refine mz_ifF (show ¬ (100 < xb) from (sm_plc_of q1).2.2) ?_
          refine mz_go 2 (c' := (15, [some (.int xb), some (.int (-100)), some (.int 100)], [.int 1], w)) rfl ?_
          exact mz_ret rfl
        refine mz_go 3 (c' := (27, [some (.int xa), some (.int xb)], [.int 1], w)) rfl ?_
        exact mz_ret rfl
      refine mz_goP 4 (c' := (12, [some (.ref 0), some (.int xa), some (.int xb), some (.int xc), some (.int xd), none, none, none, none, none], [.int 50, .int 0, .int xc], w)) rfl ?_
      refine mz_doP (R := mz_r121) (as := [.int xc, .int 0, .int 50]) (rest := []) (r1 := some (.int (sm_bI (sm_in xc 0 50)))) (m1 := w) rfl ((cs_in (m := w) xc 0 50).deep (by decide)) ?_
      refine mz_goP 1 (c' := (if (sm_bI (sm_in xc 0 50)) = 0 then 29 else 18, [some (.ref 0), some (.int xa), some (.int xb), some (.int xc), some (.int xd), none, none, none, none, none], [], w)) rfl ?_
      refine mz_ifTP q2 ?_
      refine mz_goP 2 (c' := (31, [some (.ref 0), some (.int xa), some (.int xb), some (.int xc), some (.int xd), none, none, none, none, none], [.int 1, .ref 0], w)) rfl ?_
      refine mz_doP (R := mz_r109) (as := [.ref 0, .int 1]) (rest := []) (r1 := some (.int (-1000001))) (m1 := mz_up w 64 1 ((w 64 1) + 1)) rfl ⟨?_, rfl⟩ ?_
      · refine mz_go 3 (c' := (4, [some (.ref 0), some (.int 1)], [.int 6, .int 1, .int 1], w)) rfl ?_
        refine mz_do (R := mz_r121) (as := [.int 1, .int 1, .int 6]) (rest := []) (r1 := some (.int 1)) (m1 := w) rfl ⟨?_, rfl⟩ ?_
        · refine mz_go 8 (c' := (15, [some (.int 1), some (.int 1), some (.int 6)], [.int 1], w)) rfl ?_
          exact mz_ret rfl
        refine mz_go 12 (c' := (25, [some (.ref 0), some (.int 1)], [.int (-1000001)], mz_up w 64 1 ((w 64 1) + 1))) rfl ?_
        exact mz_ret rfl
      refine mz_retP (r := (some (.int ((-1000001))), mz_up w 64 1 ((w 64 1) + 1))) rfl ⟨(-1000001), rfl, ?_⟩
      refine mz_goP 2 (c' := (2, [some (.ref 65), some (.int xa), some (.int xb), some (.int xc), some (.int xd), none, none, none, none, none], [.int xb, .int xa], mz_up w 64 1 ((w 64 1) + 1))) rfl ?_
      refine mz_doP (R := mz_r131) (as := [.int xa, .int xb]) (rest := []) (r1 := some (.int 1)) (m1 := mz_up w 64 1 ((w 64 1) + 1)) rfl ⟨?_, rfl⟩ ?_
      · refine mz_go 3 (c' := (5, [some (.int xa), some (.int xb)], [.int 100, .int (-100), .int xa], mz_up w 64 1 ((w 64 1) + 1))) rfl ?_
        refine mz_do (R := mz_r128) (as := [.int xa, .int (-100), .int 100]) (rest := []) (r1 := some (.int 1)) (m1 := mz_up w 64 1 ((w 64 1) + 1)) rfl ⟨?_, rfl⟩ ?_
        · refine mz_go 3 (c' := (if xa < (-100) then 14 else 5, [some (.int xa), some (.int (-100)), some (.int 100)], [], mz_up w 64 1 ((w 64 1) + 1))) rfl ?_
          refine mz_ifF (show ¬ (xa < (-100)) from (sm_plc_of q1).1.1) ?_
          refine mz_go 3 (c' := (if 100 < xa then 14 else 10, [some (.int xa), some (.int (-100)), some (.int 100)], [], mz_up w 64 1 ((w 64 1) + 1))) rfl ?_
          refine mz_ifF (show ¬ (100 < xa) from (sm_plc_of q1).1.2) ?_
          refine mz_go 2 (c' := (15, [some (.int xa), some (.int (-100)), some (.int 100)], [.int 1], mz_up w 64 1 ((w 64 1) + 1))) rfl ?_
          exact mz_ret rfl
        refine mz_go 4 (c' := (16, [some (.int xa), some (.int xb)], [.int 100, .int (-100), .int xb], mz_up w 64 1 ((w 64 1) + 1))) rfl ?_
        refine mz_do (R := mz_r128) (as := [.int xb, .int (-100), .int 100]) (rest := []) (r1 := some (.int 1)) (m1 := mz_up w 64 1 ((w 64 1) + 1)) rfl ⟨?_, rfl⟩ ?_
        · refine mz_go 3 (c' := (if xb < (-100) then 14 else 5, [some (.int xb), some (.int (-100)), some (.int 100)], [], mz_up w 64 1 ((w 64 1) + 1))) rfl ?_
          refine mz_ifF (show ¬ (xb < (-100)) from (sm_plc_of q1).2.1) ?_
          refine mz_go 3 (c' := (if 100 < xb then 14 else 10, [some (.int xb), some (.int (-100)), some (.int 100)], [], mz_up w 64 1 ((w 64 1) + 1))) rfl ?_
          refine mz_ifF (show ¬ (100 < xb) from (sm_plc_of q1).2.2) ?_
          refine mz_go 2 (c' := (15, [some (.int xb), some (.int (-100)), some (.int 100)], [.int 1], mz_up w 64 1 ((w 64 1) + 1))) rfl ?_
          exact mz_ret rfl
        refine mz_go 3 (c' := (27, [some (.int xa), some (.int xb)], [.int 1], mz_up w 64 1 ((w 64 1) + 1))) rfl ?_
        exact mz_ret rfl
      refine mz_goP 4 (c' := (12, [some (.ref 65), some (.int xa), some (.int xb), some (.int xc), some (.int xd), none, none, none, none, none], [.int 50, .int 0, .int xc], mz_up w 64 1 ((w 64 1) + 1))) rfl ?_
      refine mz_doP (R := mz_r128) (as := [.int xc, .int 0, .int 50]) (rest := []) (r1 := some (.int (sm_bI (sm_in xc 0 50)))) (m1 := mz_up w 64 1 ((w 64 1) + 1)) rfl ((ct_in (m := mz_up w 64 1 ((w 64 1) + 1)) xc 0 50).deep (by decide)) ?_
      refine mz_goP 1 (c' := (if (sm_bI (sm_in xc 0 50)) = 0 then 29 else 18, [some (.ref 65), some (.int xa), some (.int xb), some (.int xc), some (.int xd), none, none, none, none, none], [], mz_up w 64 1 ((w 64 1) + 1))) rfl ?_
      refine mz_ifTP q2 ?_
      refine mz_goP 2 (c' := (31, [some (.ref 65), some (.int xa), some (.int xb), some (.int xc), some (.int xd), none, none, none, none, none], [.int 1, .ref 65], mz_up w 64 1 ((w 64 1) + 1))) rfl ?_
      refine mz_doP (R := mz_r127) (as := [.ref 65, .int 1]) (rest := []) (r1 := some (.int (-1000001))) (m1 := mz_up (mz_up w 64 1 ((w 64 1) + 1)) 68 1 ((w 68 1) + 1)) rfl ⟨?_, rfl⟩ ?_
      · refine mz_go 11 (c' := (14, [some (.ref 65), some (.int 1)], [.int (-1000001)], mz_up (mz_up w 64 1 ((w 64 1) + 1)) 68 1 ((w 68 1) + 1))) rfl ?_
        exact mz_ret rfl
      refine mz_retP (r := (some (.int ((-1000001))), mz_up (mz_up w 64 1 ((w 64 1) + 1)) 68 1 ((w 68 1) + 1))) rfl ⟨(-1000001), rfl, ?_⟩
      show sm_I (n + 1) (mz_up (mz_up w 64 1 ((w 64 1) + 1)) 68 1 ((w 68 1) + 1))
      exact sm_I_scr hn hI2 (fun i hi => by
        have hne : ∀ r, sm_scr r = true → i ≠ r := fun r hr e => by
          rw [e, hr] at hi
          cases hi
        simp only [mz_up_ne (hne 64 rfl), mz_up_ne (hne 68 rfl)]) rfl rfl
    · by_cases q3 : (sm_bI (sm_in xd 1 40)) = 0
      · refine mz_goP 2 (c' := (2, [some (.ref 0), some (.int xa), some (.int xb), some (.int xc), some (.int xd), none, none, none, none, none], [.int xb, .int xa], w)) rfl ?_
        refine mz_doP (R := mz_r116) (as := [.int xa, .int xb]) (rest := []) (r1 := some (.int 1)) (m1 := w) rfl ⟨?_, rfl⟩ ?_
        · refine mz_go 3 (c' := (5, [some (.int xa), some (.int xb)], [.int 100, .int (-100), .int xa], w)) rfl ?_
          refine mz_do (R := mz_r121) (as := [.int xa, .int (-100), .int 100]) (rest := []) (r1 := some (.int 1)) (m1 := w) rfl ⟨?_, rfl⟩ ?_
          · refine mz_go 3 (c' := (if xa < (-100) then 14 else 5, [some (.int xa), some (.int (-100)), some (.int 100)], [], w)) rfl ?_
            refine mz_ifF (show ¬ (xa < (-100)) from (sm_plc_of q1).1.1) ?_
            refine mz_go 3 (c' := (if 100 < xa then 14 else 10, [some (.int xa), some (.int (-100)), some (.int 100)], [], w)) rfl ?_
            refine mz_ifF (show ¬ (100 < xa) from (sm_plc_of q1).1.2) ?_
            refine mz_go 2 (c' := (15, [some (.int xa), some (.int (-100)), some (.int 100)], [.int 1], w)) rfl ?_
            exact mz_ret rfl
          refine mz_go 4 (c' := (16, [some (.int xa), some (.int xb)], [.int 100, .int (-100), .int xb], w)) rfl ?_
          refine mz_do (R := mz_r121) (as := [.int xb, .int (-100), .int 100]) (rest := []) (r1 := some (.int 1)) (m1 := w) rfl ⟨?_, rfl⟩ ?_
          · refine mz_go 3 (c' := (if xb < (-100) then 14 else 5, [some (.int xb), some (.int (-100)), some (.int 100)], [], w)) rfl ?_
            refine mz_ifF (show ¬ (xb < (-100)) from (sm_plc_of q1).2.1) ?_
            refine mz_go 3 (c' := (if 100 < xb then 14 else 10, [some (.int xb), some (.int (-100)), some (.int 100)], [], w)) rfl ?_
            refine mz_ifF (show ¬ (100 < xb) from (sm_plc_of q1).2.2) ?_
            refine mz_go 2 (c' := (15, [some (.int xb), some (.int (-100)), some (.int 100)], [.int 1], w)) rfl ?_
            exact mz_ret rfl
          refine mz_go 3 (c' := (27, [some (.int xa), some (.int xb)], [.int 1], w)) rfl ?_
          exact mz_ret rfl
        refine mz_goP 4 (c' := (12, [some (.ref 0), some (.int xa), some (.int xb), some (.int xc), some (.int xd), none, none, none, none, none], [.int 50, .int 0, .int xc], w)) rfl ?_
        refine mz_doP (R := mz_r121) (as := [.int xc, .int 0, .int 50]) (rest := []) (r1 := some (.int 1)) (m1 := w) rfl ⟨?_, rfl⟩ ?_
        · refine mz_go 3 (c' := (if xc < 0 then 14 else 5, [some (.int xc), some (.int 0), some (.int 50)], [], w)) rfl ?_
          refine mz_ifF (show ¬ (xc < 0) from (sm_in_lo q2)) ?_
          refine mz_go 3 (c' := (if 50 < xc then 14 else 10, [some (.int xc), some (.int 0), some (.int 50)], [], w)) rfl ?_
          refine mz_ifF (show ¬ (50 < xc) from (sm_in_hi q2)) ?_
          refine mz_go 2 (c' := (15, [some (.int xc), some (.int 0), some (.int 50)], [.int 1], w)) rfl ?_
          exact mz_ret rfl
        refine mz_goP 4 (c' := (23, [some (.ref 0), some (.int xa), some (.int xb), some (.int xc), some (.int xd), none, none, none, none, none], [.int 40, .int 1, .int xd], w)) rfl ?_
        refine mz_doP (R := mz_r121) (as := [.int xd, .int 1, .int 40]) (rest := []) (r1 := some (.int (sm_bI (sm_in xd 1 40)))) (m1 := w) rfl ((cs_in (m := w) xd 1 40).deep (by decide)) ?_
        refine mz_goP 1 (c' := (if (sm_bI (sm_in xd 1 40)) = 0 then 29 else 35, [some (.ref 0), some (.int xa), some (.int xb), some (.int xc), some (.int xd), none, none, none, none, none], [], w)) rfl ?_
        refine mz_ifTP q3 ?_
        refine mz_goP 2 (c' := (31, [some (.ref 0), some (.int xa), some (.int xb), some (.int xc), some (.int xd), none, none, none, none, none], [.int 1, .ref 0], w)) rfl ?_
        refine mz_doP (R := mz_r109) (as := [.ref 0, .int 1]) (rest := []) (r1 := some (.int (-1000001))) (m1 := mz_up w 64 1 ((w 64 1) + 1)) rfl ⟨?_, rfl⟩ ?_
        · refine mz_go 3 (c' := (4, [some (.ref 0), some (.int 1)], [.int 6, .int 1, .int 1], w)) rfl ?_
          refine mz_do (R := mz_r121) (as := [.int 1, .int 1, .int 6]) (rest := []) (r1 := some (.int 1)) (m1 := w) rfl ⟨?_, rfl⟩ ?_
          · refine mz_go 8 (c' := (15, [some (.int 1), some (.int 1), some (.int 6)], [.int 1], w)) rfl ?_
            exact mz_ret rfl
          refine mz_go 12 (c' := (25, [some (.ref 0), some (.int 1)], [.int (-1000001)], mz_up w 64 1 ((w 64 1) + 1))) rfl ?_
          exact mz_ret rfl
        refine mz_retP (r := (some (.int ((-1000001))), mz_up w 64 1 ((w 64 1) + 1))) rfl ⟨(-1000001), rfl, ?_⟩
        refine mz_goP 2 (c' := (2, [some (.ref 65), some (.int xa), some (.int xb), some (.int xc), some (.int xd), none, none, none, none, none], [.int xb, .int xa], mz_up w 64 1 ((w 64 1) + 1))) rfl ?_
        refine mz_doP (R := mz_r131) (as := [.int xa, .int xb]) (rest := []) (r1 := some (.int 1)) (m1 := mz_up w 64 1 ((w 64 1) + 1)) rfl ⟨?_, rfl⟩ ?_
        · refine mz_go 3 (c' := (5, [some (.int xa), some (.int xb)], [.int 100, .int (-100), .int xa], mz_up w 64 1 ((w 64 1) + 1))) rfl ?_
          refine mz_do (R := mz_r128) (as := [.int xa, .int (-100), .int 100]) (rest := []) (r1 := some (.int 1)) (m1 := mz_up w 64 1 ((w 64 1) + 1)) rfl ⟨?_, rfl⟩ ?_
          · refine mz_go 3 (c' := (if xa < (-100) then 14 else 5, [some (.int xa), some (.int (-100)), some (.int 100)], [], mz_up w 64 1 ((w 64 1) + 1))) rfl ?_
            refine mz_ifF (show ¬ (xa < (-100)) from (sm_plc_of q1).1.1) ?_
            refine mz_go 3 (c' := (if 100 < xa then 14 else 10, [some (.int xa), some (.int (-100)), some (.int 100)], [], mz_up w 64 1 ((w 64 1) + 1))) rfl ?_
            refine mz_ifF (show ¬ (100 < xa) from (sm_plc_of q1).1.2) ?_
            refine mz_go 2 (c' := (15, [some (.int xa), some (.int (-100)), some (.int 100)], [.int 1], mz_up w 64 1 ((w 64 1) + 1))) rfl ?_
            exact mz_ret rfl
          refine mz_go 4 (c' := (16, [some (.int xa), some (.int xb)], [.int 100, .int (-100), .int xb], mz_up w 64 1 ((w 64 1) + 1))) rfl ?_
          refine mz_do (R := mz_r128) (as := [.int xb, .int (-100), .int 100]) (rest := []) (r1 := some (.int 1)) (m1 := mz_up w 64 1 ((w 64 1) + 1)) rfl ⟨?_, rfl⟩ ?_
          · refine mz_go 3 (c' := (if xb < (-100) then 14 else 5, [some (.int xb), some (.int (-100)), some (.int 100)], [], mz_up w 64 1 ((w 64 1) + 1))) rfl ?_
            refine mz_ifF (show ¬ (xb < (-100)) from (sm_plc_of q1).2.1) ?_
            refine mz_go 3 (c' := (if 100 < xb then 14 else 10, [some (.int xb), some (.int (-100)), some (.int 100)], [], mz_up w 64 1 ((w 64 1) + 1))) rfl ?_
            refine mz_ifF (show ¬ (100 < xb) from (sm_plc_of q1).2.2) ?_
            refine mz_go 2 (c' := (15, [some (.int xb), some (.int (-100)), some (.int 100)], [.int 1], mz_up w 64 1 ((w 64 1) + 1))) rfl ?_
            exact mz_ret rfl
          refine mz_go 3 (c' := (27, [some (.int xa), some (.int xb)], [.int 1], mz_up w 64 1 ((w 64 1) + 1))) rfl ?_
          exact mz_ret rfl
        refine mz_goP 4 (c' := (12, [some (.ref 65), some (.int xa), some (.int xb), some (.int xc), some (.int xd), none, none, none, none, none], [.int 50, .int 0, .int xc], mz_up w 64 1 ((w 64 1) + 1))) rfl ?_
        refine mz_doP (R := mz_r128) (as := [.int xc, .int 0, .int 50]) (rest := []) (r1 := some (.int 1)) (m1 := mz_up w 64 1 ((w 64 1) + 1)) rfl ⟨?_, rfl⟩ ?_
        · refine mz_go 3 (c' := (if xc < 0 then 14 else 5, [some (.int xc), some (.int 0), some (.int 50)], [], mz_up w 64 1 ((w 64 1) + 1))) rfl ?_
          refine mz_ifF (show ¬ (xc < 0) from (sm_in_lo q2)) ?_
          refine mz_go 3 (c' := (if 50 < xc then 14 else 10, [some (.int xc), some (.int 0), some (.int 50)], [], mz_up w 64 1 ((w 64 1) + 1))) rfl ?_
          refine mz_ifF (show ¬ (50 < xc) from (sm_in_hi q2)) ?_
          refine mz_go 2 (c' := (15, [some (.int xc), some (.int 0), some (.int 50)], [.int 1], mz_up w 64 1 ((w 64 1) + 1))) rfl ?_
          exact mz_ret rfl
        refine mz_goP 4 (c' := (23, [some (.ref 65), some (.int xa), some (.int xb), some (.int xc), some (.int xd), none, none, none, none, none], [.int 40, .int 1, .int xd], mz_up w 64 1 ((w 64 1) + 1))) rfl ?_
        refine mz_doP (R := mz_r128) (as := [.int xd, .int 1, .int 40]) (rest := []) (r1 := some (.int (sm_bI (sm_in xd 1 40)))) (m1 := mz_up w 64 1 ((w 64 1) + 1)) rfl ((ct_in (m := mz_up w 64 1 ((w 64 1) + 1)) xd 1 40).deep (by decide)) ?_
        refine mz_goP 1 (c' := (if (sm_bI (sm_in xd 1 40)) = 0 then 29 else 35, [some (.ref 65), some (.int xa), some (.int xb), some (.int xc), some (.int xd), none, none, none, none, none], [], mz_up w 64 1 ((w 64 1) + 1))) rfl ?_
        refine mz_ifTP q3 ?_
        refine mz_goP 2 (c' := (31, [some (.ref 65), some (.int xa), some (.int xb), some (.int xc), some (.int xd), none, none, none, none, none], [.int 1, .ref 65], mz_up w 64 1 ((w 64 1) + 1))) rfl ?_
        refine mz_doP (R := mz_r127) (as := [.ref 65, .int 1]) (rest := []) (r1 := some (.int (-1000001))) (m1 := mz_up (mz_up w 64 1 ((w 64 1) + 1)) 68 1 ((w 68 1) + 1)) rfl ⟨?_, rfl⟩ ?_
        · refine mz_go 11 (c' := (14, [some (.ref 65), some (.int 1)], [.int (-1000001)], mz_up (mz_up w 64 1 ((w 64 1) + 1)) 68 1 ((w 68 1) + 1))) rfl ?_
          exact mz_ret rfl
        refine mz_retP (r := (some (.int ((-1000001))), mz_up (mz_up w 64 1 ((w 64 1) + 1)) 68 1 ((w 68 1) + 1))) rfl ⟨(-1000001), rfl, ?_⟩
        show sm_I (n + 1) (mz_up (mz_up w 64 1 ((w 64 1) + 1)) 68 1 ((w 68 1) + 1))
        exact sm_I_scr hn hI2 (fun i hi => by
          have hne : ∀ r, sm_scr r = true → i ≠ r := fun r hr e => by
            rw [e, hr] at hi
            cases hi
          simp only [mz_up_ne (hne 64 rfl), mz_up_ne (hne 68 rfl)]) rfl rfl
      · obtain ⟨jxc, hjxc, rfl⟩ := nI_of (sm_in_lo q2)
        have zxc0 : ¬ 50 < jxc := fun z => (sm_in_hi q2) ((nI_ltI (by decide) hjxc).mpr z)
        obtain ⟨jxd, hjxd, rfl⟩ := nI_of (by have hl : (1 : Int) ≤ (xd).toInt := Int32.le_iff_toInt_le.mp (Int32.not_lt.mp (sm_in_lo q3)); have hu : (xd).toInt ≤ (40 : Int) := Int32.le_iff_toInt_le.mp (Int32.not_lt.mp (sm_in_hi q3)); exact Int32.not_lt.mpr (Int32.le_iff_toInt_le.mpr (show (0 : Int) ≤ (xd).toInt by omega)))
        have zxd0 : ¬ jxd < 1 := fun z => (sm_in_lo q3) ((nI_ltI hjxd (by decide)).mpr z)
        have zxd1 : ¬ 40 < jxd := fun z => (sm_in_hi q3) ((nI_ltI (by decide) hjxd).mpr z)
        refine mz_goP 2 (c' := (2, [some (.ref 0), some (.int xa), some (.int xb), some (.int (nI jxc)), some (.int (nI jxd)), none, none, none, none, none], [.int xb, .int xa], w)) rfl ?_
        refine mz_doP (R := mz_r116) (as := [.int xa, .int xb]) (rest := []) (r1 := some (.int 1)) (m1 := w) rfl ⟨?_, rfl⟩ ?_
        · refine mz_go 3 (c' := (5, [some (.int xa), some (.int xb)], [.int 100, .int (-100), .int xa], w)) rfl ?_
          refine mz_do (R := mz_r121) (as := [.int xa, .int (-100), .int 100]) (rest := []) (r1 := some (.int 1)) (m1 := w) rfl ⟨?_, rfl⟩ ?_
          · refine mz_go 3 (c' := (if xa < (-100) then 14 else 5, [some (.int xa), some (.int (-100)), some (.int 100)], [], w)) rfl ?_
            refine mz_ifF (show ¬ (xa < (-100)) from (sm_plc_of q1).1.1) ?_
            refine mz_go 3 (c' := (if 100 < xa then 14 else 10, [some (.int xa), some (.int (-100)), some (.int 100)], [], w)) rfl ?_
            refine mz_ifF (show ¬ (100 < xa) from (sm_plc_of q1).1.2) ?_
            refine mz_go 2 (c' := (15, [some (.int xa), some (.int (-100)), some (.int 100)], [.int 1], w)) rfl ?_
            exact mz_ret rfl
          refine mz_go 4 (c' := (16, [some (.int xa), some (.int xb)], [.int 100, .int (-100), .int xb], w)) rfl ?_
          refine mz_do (R := mz_r121) (as := [.int xb, .int (-100), .int 100]) (rest := []) (r1 := some (.int 1)) (m1 := w) rfl ⟨?_, rfl⟩ ?_
          · refine mz_go 3 (c' := (if xb < (-100) then 14 else 5, [some (.int xb), some (.int (-100)), some (.int 100)], [], w)) rfl ?_
            refine mz_ifF (show ¬ (xb < (-100)) from (sm_plc_of q1).2.1) ?_
            refine mz_go 3 (c' := (if 100 < xb then 14 else 10, [some (.int xb), some (.int (-100)), some (.int 100)], [], w)) rfl ?_
            refine mz_ifF (show ¬ (100 < xb) from (sm_plc_of q1).2.2) ?_
            refine mz_go 2 (c' := (15, [some (.int xb), some (.int (-100)), some (.int 100)], [.int 1], w)) rfl ?_
            exact mz_ret rfl
          refine mz_go 3 (c' := (27, [some (.int xa), some (.int xb)], [.int 1], w)) rfl ?_
          exact mz_ret rfl
        refine mz_goP 4 (c' := (12, [some (.ref 0), some (.int xa), some (.int xb), some (.int (nI jxc)), some (.int (nI jxd)), none, none, none, none, none], [.int 50, .int 0, .int (nI jxc)], w)) rfl ?_
        refine mz_doP (R := mz_r121) (as := [.int (nI jxc), .int 0, .int 50]) (rest := []) (r1 := some (.int 1)) (m1 := w) rfl ⟨?_, rfl⟩ ?_
        · refine mz_go 3 (c' := (if (nI jxc) < 0 then 14 else 5, [some (.int (nI jxc)), some (.int 0), some (.int 50)], [], w)) rfl ?_
          refine mz_ifF (show ¬ ((nI jxc) < 0) from (sm_in_lo q2)) ?_
          refine mz_go 3 (c' := (if 50 < (nI jxc) then 14 else 10, [some (.int (nI jxc)), some (.int 0), some (.int 50)], [], w)) rfl ?_
          refine mz_ifF (show ¬ (50 < (nI jxc)) from (sm_in_hi q2)) ?_
          refine mz_go 2 (c' := (15, [some (.int (nI jxc)), some (.int 0), some (.int 50)], [.int 1], w)) rfl ?_
          exact mz_ret rfl
        refine mz_goP 4 (c' := (23, [some (.ref 0), some (.int xa), some (.int xb), some (.int (nI jxc)), some (.int (nI jxd)), none, none, none, none, none], [.int 40, .int 1, .int (nI jxd)], w)) rfl ?_
        refine mz_doP (R := mz_r121) (as := [.int (nI jxd), .int 1, .int 40]) (rest := []) (r1 := some (.int 1)) (m1 := w) rfl ⟨?_, rfl⟩ ?_
        · refine mz_go 3 (c' := (if (nI jxd) < 1 then 14 else 5, [some (.int (nI jxd)), some (.int 1), some (.int 40)], [], w)) rfl ?_
          refine mz_ifF (show ¬ ((nI jxd) < 1) from (sm_in_lo q3)) ?_
          refine mz_go 3 (c' := (if 40 < (nI jxd) then 14 else 10, [some (.int (nI jxd)), some (.int 1), some (.int 40)], [], w)) rfl ?_
          refine mz_ifF (show ¬ (40 < (nI jxd)) from (sm_in_hi q3)) ?_
          refine mz_go 2 (c' := (15, [some (.int (nI jxd)), some (.int 1), some (.int 40)], [.int 1], w)) rfl ?_
          exact mz_ret rfl
        refine mz_goP 6 (c' := (46, [some (.ref 0), some (.int xa), some (.int xb), some (.int (nI jxc)), some (.int (nI jxd)), some (.ref 23), none, none, none, none], [.ref 23], w)) rfl ?_
        refine mz_doP (R := mz_r125) (as := [.ref 23]) (rest := []) (r1 := none) (m1 := mz_up (mz_up (mz_up (mz_up (mz_up (mz_up (mz_up (mz_up (mz_up (mz_up w 23 0 0) 23 1 0) 23 2 0) 23 3 0) 23 4 0) 23 5 0) 23 6 0) 23 7 0) 23 8 0) 23 9 0) rfl ⟨?_, rfl⟩ ?_
        · refine mz_go 24 (c' := (4, [some (.ref 23), some (.int 2)], [.ref 23, .int 2], mz_up (mz_up w 23 0 0) 23 1 0)) rfl ?_
          refine mz_go 24 (c' := (10, [some (.ref 23), some (.int 4)], [.int 4, .ref 23], mz_up (mz_up (mz_up (mz_up w 23 0 0) 23 1 0) 23 2 0) 23 3 0)) rfl ?_
          refine mz_go 24 (c' := (2, [some (.ref 23), some (.int 7)], [], mz_up (mz_up (mz_up (mz_up (mz_up (mz_up (mz_up w 23 0 0) 23 1 0) 23 2 0) 23 3 0) 23 4 0) 23 5 0) 23 6 0)) rfl ?_
          refine mz_go 24 (c' := (8, [some (.ref 23), some (.int 9)], [], mz_up (mz_up (mz_up (mz_up (mz_up (mz_up (mz_up (mz_up (mz_up w 23 0 0) 23 1 0) 23 2 0) 23 3 0) 23 4 0) 23 5 0) 23 6 0) 23 7 0) 23 8 0)) rfl ?_
          refine mz_go 10 (c' := (18, [some (.ref 23), some (.int 10)], [], mz_up (mz_up (mz_up (mz_up (mz_up (mz_up (mz_up (mz_up (mz_up (mz_up w 23 0 0) 23 1 0) 23 2 0) 23 3 0) 23 4 0) 23 5 0) 23 6 0) 23 7 0) 23 8 0) 23 9 0)) rfl ?_
          exact mz_ret rfl
        refine mz_goP 6 (c' := (60, [some (.ref 0), some (.int xa), some (.int xb), some (.int (nI jxc)), some (.int (nI jxd)), some (.ref 23), some (.int 0), none, none, none], [], mz_up (mz_up (mz_up (mz_up (mz_up (mz_up (mz_up (mz_up (mz_up (mz_up (mz_up w 23 0 0) 23 1 0) 23 2 0) 23 3 0) 23 4 0) 23 5 0) 23 6 0) 23 7 0) 23 8 0) 23 9 0) 1 9 1)) rfl ?_
        obtain ⟨tT, cT, rT, fT, gT, p7, p8, p9, hz1, hz2, hTt, ET⟩ := cs_thrl (m := mz_up (mz_up (mz_up (mz_up (mz_up (mz_up (mz_up (mz_up (mz_up (mz_up (mz_up w 23 0 0) 23 1 0) 23 2 0) 23 3 0) 23 4 0) 23 5 0) 23 6 0) 23 7 0) 23 8 0) 23 9 0) 1 9 1) (w := w) (fun i h1 h2 => by simp only [mz_up_ne (show i ≠ 1 by omega), mz_up_ne (show i ≠ 23 by omega)]) hw hr5 hr80 (n := jxd) (D := jxc) (by omega) (by omega) xa xb jxd 0 (by omega) ((mz_up (mz_up (mz_up (mz_up (mz_up (mz_up (mz_up (mz_up (mz_up (mz_up (mz_up w 23 0 0) 23 1 0) 23 2 0) 23 3 0) 23 4 0) 23 5 0) 23 6 0) 23 7 0) 23 8 0) 23 9 0) 1 9 1) 1) ((mz_up (mz_up (mz_up (mz_up (mz_up (mz_up (mz_up (mz_up (mz_up (mz_up (mz_up w 23 0 0) 23 1 0) 23 2 0) 23 3 0) 23 4 0) 23 5 0) 23 6 0) 23 7 0) 23 8 0) 23 9 0) 1 9 1) 23) (w 50) (w 51) (w 52) none none none
        rw [show mz_set (mz_set (mz_set (mz_set (mz_set (mz_up (mz_up (mz_up (mz_up (mz_up (mz_up (mz_up (mz_up (mz_up (mz_up (mz_up w 23 0 0) 23 1 0) 23 2 0) 23 3 0) 23 4 0) 23 5 0) 23 6 0) 23 7 0) 23 8 0) 23 9 0) 1 9 1) 1 ((mz_up (mz_up (mz_up (mz_up (mz_up (mz_up (mz_up (mz_up (mz_up (mz_up (mz_up w 23 0 0) 23 1 0) 23 2 0) 23 3 0) 23 4 0) 23 5 0) 23 6 0) 23 7 0) 23 8 0) 23 9 0) 1 9 1) 1)) 23 ((mz_up (mz_up (mz_up (mz_up (mz_up (mz_up (mz_up (mz_up (mz_up (mz_up (mz_up w 23 0 0) 23 1 0) 23 2 0) 23 3 0) 23 4 0) 23 5 0) 23 6 0) 23 7 0) 23 8 0) 23 9 0) 1 9 1) 23)) 50 (w 50)) 51 (w 51)) 52 (w 52) = mz_up (mz_up (mz_up (mz_up (mz_up (mz_up (mz_up (mz_up (mz_up (mz_up (mz_up w 23 0 0) 23 1 0) 23 2 0) 23 3 0) 23 4 0) 23 5 0) 23 6 0) 23 7 0) 23 8 0) 23 9 0) 1 9 1 from (sm_of5 (fun i _ _ _ _ _ => rfl)).symm] at ET
        refine mz_hkP ET ?_
        refine mz_goP 5 (c' := (157, [some (.ref 0), some (.int xa), some (.int xb), some (.int (nI jxc)), some (.int (nI jxd)), some (.ref 23), some (.int (nI jxd)), p7, p8, p9], [.int ((nI jxd) - (cT 9))], mz_set (mz_set (mz_set (mz_set (mz_set (mz_up (mz_up (mz_up (mz_up (mz_up (mz_up (mz_up (mz_up (mz_up (mz_up (mz_up w 23 0 0) 23 1 0) 23 2 0) 23 3 0) 23 4 0) 23 5 0) 23 6 0) 23 7 0) 23 8 0) 23 9 0) 1 9 1) 1 tT) 23 cT) 50 rT) 51 fT) 52 gT)) rfl ?_
        refine mz_retP (r := (some (.int ((nI jxd) - (cT 9))), mz_set (mz_set (mz_set (mz_set (mz_set (mz_up (mz_up (mz_up (mz_up (mz_up (mz_up (mz_up (mz_up (mz_up (mz_up (mz_up w 23 0 0) 23 1 0) 23 2 0) 23 3 0) 23 4 0) 23 5 0) 23 6 0) 23 7 0) 23 8 0) 23 9 0) 1 9 1) 1 tT) 23 cT) 50 rT) 51 fT) 52 gT)) rfl ⟨(nI jxd) - (cT 9), rfl, ?_⟩
        refine mz_goP 2 (c' := (2, [some (.ref 65), some (.int xa), some (.int xb), some (.int (nI jxc)), some (.int (nI jxd)), none, none, none, none, none], [.int xb, .int xa], mz_set (mz_set (mz_set (mz_set (mz_set (mz_up (mz_up (mz_up (mz_up (mz_up (mz_up (mz_up (mz_up (mz_up (mz_up (mz_up w 23 0 0) 23 1 0) 23 2 0) 23 3 0) 23 4 0) 23 5 0) 23 6 0) 23 7 0) 23 8 0) 23 9 0) 1 9 1) 1 tT) 23 cT) 50 rT) 51 fT) 52 gT)) rfl ?_
        refine mz_doP (R := mz_r131) (as := [.int xa, .int xb]) (rest := []) (r1 := some (.int 1)) (m1 := mz_set (mz_set (mz_set (mz_set (mz_set (mz_up (mz_up (mz_up (mz_up (mz_up (mz_up (mz_up (mz_up (mz_up (mz_up (mz_up w 23 0 0) 23 1 0) 23 2 0) 23 3 0) 23 4 0) 23 5 0) 23 6 0) 23 7 0) 23 8 0) 23 9 0) 1 9 1) 1 tT) 23 cT) 50 rT) 51 fT) 52 gT) rfl ⟨?_, rfl⟩ ?_
        · refine mz_go 3 (c' := (5, [some (.int xa), some (.int xb)], [.int 100, .int (-100), .int xa], mz_set (mz_set (mz_set (mz_set (mz_set (mz_up (mz_up (mz_up (mz_up (mz_up (mz_up (mz_up (mz_up (mz_up (mz_up (mz_up w 23 0 0) 23 1 0) 23 2 0) 23 3 0) 23 4 0) 23 5 0) 23 6 0) 23 7 0) 23 8 0) 23 9 0) 1 9 1) 1 tT) 23 cT) 50 rT) 51 fT) 52 gT)) rfl ?_
          refine mz_do (R := mz_r128) (as := [.int xa, .int (-100), .int 100]) (rest := []) (r1 := some (.int 1)) (m1 := mz_set (mz_set (mz_set (mz_set (mz_set (mz_up (mz_up (mz_up (mz_up (mz_up (mz_up (mz_up (mz_up (mz_up (mz_up (mz_up w 23 0 0) 23 1 0) 23 2 0) 23 3 0) 23 4 0) 23 5 0) 23 6 0) 23 7 0) 23 8 0) 23 9 0) 1 9 1) 1 tT) 23 cT) 50 rT) 51 fT) 52 gT) rfl ⟨?_, rfl⟩ ?_
          · refine mz_go 3 (c' := (if xa < (-100) then 14 else 5, [some (.int xa), some (.int (-100)), some (.int 100)], [], mz_set (mz_set (mz_set (mz_set (mz_set (mz_up (mz_up (mz_up (mz_up (mz_up (mz_up (mz_up (mz_up (mz_up (mz_up (mz_up w 23 0 0) 23 1 0) 23 2 0) 23 3 0) 23 4 0) 23 5 0) 23 6 0) 23 7 0) 23 8 0) 23 9 0) 1 9 1) 1 tT) 23 cT) 50 rT) 51 fT) 52 gT)) rfl ?_
            refine mz_ifF (show ¬ (xa < (-100)) from (sm_plc_of q1).1.1) ?_
            refine mz_go 3 (c' := (if 100 < xa then 14 else 10, [some (.int xa), some (.int (-100)), some (.int 100)], [], mz_set (mz_set (mz_set (mz_set (mz_set (mz_up (mz_up (mz_up (mz_up (mz_up (mz_up (mz_up (mz_up (mz_up (mz_up (mz_up w 23 0 0) 23 1 0) 23 2 0) 23 3 0) 23 4 0) 23 5 0) 23 6 0) 23 7 0) 23 8 0) 23 9 0) 1 9 1) 1 tT) 23 cT) 50 rT) 51 fT) 52 gT)) rfl ?_
            refine mz_ifF (show ¬ (100 < xa) from (sm_plc_of q1).1.2) ?_
            refine mz_go 2 (c' := (15, [some (.int xa), some (.int (-100)), some (.int 100)], [.int 1], mz_set (mz_set (mz_set (mz_set (mz_set (mz_up (mz_up (mz_up (mz_up (mz_up (mz_up (mz_up (mz_up (mz_up (mz_up (mz_up w 23 0 0) 23 1 0) 23 2 0) 23 3 0) 23 4 0) 23 5 0) 23 6 0) 23 7 0) 23 8 0) 23 9 0) 1 9 1) 1 tT) 23 cT) 50 rT) 51 fT) 52 gT)) rfl ?_
            exact mz_ret rfl
          refine mz_go 4 (c' := (16, [some (.int xa), some (.int xb)], [.int 100, .int (-100), .int xb], mz_set (mz_set (mz_set (mz_set (mz_set (mz_up (mz_up (mz_up (mz_up (mz_up (mz_up (mz_up (mz_up (mz_up (mz_up (mz_up w 23 0 0) 23 1 0) 23 2 0) 23 3 0) 23 4 0) 23 5 0) 23 6 0) 23 7 0) 23 8 0) 23 9 0) 1 9 1) 1 tT) 23 cT) 50 rT) 51 fT) 52 gT)) rfl ?_
          refine mz_do (R := mz_r128) (as := [.int xb, .int (-100), .int 100]) (rest := []) (r1 := some (.int 1)) (m1 := mz_set (mz_set (mz_set (mz_set (mz_set (mz_up (mz_up (mz_up (mz_up (mz_up (mz_up (mz_up (mz_up (mz_up (mz_up (mz_up w 23 0 0) 23 1 0) 23 2 0) 23 3 0) 23 4 0) 23 5 0) 23 6 0) 23 7 0) 23 8 0) 23 9 0) 1 9 1) 1 tT) 23 cT) 50 rT) 51 fT) 52 gT) rfl ⟨?_, rfl⟩ ?_
          · refine mz_go 3 (c' := (if xb < (-100) then 14 else 5, [some (.int xb), some (.int (-100)), some (.int 100)], [], mz_set (mz_set (mz_set (mz_set (mz_set (mz_up (mz_up (mz_up (mz_up (mz_up (mz_up (mz_up (mz_up (mz_up (mz_up (mz_up w 23 0 0) 23 1 0) 23 2 0) 23 3 0) 23 4 0) 23 5 0) 23 6 0) 23 7 0) 23 8 0) 23 9 0) 1 9 1) 1 tT) 23 cT) 50 rT) 51 fT) 52 gT)) rfl ?_
            refine mz_ifF (show ¬ (xb < (-100)) from (sm_plc_of q1).2.1) ?_
            refine mz_go 3 (c' := (if 100 < xb then 14 else 10, [some (.int xb), some (.int (-100)), some (.int 100)], [], mz_set (mz_set (mz_set (mz_set (mz_set (mz_up (mz_up (mz_up (mz_up (mz_up (mz_up (mz_up (mz_up (mz_up (mz_up (mz_up w 23 0 0) 23 1 0) 23 2 0) 23 3 0) 23 4 0) 23 5 0) 23 6 0) 23 7 0) 23 8 0) 23 9 0) 1 9 1) 1 tT) 23 cT) 50 rT) 51 fT) 52 gT)) rfl ?_
            refine mz_ifF (show ¬ (100 < xb) from (sm_plc_of q1).2.2) ?_
            refine mz_go 2 (c' := (15, [some (.int xb), some (.int (-100)), some (.int 100)], [.int 1], mz_set (mz_set (mz_set (mz_set (mz_set (mz_up (mz_up (mz_up (mz_up (mz_up (mz_up (mz_up (mz_up (mz_up (mz_up (mz_up w 23 0 0) 23 1 0) 23 2 0) 23 3 0) 23 4 0) 23 5 0) 23 6 0) 23 7 0) 23 8 0) 23 9 0) 1 9 1) 1 tT) 23 cT) 50 rT) 51 fT) 52 gT)) rfl ?_
            exact mz_ret rfl
          refine mz_go 3 (c' := (27, [some (.int xa), some (.int xb)], [.int 1], mz_set (mz_set (mz_set (mz_set (mz_set (mz_up (mz_up (mz_up (mz_up (mz_up (mz_up (mz_up (mz_up (mz_up (mz_up (mz_up w 23 0 0) 23 1 0) 23 2 0) 23 3 0) 23 4 0) 23 5 0) 23 6 0) 23 7 0) 23 8 0) 23 9 0) 1 9 1) 1 tT) 23 cT) 50 rT) 51 fT) 52 gT)) rfl ?_
          exact mz_ret rfl
        refine mz_goP 4 (c' := (12, [some (.ref 65), some (.int xa), some (.int xb), some (.int (nI jxc)), some (.int (nI jxd)), none, none, none, none, none], [.int 50, .int 0, .int (nI jxc)], mz_set (mz_set (mz_set (mz_set (mz_set (mz_up (mz_up (mz_up (mz_up (mz_up (mz_up (mz_up (mz_up (mz_up (mz_up (mz_up w 23 0 0) 23 1 0) 23 2 0) 23 3 0) 23 4 0) 23 5 0) 23 6 0) 23 7 0) 23 8 0) 23 9 0) 1 9 1) 1 tT) 23 cT) 50 rT) 51 fT) 52 gT)) rfl ?_
        refine mz_doP (R := mz_r128) (as := [.int (nI jxc), .int 0, .int 50]) (rest := []) (r1 := some (.int 1)) (m1 := mz_set (mz_set (mz_set (mz_set (mz_set (mz_up (mz_up (mz_up (mz_up (mz_up (mz_up (mz_up (mz_up (mz_up (mz_up (mz_up w 23 0 0) 23 1 0) 23 2 0) 23 3 0) 23 4 0) 23 5 0) 23 6 0) 23 7 0) 23 8 0) 23 9 0) 1 9 1) 1 tT) 23 cT) 50 rT) 51 fT) 52 gT) rfl ⟨?_, rfl⟩ ?_
        · refine mz_go 3 (c' := (if (nI jxc) < 0 then 14 else 5, [some (.int (nI jxc)), some (.int 0), some (.int 50)], [], mz_set (mz_set (mz_set (mz_set (mz_set (mz_up (mz_up (mz_up (mz_up (mz_up (mz_up (mz_up (mz_up (mz_up (mz_up (mz_up w 23 0 0) 23 1 0) 23 2 0) 23 3 0) 23 4 0) 23 5 0) 23 6 0) 23 7 0) 23 8 0) 23 9 0) 1 9 1) 1 tT) 23 cT) 50 rT) 51 fT) 52 gT)) rfl ?_
          refine mz_ifF (show ¬ ((nI jxc) < 0) from (sm_in_lo q2)) ?_
          refine mz_go 3 (c' := (if 50 < (nI jxc) then 14 else 10, [some (.int (nI jxc)), some (.int 0), some (.int 50)], [], mz_set (mz_set (mz_set (mz_set (mz_set (mz_up (mz_up (mz_up (mz_up (mz_up (mz_up (mz_up (mz_up (mz_up (mz_up (mz_up w 23 0 0) 23 1 0) 23 2 0) 23 3 0) 23 4 0) 23 5 0) 23 6 0) 23 7 0) 23 8 0) 23 9 0) 1 9 1) 1 tT) 23 cT) 50 rT) 51 fT) 52 gT)) rfl ?_
          refine mz_ifF (show ¬ (50 < (nI jxc)) from (sm_in_hi q2)) ?_
          refine mz_go 2 (c' := (15, [some (.int (nI jxc)), some (.int 0), some (.int 50)], [.int 1], mz_set (mz_set (mz_set (mz_set (mz_set (mz_up (mz_up (mz_up (mz_up (mz_up (mz_up (mz_up (mz_up (mz_up (mz_up (mz_up w 23 0 0) 23 1 0) 23 2 0) 23 3 0) 23 4 0) 23 5 0) 23 6 0) 23 7 0) 23 8 0) 23 9 0) 1 9 1) 1 tT) 23 cT) 50 rT) 51 fT) 52 gT)) rfl ?_
          exact mz_ret rfl
        refine mz_goP 4 (c' := (23, [some (.ref 65), some (.int xa), some (.int xb), some (.int (nI jxc)), some (.int (nI jxd)), none, none, none, none, none], [.int 40, .int 1, .int (nI jxd)], mz_set (mz_set (mz_set (mz_set (mz_set (mz_up (mz_up (mz_up (mz_up (mz_up (mz_up (mz_up (mz_up (mz_up (mz_up (mz_up w 23 0 0) 23 1 0) 23 2 0) 23 3 0) 23 4 0) 23 5 0) 23 6 0) 23 7 0) 23 8 0) 23 9 0) 1 9 1) 1 tT) 23 cT) 50 rT) 51 fT) 52 gT)) rfl ?_
        refine mz_doP (R := mz_r128) (as := [.int (nI jxd), .int 1, .int 40]) (rest := []) (r1 := some (.int 1)) (m1 := mz_set (mz_set (mz_set (mz_set (mz_set (mz_up (mz_up (mz_up (mz_up (mz_up (mz_up (mz_up (mz_up (mz_up (mz_up (mz_up w 23 0 0) 23 1 0) 23 2 0) 23 3 0) 23 4 0) 23 5 0) 23 6 0) 23 7 0) 23 8 0) 23 9 0) 1 9 1) 1 tT) 23 cT) 50 rT) 51 fT) 52 gT) rfl ⟨?_, rfl⟩ ?_
        · refine mz_go 3 (c' := (if (nI jxd) < 1 then 14 else 5, [some (.int (nI jxd)), some (.int 1), some (.int 40)], [], mz_set (mz_set (mz_set (mz_set (mz_set (mz_up (mz_up (mz_up (mz_up (mz_up (mz_up (mz_up (mz_up (mz_up (mz_up (mz_up w 23 0 0) 23 1 0) 23 2 0) 23 3 0) 23 4 0) 23 5 0) 23 6 0) 23 7 0) 23 8 0) 23 9 0) 1 9 1) 1 tT) 23 cT) 50 rT) 51 fT) 52 gT)) rfl ?_
          refine mz_ifF (show ¬ ((nI jxd) < 1) from (sm_in_lo q3)) ?_
          refine mz_go 3 (c' := (if 40 < (nI jxd) then 14 else 10, [some (.int (nI jxd)), some (.int 1), some (.int 40)], [], mz_set (mz_set (mz_set (mz_set (mz_set (mz_up (mz_up (mz_up (mz_up (mz_up (mz_up (mz_up (mz_up (mz_up (mz_up (mz_up w 23 0 0) 23 1 0) 23 2 0) 23 3 0) 23 4 0) 23 5 0) 23 6 0) 23 7 0) 23 8 0) 23 9 0) 1 9 1) 1 tT) 23 cT) 50 rT) 51 fT) 52 gT)) rfl ?_
          refine mz_ifF (show ¬ (40 < (nI jxd)) from (sm_in_hi q3)) ?_
          refine mz_go 2 (c' := (15, [some (.int (nI jxd)), some (.int 1), some (.int 40)], [.int 1], mz_set (mz_set (mz_set (mz_set (mz_set (mz_up (mz_up (mz_up (mz_up (mz_up (mz_up (mz_up (mz_up (mz_up (mz_up (mz_up w 23 0 0) 23 1 0) 23 2 0) 23 3 0) 23 4 0) 23 5 0) 23 6 0) 23 7 0) 23 8 0) 23 9 0) 1 9 1) 1 tT) 23 cT) 50 rT) 51 fT) 52 gT)) rfl ?_
          exact mz_ret rfl
        refine mz_goP 24 (c' := (56, [some (.ref 65), some (.int xa), some (.int xb), some (.int (nI jxc)), some (.int (nI jxd)), some (.int 1), none, none, none, none], [.int 0, .int 151, .ref 66], mz_up (mz_set (mz_set (mz_set (mz_set (mz_set (mz_up (mz_up (mz_up (mz_up (mz_up (mz_up (mz_up (mz_up (mz_up (mz_up (mz_up w 23 0 0) 23 1 0) 23 2 0) 23 3 0) 23 4 0) 23 5 0) 23 6 0) 23 7 0) 23 8 0) 23 9 0) 1 9 1) 1 tT) 23 cT) 50 rT) 51 fT) 52 gT) 66 150 0)) rfl ?_
        refine mz_goP 24 (c' := (56, [some (.ref 65), some (.int xa), some (.int xb), some (.int (nI jxc)), some (.int (nI jxd)), some (.int 3), none, none, none, none], [.int 0, .int 153, .ref 66], mz_up (mz_up (mz_up (mz_set (mz_set (mz_set (mz_set (mz_set (mz_up (mz_up (mz_up (mz_up (mz_up (mz_up (mz_up (mz_up (mz_up (mz_up (mz_up w 23 0 0) 23 1 0) 23 2 0) 23 3 0) 23 4 0) 23 5 0) 23 6 0) 23 7 0) 23 8 0) 23 9 0) 1 9 1) 1 tT) 23 cT) 50 rT) 51 fT) 52 gT) 66 150 0) 66 151 0) 66 152 0)) rfl ?_
        refine mz_goP 24 (c' := (56, [some (.ref 65), some (.int xa), some (.int xb), some (.int (nI jxc)), some (.int (nI jxd)), some (.int 5), none, none, none, none], [.int 0, .int 155, .ref 66], mz_up (mz_up (mz_up (mz_up (mz_up (mz_set (mz_set (mz_set (mz_set (mz_set (mz_up (mz_up (mz_up (mz_up (mz_up (mz_up (mz_up (mz_up (mz_up (mz_up (mz_up w 23 0 0) 23 1 0) 23 2 0) 23 3 0) 23 4 0) 23 5 0) 23 6 0) 23 7 0) 23 8 0) 23 9 0) 1 9 1) 1 tT) 23 cT) 50 rT) 51 fT) 52 gT) 66 150 0) 66 151 0) 66 152 0) 66 153 0) 66 154 0)) rfl ?_
        refine mz_goP 24 (c' := (56, [some (.ref 65), some (.int xa), some (.int xb), some (.int (nI jxc)), some (.int (nI jxd)), some (.int 7), none, none, none, none], [.int 0, .int 157, .ref 66], mz_up (mz_up (mz_up (mz_up (mz_up (mz_up (mz_up (mz_set (mz_set (mz_set (mz_set (mz_set (mz_up (mz_up (mz_up (mz_up (mz_up (mz_up (mz_up (mz_up (mz_up (mz_up (mz_up w 23 0 0) 23 1 0) 23 2 0) 23 3 0) 23 4 0) 23 5 0) 23 6 0) 23 7 0) 23 8 0) 23 9 0) 1 9 1) 1 tT) 23 cT) 50 rT) 51 fT) 52 gT) 66 150 0) 66 151 0) 66 152 0) 66 153 0) 66 154 0) 66 155 0) 66 156 0)) rfl ?_
        refine mz_goP 24 (c' := (56, [some (.ref 65), some (.int xa), some (.int xb), some (.int (nI jxc)), some (.int (nI jxd)), some (.int 9), none, none, none, none], [.int 0, .int 159, .ref 66], mz_up (mz_up (mz_up (mz_up (mz_up (mz_up (mz_up (mz_up (mz_up (mz_set (mz_set (mz_set (mz_set (mz_set (mz_up (mz_up (mz_up (mz_up (mz_up (mz_up (mz_up (mz_up (mz_up (mz_up (mz_up w 23 0 0) 23 1 0) 23 2 0) 23 3 0) 23 4 0) 23 5 0) 23 6 0) 23 7 0) 23 8 0) 23 9 0) 1 9 1) 1 tT) 23 cT) 50 rT) 51 fT) 52 gT) 66 150 0) 66 151 0) 66 152 0) 66 153 0) 66 154 0) 66 155 0) 66 156 0) 66 157 0) 66 158 0)) rfl ?_
        refine mz_goP 15 (c' := (78, [some (.ref 65), some (.int xa), some (.int xb), some (.int (nI jxc)), some (.int (nI jxd)), some (.int 0), some (.int 0), none, none, none], [], mz_up (mz_up (mz_up (mz_up (mz_up (mz_up (mz_up (mz_up (mz_up (mz_up (mz_up (mz_set (mz_set (mz_set (mz_set (mz_set (mz_up (mz_up (mz_up (mz_up (mz_up (mz_up (mz_up (mz_up (mz_up (mz_up (mz_up w 23 0 0) 23 1 0) 23 2 0) 23 3 0) 23 4 0) 23 5 0) 23 6 0) 23 7 0) 23 8 0) 23 9 0) 1 9 1) 1 tT) 23 cT) 50 rT) 51 fT) 52 gT) 66 150 0) 66 151 0) 66 152 0) 66 153 0) 66 154 0) 66 155 0) 66 156 0) 66 157 0) 66 158 0) 66 159 0) 66 160 1)) rfl ?_
        have hT2r : ∀ i, (i < 150 ∨ 161 ≤ i) → (mz_up (mz_up (mz_up (mz_up (mz_up (mz_up (mz_up (mz_up (mz_up (mz_up (mz_up (mz_set (mz_set (mz_set (mz_set (mz_set (mz_up (mz_up (mz_up (mz_up (mz_up (mz_up (mz_up (mz_up (mz_up (mz_up (mz_up w 23 0 0) 23 1 0) 23 2 0) 23 3 0) 23 4 0) 23 5 0) 23 6 0) 23 7 0) 23 8 0) 23 9 0) 1 9 1) 1 tT) 23 cT) 50 rT) 51 fT) 52 gT) 66 150 0) 66 151 0) 66 152 0) 66 153 0) 66 154 0) 66 155 0) 66 156 0) 66 157 0) 66 158 0) 66 159 0) 66 160 1) 66 i = w 66 i := fun i hi => by rw [mz_up_eq, if_neg (by omega), mz_up_eq, if_neg (by omega), mz_up_eq, if_neg (by omega), mz_up_eq, if_neg (by omega), mz_up_eq, if_neg (by omega), mz_up_eq, if_neg (by omega), mz_up_eq, if_neg (by omega), mz_up_eq, if_neg (by omega), mz_up_eq, if_neg (by omega), mz_up_eq, if_neg (by omega), mz_up_eq, if_neg (by omega), mz_set_ne (show (66 : Nat) ≠ 52 by decide), mz_set_ne (show (66 : Nat) ≠ 51 by decide), mz_set_ne (show (66 : Nat) ≠ 50 by decide), mz_set_ne (show (66 : Nat) ≠ 23 by decide), mz_set_ne (show (66 : Nat) ≠ 1 by decide), mz_up_ne (show (66 : Nat) ≠ 1 by decide), mz_up_ne (show (66 : Nat) ≠ 23 by decide), mz_up_ne (show (66 : Nat) ≠ 23 by decide), mz_up_ne (show (66 : Nat) ≠ 23 by decide), mz_up_ne (show (66 : Nat) ≠ 23 by decide), mz_up_ne (show (66 : Nat) ≠ 23 by decide), mz_up_ne (show (66 : Nat) ≠ 23 by decide), mz_up_ne (show (66 : Nat) ≠ 23 by decide), mz_up_ne (show (66 : Nat) ≠ 23 by decide), mz_up_ne (show (66 : Nat) ≠ 23 by decide), mz_up_ne (show (66 : Nat) ≠ 23 by decide)]
        have hT2c : ∀ i, i < 10 → (mz_up (mz_up (mz_up (mz_up (mz_up (mz_up (mz_up (mz_up (mz_up (mz_up (mz_up (mz_set (mz_set (mz_set (mz_set (mz_set (mz_up (mz_up (mz_up (mz_up (mz_up (mz_up (mz_up (mz_up (mz_up (mz_up (mz_up w 23 0 0) 23 1 0) 23 2 0) 23 3 0) 23 4 0) 23 5 0) 23 6 0) 23 7 0) 23 8 0) 23 9 0) 1 9 1) 1 tT) 23 cT) 50 rT) 51 fT) 52 gT) 66 150 0) 66 151 0) 66 152 0) 66 153 0) 66 154 0) 66 155 0) 66 156 0) 66 157 0) 66 158 0) 66 159 0) 66 160 1) 66 (150 + i) = (mz_up (mz_up (mz_up (mz_up (mz_up (mz_up (mz_up (mz_up (mz_up (mz_up (mz_up w 23 0 0) 23 1 0) 23 2 0) 23 3 0) 23 4 0) 23 5 0) 23 6 0) 23 7 0) 23 8 0) 23 9 0) 1 9 1) 23 i := fun i hi => by
          rcases (show i = 0 ∨ i = 1 ∨ i = 2 ∨ i = 3 ∨ i = 4 ∨ i = 5 ∨ i = 6 ∨ i = 7 ∨ i = 8 ∨ i = 9 by omega) with rfl | rfl | rfl | rfl | rfl | rfl | rfl | rfl | rfl | rfl <;> rfl
        obtain ⟨sU, rU, aU, bU, uU, p7', p8', p9', hU1, hU2, hU3, hKU, EU⟩ := ct_thrl (m := mz_up (mz_up (mz_up (mz_up (mz_up (mz_up (mz_up (mz_up (mz_up (mz_up (mz_up (mz_set (mz_set (mz_set (mz_set (mz_set (mz_up (mz_up (mz_up (mz_up (mz_up (mz_up (mz_up (mz_up (mz_up (mz_up (mz_up w 23 0 0) 23 1 0) 23 2 0) 23 3 0) 23 4 0) 23 5 0) 23 6 0) 23 7 0) 23 8 0) 23 9 0) 1 9 1) 1 tT) 23 cT) 50 rT) 51 fT) 52 gT) 66 150 0) 66 151 0) 66 152 0) 66 153 0) 66 154 0) 66 155 0) 66 156 0) 66 157 0) 66 158 0) 66 159 0) 66 160 1) (w := w) hw (sm_HR_s (fun i hi => hT2r i (by omega)) hr2) h6615 hr5 hr80 (n := jxd) (D := jxc) (by omega) (by omega) xa xb jxd 0 (by omega) ((mz_up (mz_up (mz_up (mz_up (mz_up (mz_up (mz_up (mz_up (mz_up (mz_up (mz_up (mz_set (mz_set (mz_set (mz_set (mz_set (mz_up (mz_up (mz_up (mz_up (mz_up (mz_up (mz_up (mz_up (mz_up (mz_up (mz_up w 23 0 0) 23 1 0) 23 2 0) 23 3 0) 23 4 0) 23 5 0) 23 6 0) 23 7 0) 23 8 0) 23 9 0) 1 9 1) 1 tT) 23 cT) 50 rT) 51 fT) 52 gT) 66 150 0) 66 151 0) 66 152 0) 66 153 0) 66 154 0) 66 155 0) 66 156 0) 66 157 0) 66 158 0) 66 159 0) 66 160 1) 66) ((mz_up (mz_up (mz_up (mz_up (mz_up (mz_up (mz_up (mz_up (mz_up (mz_up (mz_up w 23 0 0) 23 1 0) 23 2 0) 23 3 0) 23 4 0) 23 5 0) 23 6 0) 23 7 0) 23 8 0) 23 9 0) 1 9 1) 23) (w 65) (w 70) (w 71) 0 none none none hT2c (fun i _ _ => rfl) (fun _ _ => rfl)
        rw [show mz_set (mz_set (mz_set (mz_set (mz_up (mz_up (mz_up (mz_up (mz_up (mz_up (mz_up (mz_up (mz_up (mz_up (mz_up (mz_set (mz_set (mz_set (mz_set (mz_set (mz_up (mz_up (mz_up (mz_up (mz_up (mz_up (mz_up (mz_up (mz_up (mz_up (mz_up w 23 0 0) 23 1 0) 23 2 0) 23 3 0) 23 4 0) 23 5 0) 23 6 0) 23 7 0) 23 8 0) 23 9 0) 1 9 1) 1 tT) 23 cT) 50 rT) 51 fT) 52 gT) 66 150 0) 66 151 0) 66 152 0) 66 153 0) 66 154 0) 66 155 0) 66 156 0) 66 157 0) 66 158 0) 66 159 0) 66 160 1) 66 ((mz_up (mz_up (mz_up (mz_up (mz_up (mz_up (mz_up (mz_up (mz_up (mz_up (mz_up (mz_set (mz_set (mz_set (mz_set (mz_set (mz_up (mz_up (mz_up (mz_up (mz_up (mz_up (mz_up (mz_up (mz_up (mz_up (mz_up w 23 0 0) 23 1 0) 23 2 0) 23 3 0) 23 4 0) 23 5 0) 23 6 0) 23 7 0) 23 8 0) 23 9 0) 1 9 1) 1 tT) 23 cT) 50 rT) 51 fT) 52 gT) 66 150 0) 66 151 0) 66 152 0) 66 153 0) 66 154 0) 66 155 0) 66 156 0) 66 157 0) 66 158 0) 66 159 0) 66 160 1) 66)) 65 (w 65)) 70 (w 70)) 71 (w 71) = mz_up (mz_up (mz_up (mz_up (mz_up (mz_up (mz_up (mz_up (mz_up (mz_up (mz_up (mz_set (mz_set (mz_set (mz_set (mz_set (mz_up (mz_up (mz_up (mz_up (mz_up (mz_up (mz_up (mz_up (mz_up (mz_up (mz_up w 23 0 0) 23 1 0) 23 2 0) 23 3 0) 23 4 0) 23 5 0) 23 6 0) 23 7 0) 23 8 0) 23 9 0) 1 9 1) 1 tT) 23 cT) 50 rT) 51 fT) 52 gT) 66 150 0) 66 151 0) 66 152 0) 66 153 0) 66 154 0) 66 155 0) 66 156 0) 66 157 0) 66 158 0) 66 159 0) 66 160 1 from (sm_of4 (fun i _ _ _ _ => rfl)).symm] at EU
        refine mz_hkP EU ?_
        refine mz_goP 1 (c' := (185, [some (.ref 65), some (.int xa), some (.int xb), some (.int (nI jxc)), some (.int (nI jxd)), some (.int uU), some (.int (nI jxd)), p7', p8', p9'], [.int uU], mz_set (mz_set (mz_set (mz_set (mz_up (mz_up (mz_up (mz_up (mz_up (mz_up (mz_up (mz_up (mz_up (mz_up (mz_up (mz_set (mz_set (mz_set (mz_set (mz_set (mz_up (mz_up (mz_up (mz_up (mz_up (mz_up (mz_up (mz_up (mz_up (mz_up (mz_up w 23 0 0) 23 1 0) 23 2 0) 23 3 0) 23 4 0) 23 5 0) 23 6 0) 23 7 0) 23 8 0) 23 9 0) 1 9 1) 1 tT) 23 cT) 50 rT) 51 fT) 52 gT) 66 150 0) 66 151 0) 66 152 0) 66 153 0) 66 154 0) 66 155 0) 66 156 0) 66 157 0) 66 158 0) 66 159 0) 66 160 1) 66 sU) 65 rU) 70 aU) 71 bU)) rfl ?_
        refine mz_retP (r := (some (.int (uU)), mz_set (mz_set (mz_set (mz_set (mz_up (mz_up (mz_up (mz_up (mz_up (mz_up (mz_up (mz_up (mz_up (mz_up (mz_up (mz_set (mz_set (mz_set (mz_set (mz_set (mz_up (mz_up (mz_up (mz_up (mz_up (mz_up (mz_up (mz_up (mz_up (mz_up (mz_up w 23 0 0) 23 1 0) 23 2 0) 23 3 0) 23 4 0) 23 5 0) 23 6 0) 23 7 0) 23 8 0) 23 9 0) 1 9 1) 1 tT) 23 cT) 50 rT) 51 fT) 52 gT) 66 150 0) 66 151 0) 66 152 0) 66 153 0) 66 154 0) 66 155 0) 66 156 0) 66 157 0) 66 158 0) 66 159 0) 66 160 1) 66 sU) 65 rU) 70 aU) 71 bU)) rfl ⟨uU, rfl, ?_⟩
        show sm_I (n + 1) (mz_set (mz_set (mz_set (mz_set (mz_up (mz_up (mz_up (mz_up (mz_up (mz_up (mz_up (mz_up (mz_up (mz_up (mz_up (mz_set (mz_set (mz_set (mz_set (mz_set (mz_up (mz_up (mz_up (mz_up (mz_up (mz_up (mz_up (mz_up (mz_up (mz_up (mz_up w 23 0 0) 23 1 0) 23 2 0) 23 3 0) 23 4 0) 23 5 0) 23 6 0) 23 7 0) 23 8 0) 23 9 0) 1 9 1) 1 tT) 23 cT) 50 rT) 51 fT) 52 gT) 66 150 0) 66 151 0) 66 152 0) 66 153 0) 66 154 0) 66 155 0) 66 156 0) 66 157 0) 66 158 0) 66 159 0) 66 160 1) 66 sU) 65 rU) 70 aU) 71 bU)
        obtain ⟨-, ⟨d1, d2, d3, ⟨d4, d4b, d4c⟩, d5, d6, d7, d8⟩, da, db, dc⟩ := hI2
        have hs : ∀ i, i ≠ 3 → (i < 150 ∨ 161 ≤ i) → sU i = w 66 i := fun i h1 h2 => (hU3 i h1 (by omega)).trans (hT2r i h2)
        have hs : ∀ i, i ≠ 3 ∧ (i < 150 ∨ 161 ≤ i) → sU i = w 66 i := fun i h => hs i h.1 h.2
        have hz : (mz_up (mz_up (mz_up (mz_up (mz_up (mz_up (mz_up (mz_up (mz_up (mz_up (mz_up (mz_set (mz_set (mz_set (mz_set (mz_set (mz_up (mz_up (mz_up (mz_up (mz_up (mz_up (mz_up (mz_up (mz_up (mz_up (mz_up w 23 0 0) 23 1 0) 23 2 0) 23 3 0) 23 4 0) 23 5 0) 23 6 0) 23 7 0) 23 8 0) 23 9 0) 1 9 1) 1 tT) 23 cT) 50 rT) 51 fT) 52 gT) 66 150 0) 66 151 0) 66 152 0) 66 153 0) 66 154 0) 66 155 0) 66 156 0) 66 157 0) 66 158 0) 66 159 0) 66 160 1) 66 3 = (mz_up (mz_up (mz_up (mz_up (mz_up (mz_up (mz_up (mz_up (mz_up (mz_up (mz_up w 23 0 0) 23 1 0) 23 2 0) 23 3 0) 23 4 0) 23 5 0) 23 6 0) 23 7 0) 23 8 0) 23 9 0) 1 9 1) 1 12 := h663
        rw [hz] at hU1 hU2
        have h160 : sU 160 = 1 := hU3 160 (by omega) (by omega)
        have hT9 : tT 9 = 1 := hTt 9 (by omega)
        have hT11 : tT 11 = w 1 11 := hTt 11 (by omega)
        exact ⟨hn, ⟨sm_k1 (hs 0 (by omega)) (fun i h1 h2 => hs i (by omega)) d1, sm_k2 (fun i h1 h2 => hs i (by omega)) d2, sm_k3 (hs 1 (by omega)) (fun i h1 h2 => hs i (by omega)) d3, ⟨sm_k4 (fun i h1 h2 => hs i (by omega)) d4, sm_k4 (fun i h1 h2 => hs i (by omega)) d4b, sm_k4 (fun i h1 h2 => hs i (by omega)) d4c⟩, sm_k5 (fun i h1 h2 => hs i (by omega)) d5, sm_k6 (fun i h1 h2 => hs i (by omega)) d6, ⟨Or.inr hT9, h160.trans hT9.symm, fun i hi => (hU2 i hi).trans (congrFun hz2 i).symm⟩, ⟨⟨AA, hAA, hT11.trans h111, (hs 2 (by omega)).trans h662⟩, hU1.trans hz1.symm, fun i hi => (hs (620 + i) (by omega)).trans (d8.2.2 i hi)⟩⟩, da, (by rw [show (mz_set (mz_set (mz_set (mz_set (mz_up (mz_up (mz_up (mz_up (mz_up (mz_up (mz_up (mz_up (mz_up (mz_up (mz_up (mz_set (mz_set (mz_set (mz_set (mz_set (mz_up (mz_up (mz_up (mz_up (mz_up (mz_up (mz_up (mz_up (mz_up (mz_up (mz_up w 23 0 0) 23 1 0) 23 2 0) 23 3 0) 23 4 0) 23 5 0) 23 6 0) 23 7 0) 23 8 0) 23 9 0) 1 9 1) 1 tT) 23 cT) 50 rT) 51 fT) 52 gT) 66 150 0) 66 151 0) 66 152 0) 66 153 0) 66 154 0) 66 155 0) 66 156 0) 66 157 0) 66 158 0) 66 159 0) 66 160 1) 66 sU) 65 rU) 70 aU) 71 bU) 65 19 = w 65 19 from ((hKU 19 (by omega)).trans rfl)]; exact db), (by rw [show (mz_set (mz_set (mz_set (mz_set (mz_up (mz_up (mz_up (mz_up (mz_up (mz_up (mz_up (mz_up (mz_up (mz_up (mz_up (mz_set (mz_set (mz_set (mz_set (mz_set (mz_up (mz_up (mz_up (mz_up (mz_up (mz_up (mz_up (mz_up (mz_up (mz_up (mz_up w 23 0 0) 23 1 0) 23 2 0) 23 3 0) 23 4 0) 23 5 0) 23 6 0) 23 7 0) 23 8 0) 23 9 0) 1 9 1) 1 tT) 23 cT) 50 rT) 51 fT) 52 gT) 66 150 0) 66 151 0) 66 152 0) 66 153 0) 66 154 0) 66 155 0) 66 156 0) 66 157 0) 66 158 0) 66 159 0) 66 160 1) 66 sU) 65 rU) 70 aU) 71 bU) 65 2 = w 65 2 from ((hKU 2 (by omega)).trans rfl)]; exact sm_cc_of (fun i h1 h2 => by simp only [mz_set_ne (show i ≠ 1 by omega), mz_set_ne (show i ≠ 23 by omega), mz_set_ne (show i ≠ 50 by omega), mz_set_ne (show i ≠ 51 by omega), mz_set_ne (show i ≠ 52 by omega), mz_set_ne (show i ≠ 65 by omega), mz_set_ne (show i ≠ 66 by omega), mz_set_ne (show i ≠ 70 by omega), mz_set_ne (show i ≠ 71 by omega), mz_up_ne (show i ≠ 1 by omega), mz_up_ne (show i ≠ 23 by omega), mz_up_ne (show i ≠ 66 by omega)]) dc)⟩
