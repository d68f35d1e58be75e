/-! the reference's loops -/
theorem px_q0 : ∀ W, W < 7 → 0 < W → ∀ k, k < 36 → 70 + ((6 * (nI k / nI W)) + (nI k - nI k / nI W * nI W)) = nI (70 + (6 * (k / W) + k % W)) ∧ 110 + ((6 * (nI k / nI W)) + (nI k - nI k / nI W * nI W)) = nI (110 + (6 * (k / W) + k % W)) := by decide +kernel
theorem px_wh : ∀ W, W < 7 → ∀ H, H < 7 → nI W * nI H = nI (W * H) := by decide +kernel
theorem px_c : ∀ B, B < 6 → ∀ A, A < 6 → 70 + 6 * (0 + nI B) + (0 + nI A) = nI (70 + (6 * B + A)) := by decide +kernel
theorem px_m : ∀ W, W < 7 → ∀ b, b < 6 → ∀ a, a < W → (b * W + a) / W = b ∧ (b * W + a) % W = a := by decide +kernel
theorem px_q1 : ∀ W, W < 7 → ∀ H, H < 7 → ∀ k, k < W * H → 6 * (k / W) + k % W < 36 := by decide +kernel
theorem px_q2 : ∀ W, W < 7 → ∀ k, k < 36 → ∀ l, l < 36 → 6 * (k / W) + k % W = 6 * (l / W) + l % W → k = l := by decide +kernel
theorem px_b : ∀ W, W < 7 → ∀ H, H < 7 → ∀ b, b < H → ∀ a, a < W → b * W + a < W * H := by decide +kernel
theorem zf_pict {m m' : mz_M} (hz : Zf m) (h1 : ∀ i, i ≠ 65 → i ≠ 66 → m' i = m i) (h2 : ∀ c, c < 60 ∨ 150 ≤ c → m' 66 c = m 66 c) : Zf m' := zf_mk fun q hq => by
  have hb : zf.all (fun q => q.1 != 65 && (q.1 != 66 || (decide (q.2.1 < 60) || decide (150 ≤ q.2.1)))) = true := rfl
  have h3 := List.all_eq_true.mp hb q hq
  simp only [Bool.and_eq_true, Bool.or_eq_true, bne_iff_ne, decide_eq_true_eq] at h3
  by_cases h : q.1 = 66
  · rw [← zf_of hz q hq, h]
    exact h2 q.2.1 (h3.2.resolve_left (fun e => e h))
  · rw [← zf_of hz q hq, h1 q.1 h3.1 h]
set_option maxHeartbeats 4000000 in
set_option maxRecDepth 100000 in
theorem rz_pall (x y e s : Int32) (W H : Nat) (hW : W ≤ 6) (hH : H ≤ 6) (hW0 : 0 < W) (l7 : Int32) : ∀ n k : Nat, k + n = W * H → ∀ (l9 : Option Value) (m : mz_M), Zf m → (∀ l, l < k → m 66 (70 + (6 * (l / W) + l % W)) = 9) → ∃ (m' : mz_M) (o9 : Option Value), (∀ l, l < W * H → m' 66 (70 + (6 * (l / W) + l % W)) = 9) ∧ ∀ r, mz_Ex 70 mz_k190 (225, [some (.ref 65), some (.int x), some (.int y), some (.int e), some (.int s), some (.int (nI W)), some (.int (nI H)), some (.int l7), some (.int (nI (W * H))), o9], [], m') r → mz_Ex 70 mz_k190 (141, [some (.ref 65), some (.int x), some (.int y), some (.int e), some (.int s), some (.int (nI W)), some (.int (nI H)), some (.int l7), some (.int (nI k)), l9], [], m) r := by
  have hWH := px_wh W (by omega) H (by omega)
  have hle : W * H ≤ 36 := Nat.mul_le_mul hW hH
  intro n
  induction n with
  | zero =>
    intro k hk l9 m hz ha
    have hk2 : k = W * H := by omega
    subst hk2
    refine ⟨m, l9, ha, fun r hr => ?_⟩
    refine mz_go 5 (c' := (if nI W * nI H ≤ nI (W * H) then 225 else 151, [some (.ref 65), some (.int x), some (.int y), some (.int e), some (.int s), some (.int (nI W)), some (.int (nI H)), some (.int l7), some (.int (nI (W * H))), l9], [], m)) rfl ?_
    exact mz_ifT (by rw [hWH]; exact Int32.le_refl _) hr
  | succ n ih =>
    intro k hk l9 m hz ha
    have hk36 : k < 36 := by omega
    obtain ⟨e70, e110⟩ := px_q0 W (by omega) hW0 k hk36
    have hq := px_q1 W (by omega) H (by omega) k (by omega)
    have hq2 := px_q2 W (by omega) k hk36
    obtain ⟨Q, hQ⟩ : ∃ Q, Q = 6 * (k / W) + k % W := ⟨_, rfl⟩
    rw [← hQ] at e70 e110 hq hq2
    obtain ⟨m1, a9, g1, g2, f1⟩ := rz_paint x y e s (nI W) (nI H) (nI k) (nI_ne0 hW0 (by omega)) (by rw [hWH]; exact nI_ge (show k < W * H by omega) (by omega)) (by rw [e70]; exact mz_inH (nI_pos (by omega)) (nI_lt (show 70 + Q < 650 by omega) (by decide)) (by decide)) (by rw [e110]; exact mz_inH (nI_pos (by omega)) (nI_lt (show 110 + Q < 650 by omega) (by decide)) (by decide)) l7 l9 m
    rw [zf_eq hz] at g1 g2 f1
    rw [e70, e110, nI_clamp (show 70 + Q < 2 ^ 31 by omega), nI_clamp (show 110 + Q < 2 ^ 31 by omega)] at g2
    have z1 : Zf m1 := zf_pict hz g1 (fun c hc => by rw [g2, if_neg (by omega), if_neg (by omega)])
    obtain ⟨m2, o9, k1, f2⟩ := ih (k + 1) (by omega) (some (.int a9)) m1 z1 (fun l hl => by
      have hl36 : l < 36 := by omega
      have hq3 := px_q1 W (by omega) H (by omega) l (by omega)
      rw [g2]
      by_cases h : l = k
      · subst h
        rw [← hQ, if_neg (by omega), if_pos rfl]
      · rw [if_neg (by omega), if_neg (fun h2 => h (hq2 l hl36 (by omega)).symm)]
        exact ha l (by omega))
    rw [nI_succ k] at f2
    exact ⟨m2, o9, k1, fun r hr => f1 r (f2 r hr)⟩
set_option maxHeartbeats 4000000 in
set_option maxRecDepth 100000 in
theorem rz_sin (W H A : Nat) (hW : W ≤ 6) (hH : H ≤ 6) (hA : A < W) (m : mz_M) (hc : ∀ b, b < H → ∀ a, a < W → m 66 (70 + (6 * b + a)) = 9) : ∀ n B : Nat, B + n = H → ∀ g : Int32, (g = 0 ∨ g = 512) → ∃ g' : Int32, (g' = 0 ∨ g' = 512) ∧ (g = 512 ∨ 0 < n → g' = 512) ∧ ∀ r, mz_Ex 20 mz_k189 (47, [some (.ref 65), some (.int 0), some (.int 0), some (.int (nI W)), some (.int (nI H)), some (.int g'), some (.int (nI A)), some (.int (nI H))], [], m) r → mz_Ex 20 mz_k189 (15, [some (.ref 65), some (.int 0), some (.int 0), some (.int (nI W)), some (.int (nI H)), some (.int g), some (.int (nI A)), some (.int (nI B))], [], m) r := by
  intro n
  induction n with
  | zero =>
    intro B hB g hg
    have hB2 : B = H := by omega
    subst hB2
    refine ⟨g, hg, fun h => h.resolve_right (by decide), fun r hr => ?_⟩
    refine mz_go 3 (c' := (if nI B ≤ nI B then 47 else 22, [some (.ref 65), some (.int 0), some (.int 0), some (.int (nI W)), some (.int (nI B)), some (.int g), some (.int (nI A)), some (.int (nI B))], [], m)) rfl ?_
    exact mz_ifT (Int32.le_refl _) hr
  | succ n ih =>
    intro B hB g hg
    obtain ⟨g', -, h2, f⟩ := ih (B + 1) (by omega) 512 (Or.inr rfl)
    have e1 := px_c B (by omega) A (by omega)
    have hg2 : g ||| ((1 : Int32) <<< ((9 : Int32) &&& 31)) = 512 := by
      rcases hg with rfl | rfl <;> decide
    refine ⟨g', Or.inr (h2 (Or.inl rfl)), fun _ => h2 (Or.inl rfl), fun r hr => ?_⟩
    have t := f r hr
    rw [nI_succ B] at t
    refine mz_go 3 (c' := (if nI H ≤ nI B then 47 else 22, [some (.ref 65), some (.int 0), some (.int 0), some (.int (nI W)), some (.int (nI H)), some (.int g), some (.int (nI A)), some (.int (nI B))], [], m)) rfl ?_
    refine mz_ifF (nI_ge (show B < H by omega) (by omega)) ?_
    refine mz_go 9 (c' := (34, [some (.ref 65), some (.int 0), some (.int 0), some (.int (nI W)), some (.int (nI H)), some (.int g), some (.int (nI A)), some (.int (nI B))], [.int (0 + nI B), .int (0 + nI A), .ref 65, .int 1, .int g], m)) rfl ?_
    refine mz_do (R := mz_r186) (as := [.ref 65, .int (0 + nI A), .int (0 + nI B)]) (rest := [.int 1, .int g]) (r1 := some (.int 9)) (m1 := m) rfl ⟨?_, rfl⟩ ?_
    · refine mz_go 9 (c' := (13, [some (.ref 65), some (.int (0 + nI A)), some (.int (0 + nI B))], [.int (70 + 6 * (0 + nI B) + (0 + nI A)), .ref 66], m)) rfl ?_
      refine mz_arr (c' := (14, [some (.ref 65), some (.int (0 + nI A)), some (.int (0 + nI B))], [.int (m 66 (70 + 6 * (0 + nI B) + (0 + nI A)).toNatClampNeg)], m)) rfl (by rw [e1]; exact mz_inH (nI_pos (by omega)) (nI_lt (show 70 + (6 * B + A) < 650 by omega) (by decide)) (by decide)) ?_
      rw [e1, nI_clamp (show 70 + (6 * B + A) < 2 ^ 31 by omega), hc B (by omega) A hA]
      exact mz_ret rfl
    refine mz_go 5 (c' := (15, [some (.ref 65), some (.int 0), some (.int 0), some (.int (nI W)), some (.int (nI H)), some (.int (g ||| ((1 : Int32) <<< ((9 : Int32) &&& 31)))), some (.int (nI A)), some (.int (nI B + 1))], [], m)) rfl ?_
    rw [hg2]
    exact t
set_option maxHeartbeats 4000000 in
set_option maxRecDepth 100000 in
theorem rz_sout (W H : Nat) (hW : W ≤ 6) (hH : H ≤ 6) (hH0 : 0 < H) (m : mz_M) (hc : ∀ b, b < H → ∀ a, a < W → m 66 (70 + (6 * b + a)) = 9) : ∀ n A : Nat, A + n = W → ∀ (g : Int32) (l7 : Option Value), (g = 0 ∨ g = 512) → ∃ (g' : Int32) (o7 : Option Value), (g = 512 ∨ 0 < n → g' = 512) ∧ ∀ r, mz_Ex 20 mz_k189 (53, [some (.ref 65), some (.int 0), some (.int 0), some (.int (nI W)), some (.int (nI H)), some (.int g'), some (.int (nI W)), o7], [], m) r → mz_Ex 20 mz_k189 (6, [some (.ref 65), some (.int 0), some (.int 0), some (.int (nI W)), some (.int (nI H)), some (.int g), some (.int (nI A)), l7], [], m) r := by
  intro n
  induction n with
  | zero =>
    intro A hA g l7 hg
    have hA2 : A = W := by omega
    subst hA2
    refine ⟨g, l7, fun h => h.resolve_right (by decide), fun r hr => ?_⟩
    refine mz_go 3 (c' := (if nI A ≤ nI A then 53 else 12, [some (.ref 65), some (.int 0), some (.int 0), some (.int (nI A)), some (.int (nI H)), some (.int g), some (.int (nI A)), l7], [], m)) rfl ?_
    exact mz_ifT (Int32.le_refl _) hr
  | succ n ih =>
    intro A hA g l7 hg
    obtain ⟨g1, -, k2, f1⟩ := rz_sin W H A hW hH (by omega) m hc H 0 (by omega) g hg
    obtain ⟨g2, o7, h2, f2⟩ := ih (A + 1) (by omega) g1 (some (.int (nI H))) (Or.inr (k2 (Or.inr hH0)))
    refine ⟨g2, o7, fun _ => h2 (Or.inl (k2 (Or.inr hH0))), fun r hr => ?_⟩
    have t := f2 r hr
    rw [nI_succ A] at t
    refine mz_go 3 (c' := (if nI W ≤ nI A then 53 else 12, [some (.ref 65), some (.int 0), some (.int 0), some (.int (nI W)), some (.int (nI H)), some (.int g), some (.int (nI A)), l7], [], m)) rfl ?_
    refine mz_ifF (nI_ge (show A < W by omega) (by omega)) ?_
    refine mz_go 2 (c' := (15, [some (.ref 65), some (.int 0), some (.int 0), some (.int (nI W)), some (.int (nI H)), some (.int g), some (.int (nI A)), some (.int (nI 0))], [], m)) rfl ?_
    refine f1 r ?_
    exact mz_go 2 (c' := (6, [some (.ref 65), some (.int 0), some (.int 0), some (.int (nI W)), some (.int (nI H)), some (.int g1), some (.int (nI A + 1)), some (.int (nI H))], [], m)) rfl t
set_option maxHeartbeats 4000000 in
set_option maxRecDepth 100000 in
theorem rz_pictured (x y e s w h : Int32) (hw1 : ¬ w < 1) (hw6 : ¬ 6 < w) (hh1 : ¬ h < 1) (hh6 : ¬ 6 < h) (l7 : Int32) (m : mz_M) (hz : Zf m) : ∃ m', mz_Ex 80 mz_k190 (141, [some (.ref 65), some (.int x), some (.int y), some (.int e), some (.int s), some (.int w), some (.int h), some (.int l7), some (.int 0), none], [], m) (some (.int 1), m') := by
  obtain ⟨W, hW, rfl⟩ := nI_of2 (M := 6) (n := 6) rfl (fun h => hw1 (Int32.lt_trans h (by decide))) (Int32.not_lt.mp hw6)
  obtain ⟨H, hH, rfl⟩ := nI_of2 (M := 6) (n := 6) rfl (fun h => hh1 (Int32.lt_trans h (by decide))) (Int32.not_lt.mp hh6)
  have hW0 : 0 < W := by
    rcases Nat.eq_zero_or_pos W with h | h
    · subst h
      exact absurd (by decide) hw1
    · exact h
  have hH0 : 0 < H := by
    rcases Nat.eq_zero_or_pos H with h | h
    · subst h
      exact absurd (by decide) hh1
    · exact h
  obtain ⟨m1, o9, k1, f⟩ := rz_pall x y e s W H hW hH hW0 l7 (W * H) 0 (by omega) none m hz (fun l hl => absurd hl (Nat.not_lt_zero l))
  have hc : ∀ b, b < H → ∀ a, a < W → m1 66 (70 + (6 * b + a)) = 9 := fun b hb a ha => by
    have h1 := k1 (b * W + a) (px_b W (by omega) H (by omega) b hb a ha)
    obtain ⟨h2, h3⟩ := px_m W (by omega) b (by omega) a ha
    rw [h2, h3] at h1
    exact h1
  obtain ⟨g, o7, hg, fs⟩ := rz_sout W H hW hH hH0 m1 hc W 0 (by omega) 0 none (Or.inl rfl)
  have hg2 := hg (Or.inr hW0)
  subst hg2
  refine ⟨m1, mz_Ex.deep (d := 70) (f _ ?_) (by decide)⟩
  refine mz_go 5 (c' := (232, [some (.ref 65), some (.int x), some (.int y), some (.int e), some (.int s), some (.int (nI W)), some (.int (nI H)), some (.int l7), some (.int (nI (W * H))), o9], [.int (nI H), .int (nI W), .int 0, .int 0, .ref 65], m1)) rfl ?_
  refine mz_do (R := mz_r189) (as := [.ref 65, .int 0, .int 0, .int (nI W), .int (nI H)]) (rest := []) (r1 := some (.int 1)) (m1 := m1) rfl (mz_Me.deep (d := 20) ⟨?_, rfl⟩ (by decide)) ?_
  · refine mz_go 4 (c' := (6, [some (.ref 65), some (.int 0), some (.int 0), some (.int (nI W)), some (.int (nI H)), some (.int 0), some (.int (nI 0)), none], [], m1)) rfl ?_
    refine fs _ ?_
    refine mz_go 2 (c' := (56, [some (.ref 65), some (.int 0), some (.int 0), some (.int (nI W)), some (.int (nI H)), some (.int 512), some (.int 0), o7], [], m1)) rfl ?_
    refine mz_go 2 (c' := (if (512 : Int32) = 0 then 76 else 61, [some (.ref 65), some (.int 0), some (.int 0), some (.int (nI W)), some (.int (nI H)), some (.int 512), some (.int 0), o7], [], m1)) rfl ?_
    refine mz_ifF (by decide) ?_
    refine mz_go 8 (c' := (56, [some (.ref 65), some (.int 0), some (.int 0), some (.int (nI W)), some (.int (nI H)), some (.int 0), some (.int 1), o7], [], m1)) rfl ?_
    refine mz_go 2 (c' := (if (0 : Int32) = 0 then 76 else 61, [some (.ref 65), some (.int 0), some (.int 0), some (.int (nI W)), some (.int (nI H)), some (.int 0), some (.int 1), o7], [], m1)) rfl ?_
    refine mz_ifT rfl ?_
    refine mz_go 1 (c' := (78, [some (.ref 65), some (.int 0), some (.int 0), some (.int (nI W)), some (.int (nI H)), some (.int 0), some (.int 1), o7], [.int 1], m1)) rfl ?_
    exact mz_ret rfl
  · exact mz_ret rfl
