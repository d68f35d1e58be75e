/-! bytes -/
theorem sm_by0 (x : BitVec 64) (s : Nat) (hs : s ≤ 56) : ((x.sshiftRight s) &&& 255#64).setWidth 32 = (x >>> s).setWidth 32 &&& 255#32 := by
  apply BitVec.eq_of_getLsbD_eq
  intro i hi
  have t : Nat.testBit 255 i = decide (i < 8) := Nat.testBit_two_pow_sub_one 8 i
  simp only [BitVec.getLsbD_setWidth, BitVec.getLsbD_and, BitVec.getLsbD_sshiftRight, BitVec.getLsbD_ushiftRight, BitVec.getLsbD_ofNat, t]
  by_cases h : i < 8
  · have h1 : s + i < 64 := by omega
    have h2 : ¬ 64 ≤ i := by omega
    have h3 : i < 64 := by omega
    simp [h, h1, h2, h3, hi]
  · simp [h]
theorem sm_by1 (x : BitVec 64) (s : Nat) (hs : s ≤ 56) : ((x.sshiftRight s) &&& 255#64).signExtend 32 = (x >>> s).signExtend 32 &&& 255#32 := by
  rw [BitVec.signExtend_eq_setWidth_of_le _ (by decide), BitVec.signExtend_eq_setWidth_of_le _ (by decide)]
  exact sm_by0 x s hs
noncomputable def sm_byc (x : Int64) (k : Nat) : Int32 := (((x.toUInt64 >>> ((8 * (nI k) : Int32).toInt64.toUInt64 &&& Int64.toUInt64 63)).toInt64).toInt32) &&& 255
noncomputable def sm_byr (x : Int64) (k : Nat) : Int32 := ((x >>> ((8 * (nI k) : Int32).toInt64 &&& 63)) &&& (Int64.ofNat 255)).toInt32
theorem sm_by_eq (x : Int64) {k : Nat} (hk : k < 8) : sm_byr x k = sm_byc x k := by
  apply Int32.toBitVec_inj.mp
  rcases (show k = 0 ∨ k = 1 ∨ k = 2 ∨ k = 3 ∨ k = 4 ∨ k = 5 ∨ k = 6 ∨ k = 7 by omega) with rfl | rfl | rfl | rfl | rfl | rfl | rfl | rfl
  · exact sm_by1 x.toBitVec 0 (by decide)
  · exact sm_by1 x.toBitVec 8 (by decide)
  · exact sm_by1 x.toBitVec 16 (by decide)
  · exact sm_by1 x.toBitVec 24 (by decide)
  · exact sm_by1 x.toBitVec 32 (by decide)
  · exact sm_by1 x.toBitVec 40 (by decide)
  · exact sm_by1 x.toBitVec 48 (by decide)
  · exact sm_by1 x.toBitVec 56 (by decide)
theorem sm_and255 (y : Int32) : sm_N 255 (y &&& 255) := by
  have h : (y.toBitVec &&& 255#32).toNat ≤ 255 := by
    rw [BitVec.toNat_and]
    exact Nat.and_le_right (n := y.toBitVec.toNat) (m := 255)
  have e : (y &&& 255).toInt = ((y.toBitVec &&& 255#32).toNat : Int) := by
    show (y.toBitVec &&& 255#32).toInt = _
    exact BitVec.toInt_eq_toNat_of_lt (by omega)
  unfold sm_N
  rw [e]
  omega
theorem sm_by_N (x : Int64) (k : Nat) : sm_N 255 (sm_byc x k) := sm_and255 _
set_option maxHeartbeats 4000000 in
set_option maxRecDepth 100000 in
theorem cs_feedl {m : mz_M} {x : Int64} {T n D : Nat} (hn : n ≤ 8) (hT : T + n ≤ 60) : ∀ j k : Nat, k + j = n → ∀ g t : Nat → Int32, t 1 = nI (T + k) → (∀ i, g i = if T ≤ i ∧ i < T + k then sm_byc x (i - T) else m 9 i) → ∃ g' t' : Nat → Int32, t' 1 = nI (T + n) ∧ (∀ i, g' i = if T ≤ i ∧ i < T + n then sm_byc x (i - T) else m 9 i) ∧ ∀ res, mz_Ex (D + 1) mz_k74 (92, [some (.ref 0), some (.long x), none, some (.int (nI n)), some (.ref 8), some (.int (nI n))], [], mz_set (mz_set m 9 g') 8 t') res → mz_Ex (D + 1) mz_k74 (46, [some (.ref 0), some (.long x), none, some (.int (nI n)), some (.ref 8), some (.int (nI k))], [], mz_set (mz_set m 9 g) 8 t) res := by
  intro j
  induction j with
  | zero =>
    intro k hk g t h1 h2
    have hk2 : k = n := by omega
    rw [hk2] at h1 h2
    rw [hk2]
    exact ⟨g, t, h1, h2, fun res hr => by
      refine mz_go 3 (c' := (if (nI n) ≤ (nI n) then 92 else 52, [some (.ref 0), some (.long x), none, some (.int (nI n)), some (.ref 8), some (.int (nI n))], [], mz_set (mz_set m 9 g) 8 t)) rfl ?_
      refine mz_ifT (show ((nI n) ≤ (nI n)) from (sm_leN rfl rfl (show n ≤ n by omega) (show n < 2 ^ 31 by omega))) ?_
      exact hr⟩
  | succ j ih =>
    intro k hk g t h1 h2
    have hm : mz_up (mz_up (mz_set (mz_set m 9 g) 8 t) 9 (T + k) ((((x.toUInt64 >>> ((8 * (nI k) : Int32).toInt64.toUInt64 &&& Int64.toUInt64 63)).toInt64).toInt32) &&& 255)) 8 1 ((nI (T + k)) + 1) = mz_set (mz_set m 9 ((mz_up (mz_up (mz_set (mz_set m 9 g) 8 t) 9 (T + k) ((((x.toUInt64 >>> ((8 * (nI k) : Int32).toInt64.toUInt64 &&& Int64.toUInt64 63)).toInt64).toInt32) &&& 255)) 8 1 ((nI (T + k)) + 1)) 9)) 8 ((mz_up (mz_up (mz_set (mz_set m 9 g) 8 t) 9 (T + k) ((((x.toUInt64 >>> ((8 * (nI k) : Int32).toInt64.toUInt64 &&& Int64.toUInt64 63)).toInt64).toInt32) &&& 255)) 8 1 ((nI (T + k)) + 1)) 8) := sm_of2 (fun i h1 h2 => by simp only [mz_up_ne h1, mz_up_ne h2, mz_set_ne h1, mz_set_ne h2])
    have hA : ((mz_up (mz_up (mz_set (mz_set m 9 g) 8 t) 9 (T + k) ((((x.toUInt64 >>> ((8 * (nI k) : Int32).toInt64.toUInt64 &&& Int64.toUInt64 63)).toInt64).toInt32) &&& 255)) 8 1 ((nI (T + k)) + 1)) 8) 1 = nI (T + (k + 1)) := by
      rw [mz_up_eq, if_pos rfl, ← nI_succ]
      first | rfl | done
    have hB : ∀ i, ((mz_up (mz_up (mz_set (mz_set m 9 g) 8 t) 9 (T + k) ((((x.toUInt64 >>> ((8 * (nI k) : Int32).toInt64.toUInt64 &&& Int64.toUInt64 63)).toInt64).toInt32) &&& 255)) 8 1 ((nI (T + k)) + 1)) 9) i = if T ≤ i ∧ i < T + (k + 1) then sm_byc x (i - T) else m 9 i := by
      intro i
      rw [mz_up_ne (show (9 : Nat) ≠ 8 by decide), mz_up_eq, mz_set_ne (show (9 : Nat) ≠ 8 by decide), mz_set_eq, h2 i]
      by_cases e : i = T + k
      · rw [if_pos e, if_pos (by omega), e, show T + k - T = k by omega]
        rfl
      · rw [if_neg e]
        by_cases e2 : T ≤ i ∧ i < T + k
        · rw [if_pos e2, if_pos (by omega)]
        · rw [if_neg e2, if_neg (by omega)]
    obtain ⟨g', t', h3, h4, E⟩ := ih (k + 1) (by omega) ((mz_up (mz_up (mz_set (mz_set m 9 g) 8 t) 9 (T + k) ((((x.toUInt64 >>> ((8 * (nI k) : Int32).toInt64.toUInt64 &&& Int64.toUInt64 63)).toInt64).toInt32) &&& 255)) 8 1 ((nI (T + k)) + 1)) 9) ((mz_up (mz_up (mz_set (mz_set m 9 g) 8 t) 9 (T + k) ((((x.toUInt64 >>> ((8 * (nI k) : Int32).toInt64.toUInt64 &&& Int64.toUInt64 63)).toInt64).toInt32) &&& 255)) 8 1 ((nI (T + k)) + 1)) 8) hA hB
    refine ⟨g', t', h3, h4, fun res hr0 => ?_⟩
    have hr := E res hr0
    rw [nI_succ k, ← hm] at hr
    refine mz_go 3 (c' := (if (nI n) ≤ (nI k) then 92 else 52, [some (.ref 0), some (.long x), none, some (.int (nI n)), some (.ref 8), some (.int (nI k))], [], mz_set (mz_set m 9 g) 8 t)) rfl ?_
    refine mz_ifF (show ¬ ((nI n) ≤ (nI k)) from (sm_nleN rfl rfl (show k < n by omega) (show n < 2 ^ 31 by omega))) ?_
    refine mz_go 4 (c' := (62, [some (.ref 0), some (.long x), none, some (.int (nI n)), some (.ref 8), some (.int (nI k))], [.int (t 1), .ref 9], mz_set (mz_set m 9 g) 8 t)) rfl ?_
    rw [h1]
    refine mz_go 8 (c' := (74, [some (.ref 0), some (.long x), none, some (.int (nI n)), some (.ref 8), some (.int (nI k))], [.int ((((x.toUInt64 >>> ((8 * (nI k) : Int32).toInt64.toUInt64 &&& Int64.toUInt64 63)).toInt64).toInt32) &&& 255), .int (nI (T + k)), .ref 9], mz_set (mz_set m 9 g) 8 t)) rfl ?_
    refine mz_arr (c' := (75, [some (.ref 0), some (.long x), none, some (.int (nI n)), some (.ref 8), some (.int (nI k))], [], mz_up (mz_set (mz_set m 9 g) 8 t) 9 ((nI (T + k)).toNatClampNeg) ((((x.toUInt64 >>> ((8 * (nI k) : Int32).toInt64.toUInt64 &&& Int64.toUInt64 63)).toInt64).toInt32) &&& 255))) rfl (show mz_in (nI (T + k)) 60 = true from sm_inN rfl (show (T + k) < 60 by omega) (by decide)) ?_
    rw [show (nI (T + k) : Int32).toNatClampNeg = (T + k) from sm_clN rfl (show (T + k) < 2 ^ 31 by omega)]
    refine mz_go 3 (c' := (81, [some (.ref 0), some (.long x), none, some (.int (nI n)), some (.ref 8), some (.int (nI k))], [.int (t 1), .ref 8], mz_up (mz_set (mz_set m 9 g) 8 t) 9 (T + k) ((((x.toUInt64 >>> ((8 * (nI k) : Int32).toInt64.toUInt64 &&& Int64.toUInt64 63)).toInt64).toInt32) &&& 255))) rfl ?_
    rw [h1]
    refine mz_go 5 (c' := (46, [some (.ref 0), some (.long x), none, some (.int (nI n)), some (.ref 8), some (.int ((nI k) + 1))], [], mz_up (mz_up (mz_set (mz_set m 9 g) 8 t) 9 (T + k) ((((x.toUInt64 >>> ((8 * (nI k) : Int32).toInt64.toUInt64 &&& Int64.toUInt64 63)).toInt64).toInt32) &&& 255)) 8 1 ((nI (T + k)) + 1))) rfl ?_
    exact hr
set_option maxHeartbeats 4000000 in
set_option maxRecDepth 100000 in
theorem ct_feedl {m : mz_M} {x : Int64} {T n D : Nat} (hn : n ≤ 8) (hT : T + n ≤ 60) : ∀ j k : Nat, k + j = n → ∀ g : Nat → Int32, (∀ i, g i = if 550 + T ≤ i ∧ i < 550 + T + k then sm_byr x (i - (550 + T)) else if i = 1 then nI (T + k) else m 66 i) → ∃ g' : Nat → Int32, (∀ i, g' i = if 550 + T ≤ i ∧ i < 550 + T + n then sm_byr x (i - (550 + T)) else if i = 1 then nI (T + n) else m 66 i) ∧ ∀ res, mz_Ex (D + 1) mz_k158 (87, [some (.ref 65), some (.long x), none, some (.int (nI n)), some (.int (nI n))], [], mz_set m 66 g') res → mz_Ex (D + 1) mz_k158 (38, [some (.ref 65), some (.long x), none, some (.int (nI n)), some (.int (nI k))], [], mz_set m 66 g) res := by
  intro j
  induction j with
  | zero =>
    intro k hk g h2
    have hk2 : k = n := by omega
    rw [hk2] at h2
    rw [hk2]
    exact ⟨g, h2, fun res hr => by
      refine mz_go 3 (c' := (if (nI n) ≤ (nI n) then 87 else 44, [some (.ref 65), some (.long x), none, some (.int (nI n)), some (.int (nI n))], [], mz_set m 66 g)) rfl ?_
      refine mz_ifT (show ((nI n) ≤ (nI n)) from (sm_leN rfl rfl (show n ≤ n by omega) (show n < 2 ^ 31 by omega))) ?_
      exact hr⟩
  | succ j ih =>
    intro k hk g h2
    have h1 : g 1 = nI (T + k) := by rw [h2 1, if_neg (by omega), if_pos rfl]
    have hm : mz_up (mz_up (mz_set m 66 g) 66 (550 + (T + k)) (((x >>> ((8 * (nI k) : Int32).toInt64 &&& 63)) &&& (Int64.ofNat 255)).toInt32)) 66 1 (((mz_up (mz_set m 66 g) 66 (550 + (T + k)) (((x >>> ((8 * (nI k) : Int32).toInt64 &&& 63)) &&& (Int64.ofNat 255)).toInt32)) 66 1) + 1) = mz_set m 66 ((mz_up (mz_up (mz_set m 66 g) 66 (550 + (T + k)) (((x >>> ((8 * (nI k) : Int32).toInt64 &&& 63)) &&& (Int64.ofNat 255)).toInt32)) 66 1 (((mz_up (mz_set m 66 g) 66 (550 + (T + k)) (((x >>> ((8 * (nI k) : Int32).toInt64 &&& 63)) &&& (Int64.ofNat 255)).toInt32)) 66 1) + 1)) 66) := sm_of1 (fun i h1 => by simp only [mz_up_ne h1, mz_set_ne h1])
    have hB : (∀ i, ((mz_up (mz_up (mz_set m 66 g) 66 (550 + (T + k)) (((x >>> ((8 * (nI k) : Int32).toInt64 &&& 63)) &&& (Int64.ofNat 255)).toInt32)) 66 1 (((mz_up (mz_set m 66 g) 66 (550 + (T + k)) (((x >>> ((8 * (nI k) : Int32).toInt64 &&& 63)) &&& (Int64.ofNat 255)).toInt32)) 66 1) + 1)) 66) i = if 550 + T ≤ i ∧ i < 550 + T + (k + 1) then sm_byr x (i - (550 + T)) else if i = 1 then nI (T + (k + 1)) else m 66 i) := by
      intro i
      have hv : ((mz_up (mz_set m 66 g) 66 (550 + (T + k)) (((x >>> ((8 * (nI k) : Int32).toInt64 &&& 63)) &&& (Int64.ofNat 255)).toInt32)) 66 1) + 1 = nI (T + k) + 1 := by rw [mz_up_eq, if_neg (by omega), mz_set_eq, h1]
      rw [hv, mz_up_eq, mz_up_eq, mz_set_eq]
      by_cases e1 : i = 1
      · rw [if_pos e1, if_neg (by omega), if_pos e1, ← nI_succ]
        first | rfl | done
      · rw [if_neg e1]
        by_cases e : i = 550 + (T + k)
        · rw [if_pos e, if_pos (by omega), e, show 550 + (T + k) - (550 + T) = k by omega]
          rfl
        · rw [if_neg e, h2 i]
          by_cases e2 : 550 + T ≤ i ∧ i < 550 + T + k
          · rw [if_pos e2, if_pos (by omega)]
          · simp only [if_neg e2, if_neg e1, if_neg (show ¬ (550 + T ≤ i ∧ i < 550 + T + (k + 1)) by omega)]
    obtain ⟨g', h4, E⟩ := ih (k + 1) (by omega) ((mz_up (mz_up (mz_set m 66 g) 66 (550 + (T + k)) (((x >>> ((8 * (nI k) : Int32).toInt64 &&& 63)) &&& (Int64.ofNat 255)).toInt32)) 66 1 (((mz_up (mz_set m 66 g) 66 (550 + (T + k)) (((x >>> ((8 * (nI k) : Int32).toInt64 &&& 63)) &&& (Int64.ofNat 255)).toInt32)) 66 1) + 1)) 66) hB
    refine ⟨g', h4, fun res hr0 => ?_⟩
    have hr := E res hr0
    rw [nI_succ k, ← hm] at hr
    refine mz_go 3 (c' := (if (nI n) ≤ (nI k) then 87 else 44, [some (.ref 65), some (.long x), none, some (.int (nI n)), some (.int (nI k))], [], mz_set m 66 g)) rfl ?_
    refine mz_ifF (show ¬ ((nI n) ≤ (nI k)) from (sm_nleN rfl rfl (show k < n by omega) (show n < 2 ^ 31 by omega))) ?_
    refine mz_go 7 (c' := (57, [some (.ref 65), some (.long x), none, some (.int (nI n)), some (.int (nI k))], [.int (g 1), .int 550, .ref 66], mz_set m 66 g)) rfl ?_
    rw [h1]
    refine mz_go 9 (c' := (70, [some (.ref 65), some (.long x), none, some (.int (nI n)), some (.int (nI k))], [.int (((x >>> ((8 * (nI k) : Int32).toInt64 &&& 63)) &&& (Int64.ofNat 255)).toInt32), .int (550 + (nI (T + k))), .ref 66], mz_set m 66 g)) rfl ?_
    refine mz_arr (c' := (71, [some (.ref 65), some (.long x), none, some (.int (nI n)), some (.int (nI k))], [], mz_up (mz_set m 66 g) 66 ((550 + (nI (T + k))).toNatClampNeg) (((x >>> ((8 * (nI k) : Int32).toInt64 &&& 63)) &&& (Int64.ofNat 255)).toInt32))) rfl (show mz_in (550 + (nI (T + k))) 650 = true from sm_inN (sm_addN rfl rfl) (show (550 + (T + k)) < 650 by omega) (by decide)) ?_
    rw [show (550 + (nI (T + k)) : Int32).toNatClampNeg = (550 + (T + k)) from sm_clN (sm_addN rfl rfl) (show (550 + (T + k)) < 2 ^ 31 by omega)]
    refine mz_go 10 (c' := (38, [some (.ref 65), some (.long x), none, some (.int (nI n)), some (.int ((nI k) + 1))], [], mz_up (mz_up (mz_set m 66 g) 66 (550 + (T + k)) (((x >>> ((8 * (nI k) : Int32).toInt64 &&& 63)) &&& (Int64.ofNat 255)).toInt32)) 66 1 (((mz_up (mz_set m 66 g) 66 (550 + (T + k)) (((x >>> ((8 * (nI k) : Int32).toInt64 &&& 63)) &&& (Int64.ofNat 255)).toInt32)) 66 1) + 1))) rfl ?_
    exact hr
set_option maxHeartbeats 4000000 in
set_option maxRecDepth 100000 in
theorem sc_feed {n : Nat} (hn : n < 64) {w : mz_M} (hI : sm_I n w) (xa : Int64) (xb : Int32) : ∃ v1 v2 m1 m2, mz_Me 100 mz_r74 [.ref 0, .long xa, .int xb] w (some (.int v1)) m1 ∧ mz_Me 100 mz_r158 [.ref 65, .long xa, .int xb] m1 (some (.int v2)) m2 ∧ sm_I (n + 1) m2 ∧ v1 = v2 := by
  have hI2 := hI
  obtain ⟨hn0, ⟨-, ⟨hr80, hr5, hrr⟩, ⟨⟨TT, hTT, h81, h661⟩, htp⟩, ⟨⟨T0, hT0, hU0, hV0, -⟩, ⟨T1, hT1, hU1, hV1, -⟩, ⟨T2, hT2, hU2, hV2, -⟩⟩, ⟨hbx, hby, hbl⟩, ⟨⟨WW, HH, hWW, hHH, hWH, h202, h203, h6660, h6661⟩, h6662, h6663, h6664, hpc⟩, ⟨hth, h66160, hthr⟩, ⟨⟨AA, hAA, h111, h662⟩, h663, hwt⟩⟩, ⟨hsh, hsn⟩, ⟨hcb1, hcb2⟩, ⟨JJ, hJJ, h07, h652, hkept⟩⟩ := hI
  obtain ⟨N, hw, hr2, h660, -, -, h6615⟩ := sm_world hI2
  have hw2 := hw
  obtain ⟨hN, h4, hpb, -, -⟩ := hw2
  have hT60a := sm_T60 hV0
  have hT60b := sm_T60 hV1
  have hT60c := sm_T60 hV2
  obtain ⟨B1, hB1, e571⟩ := sm_Nof (by decide) hcb1
  obtain ⟨B2, hB2, e6519⟩ := sm_Nof (by decide) hcb2
  refine mz_two (fun _ => rfl) (fun _ => rfl) ?_
  by_cases q1 : (sm_bI (sm_in xb 1 8)) = 0
  · refine mz_goP 3 (c' := (4, [some (.ref 0), some (.long xa), none, some (.int xb), none, none], [.int 8, .int 1, .int xb], w)) rfl ?_
    refine mz_doPQ (R := mz_r121) (as := [.int xb, .int 1, .int 8]) (rest := []) (r1 := some (.int (sm_bI (sm_in xb 1 8)))) (m1 := w) mz_t121 mz_v121 rfl rfl rfl rfl rfl ((cs_in (m := w) xb 1 8).deep (by decide)) ?_
    refine mz_goP 1 (c' := (if (sm_bI (sm_in xb 1 8)) = 0 then 10 else 16, [some (.ref 0), some (.long xa), none, some (.int xb), none, none], [], w)) rfl ?_
    refine mz_ifTP q1 ?_
    refine mz_goP 2 (c' := (12, [some (.ref 0), some (.long xa), none, some (.int xb), none, none], [.int 1, .ref 0], w)) rfl ?_
    refine mz_doPQ (R := mz_r109) (as := [.ref 0, .int 1]) (rest := []) (r1 := some (.int (-1000001))) (m1 := mz_up w 64 1 ((w 64 1) + 1)) mz_t109 mz_v109_0 rfl rfl rfl rfl rfl ((cs_err1 (m := w)).deep (by decide)) ?_
    refine mz_retP (r := (some (.int ((-1000001))), mz_up w 64 1 ((w 64 1) + 1))) rfl ⟨(-1000001), rfl, ?_⟩
    refine mz_goP 3 (c' := (4, [some (.ref 65), some (.long xa), none, some (.int xb), none], [.int 8, .int 1, .int xb], mz_up w 64 1 ((w 64 1) + 1))) rfl ?_
    refine mz_doPQ (R := mz_r128) (as := [.int xb, .int 1, .int 8]) (rest := []) (r1 := some (.int (sm_bI (sm_in xb 1 8)))) (m1 := mz_up w 64 1 ((w 64 1) + 1)) mz_t128 mz_v128 rfl rfl rfl rfl rfl ((ct_in (m := mz_up w 64 1 ((w 64 1) + 1)) xb 1 8).deep (by decide)) ?_
    refine mz_goP 1 (c' := (if (sm_bI (sm_in xb 1 8)) = 0 then 10 else 16, [some (.ref 65), some (.long xa), none, some (.int xb), none], [], mz_up w 64 1 ((w 64 1) + 1))) rfl ?_
    refine mz_ifTP q1 ?_
    refine mz_goP 2 (c' := (12, [some (.ref 65), some (.long xa), none, some (.int xb), none], [.int 1, .ref 65], mz_up w 64 1 ((w 64 1) + 1))) rfl ?_
    refine mz_doPQ (R := mz_r127) (as := [.ref 65, .int 1]) (rest := []) (r1 := some (.int (-1000001))) (m1 := mz_up (mz_up w 64 1 ((w 64 1) + 1)) 68 1 ((w 68 1) + 1)) mz_t127 mz_v127_65 rfl rfl rfl rfl rfl ((ct_err1 (m := mz_up w 64 1 ((w 64 1) + 1))).deep (by decide)) ?_
    refine mz_retP (r := (some (.int ((-1000001))), mz_up (mz_up w 64 1 ((w 64 1) + 1)) 68 1 ((w 68 1) + 1))) rfl ⟨(-1000001), rfl, ?_, rfl⟩
    show sm_I (n + 1) (mz_up (mz_up w 64 1 ((w 64 1) + 1)) 68 1 ((w 68 1) + 1))
    exact sm_I_scr hn hI2 (fun i hi => by
      have hne : ∀ r, sm_scr r = true → i ≠ r := fun r hr e => by
        rw [e, hr] at hi
        cases hi
      simp only [mz_up_ne (hne 64 rfl), mz_up_ne (hne 68 rfl)]) rfl rfl
  · obtain ⟨jxb, hjxb, rfl⟩ := nI_of (by have hl : (1 : Int) ≤ (xb).toInt := Int32.le_iff_toInt_le.mp (Int32.not_lt.mp (sm_in_lo q1)); have hu : (xb).toInt ≤ (8 : Int) := Int32.le_iff_toInt_le.mp (Int32.not_lt.mp (sm_in_hi q1)); exact Int32.not_lt.mpr (Int32.le_iff_toInt_le.mpr (show (0 : Int) ≤ (xb).toInt by omega)))
    have zxb0 : ¬ jxb < 1 := fun z => (sm_in_lo q1) ((nI_ltI hjxb (by decide)).mpr z)
    have zxb1 : ¬ 8 < jxb := fun z => (sm_in_hi q1) ((nI_ltI (by decide) hjxb).mpr z)
    refine mz_goP 3 (c' := (4, [some (.ref 0), some (.long xa), none, some (.int (nI jxb)), none, none], [.int 8, .int 1, .int (nI jxb)], w)) rfl ?_
    refine mz_doPQ (R := mz_r121) (as := [.int (nI jxb), .int 1, .int 8]) (rest := []) (r1 := some (.int 1)) (m1 := w) mz_t121 mz_v121 rfl rfl rfl rfl rfl ((cs_in1 (m := w) (v := nI jxb) (a := 1) (b := 8) (show ¬ ((nI jxb) < 1) from (sm_in_lo q1)) (show ¬ (8 < (nI jxb)) from (sm_in_hi q1))).deep (by decide)) ?_
    refine mz_goP 7 (c' := (30, [some (.ref 0), some (.long xa), none, some (.int (nI jxb)), some (.ref 8), none], [.int (w 8 1)], w)) rfl ?_
    rw [h81]
    refine mz_goP 4 (c' := (if ((nI TT) + (nI jxb)) ≤ 60 then 43 else 37, [some (.ref 0), some (.long xa), none, some (.int (nI jxb)), some (.ref 8), none], [], w)) rfl ?_
    by_cases q2 : (TT + jxb) ≤ 60
    · refine mz_ifTP (show (((nI TT) + (nI jxb)) ≤ 60) from (sm_leN (sm_addN rfl rfl) rfl (show (TT + jxb) ≤ 60 by omega) (show 60 < 2 ^ 31 by omega))) ?_
      refine mz_goP 2 (c' := (46, [some (.ref 0), some (.long xa), none, some (.int (nI jxb)), some (.ref 8), some (.int 0)], [], w)) rfl ?_
      obtain ⟨gF, tF, htF, hgF, EF⟩ := cs_feedl (m := w) (x := xa) (T := TT) (n := jxb) (D := 99) (by omega) (by omega) jxb 0 (by omega) ((w) 9) ((w) 8) h81 (fun i => (if_neg (by omega)).symm)
      rw [show mz_set (mz_set (w) 9 ((w) 9)) 8 ((w) 8) = w from by rw [sm_id, sm_id]] at EF
      refine mz_hkP EF ?_
      refine mz_goP 2 (c' := (97, [some (.ref 0), some (.long xa), none, some (.int (nI jxb)), some (.ref 8), some (.int (nI jxb))], [.int (tF 1)], mz_set (mz_set w 9 gF) 8 tF)) rfl ?_
      rw [htF]
      refine mz_retP (r := (some (.int (nI (TT + jxb))), mz_set (mz_set w 9 gF) 8 tF)) rfl ⟨nI (TT + jxb), rfl, ?_⟩
      refine mz_goP 3 (c' := (4, [some (.ref 65), some (.long xa), none, some (.int (nI jxb)), none], [.int 8, .int 1, .int (nI jxb)], mz_set (mz_set w 9 gF) 8 tF)) rfl ?_
      refine mz_doPQ (R := mz_r128) (as := [.int (nI jxb), .int 1, .int 8]) (rest := []) (r1 := some (.int 1)) (m1 := mz_set (mz_set w 9 gF) 8 tF) mz_t128 mz_v128 rfl rfl rfl rfl rfl ((ct_in1 (m := mz_set (mz_set w 9 gF) 8 tF) (v := nI jxb) (a := 1) (b := 8) (show ¬ ((nI jxb) < 1) from (sm_in_lo q1)) (show ¬ (8 < (nI jxb)) from (sm_in_hi q1))).deep (by decide)) ?_
      refine mz_goP 5 (c' := (22, [some (.ref 65), some (.long xa), none, some (.int (nI jxb)), none], [.int (w 66 1)], mz_set (mz_set w 9 gF) 8 tF)) rfl ?_
      rw [h661]
      refine mz_goP 4 (c' := (if ((nI TT) + (nI jxb)) ≤ 60 then 35 else 29, [some (.ref 65), some (.long xa), none, some (.int (nI jxb)), none], [], mz_set (mz_set w 9 gF) 8 tF)) rfl ?_
      refine mz_ifTP (show (((nI TT) + (nI jxb)) ≤ 60) from (sm_leN (sm_addN rfl rfl) rfl (show (TT + jxb) ≤ 60 by omega) (show 60 < 2 ^ 31 by omega))) ?_
      refine mz_goP 2 (c' := (38, [some (.ref 65), some (.long xa), none, some (.int (nI jxb)), some (.int 0)], [], mz_set (mz_set w 9 gF) 8 tF)) rfl ?_
      obtain ⟨gG, hgG, EG⟩ := ct_feedl (m := mz_set (mz_set w 9 gF) 8 tF) (x := xa) (T := TT) (n := jxb) (D := 99) (by omega) (by omega) jxb 0 (by omega) ((mz_set (mz_set w 9 gF) 8 tF) 66) (fun i => by
        rw [if_neg (by omega)]
        by_cases e : i = 1
        · rw [if_pos e, e]
          exact h661
        · rw [if_neg e])
      rw [sm_id] at EG
      have hG1 : gG 1 = nI (TT + jxb) := by rw [hgG 1, if_neg (by omega), if_pos rfl]
      refine mz_hkP EG ?_
      refine mz_goP 4 (c' := (93, [some (.ref 65), some (.long xa), none, some (.int (nI jxb)), some (.int (nI jxb))], [.int (gG 1)], mz_set (mz_set (mz_set w 9 gF) 8 tF) 66 gG)) rfl ?_
      rw [hG1]
      refine mz_retP (r := (some (.int (nI (TT + jxb))), mz_set (mz_set (mz_set w 9 gF) 8 tF) 66 gG)) rfl ⟨nI (TT + jxb), rfl, ?_, rfl⟩
      show sm_I (n + 1) (mz_set (mz_set (mz_set w 9 gF) 8 tF) 66 gG)
      obtain ⟨-, ⟨d1, d2, d3, ⟨d4, d4b, d4c⟩, d5, d6, d7, d8⟩, da, db, dc⟩ := hI2
      have hs : ∀ i, i ≠ 1 → (i < 550 + TT ∨ 550 + TT + jxb ≤ i) → gG i = w 66 i := fun i h1 h2 => by
        rw [hgG i, if_neg (by omega), if_neg h1]
        rfl
      have hs : ∀ i, i ≠ 1 ∧ (i < 550 ∨ 610 ≤ i) → gG i = w 66 i := fun i h => hs i h.1 (by omega)
      have hb : ∀ i, i < 60 → sm_N 255 (gF i) ∧ gG (550 + i) = gF i := fun i hi => by
        rw [hgF i, hgG (550 + i)]
        by_cases e : TT ≤ i ∧ i < TT + jxb
        · rw [if_pos e, if_pos (by omega), show 550 + i - (550 + TT) = i - TT by omega]
          exact ⟨sm_by_N _ _, sm_by_eq _ (by omega)⟩
        · rw [if_neg e, if_neg (by omega), if_neg (by omega)]
          exact d3.2 i hi
      exact ⟨hn, ⟨sm_k1 (hs 0 (by omega)) (fun i h1 h2 => hs i (by omega)) d1, sm_k2 (fun i h1 h2 => hs i (by omega)) d2, ⟨⟨TT + jxb, by omega, htF, hG1⟩, hb⟩, ⟨sm_k4 (fun i h1 h2 => hs i (by omega)) d4, sm_k4 (fun i h1 h2 => hs i (by omega)) d4b, sm_k4 (fun i h1 h2 => hs i (by omega)) d4c⟩, sm_k5 (fun i h1 h2 => hs i (by omega)) d5, sm_k6 (fun i h1 h2 => hs i (by omega)) d6, sm_k7 (fun i h1 h2 => hs i (by omega)) d7, sm_k8 (hs 2 (by omega)) (hs 3 (by omega)) (fun i h1 h2 => hs i (by omega)) d8⟩, da, db, sm_cc_of (fun i h1 h2 => by simp only [mz_set_ne (show i ≠ 66 by omega), mz_set_ne (show i ≠ 8 by omega), mz_set_ne (show i ≠ 9 by omega)]) dc⟩
    · refine mz_ifFP (show ¬ (((nI TT) + (nI jxb)) ≤ 60) from (sm_nleN (sm_addN rfl rfl) rfl (show 60 < (TT + jxb) by omega) (show (TT + jxb) < 2 ^ 31 by omega))) ?_
      refine mz_goP 2 (c' := (39, [some (.ref 0), some (.long xa), none, some (.int (nI jxb)), some (.ref 8), none], [.int 4, .ref 0], w)) rfl ?_
      refine mz_doPQ (R := mz_r109) (as := [.ref 0, .int 4]) (rest := []) (r1 := some (.int (-1000004))) (m1 := mz_up w 64 4 ((w 64 4) + 1)) mz_t109 mz_v109_0 rfl rfl rfl rfl rfl ((cs_err4 (m := w)).deep (by decide)) ?_
      refine mz_retP (r := (some (.int ((-1000004))), mz_up w 64 4 ((w 64 4) + 1))) rfl ⟨(-1000004), rfl, ?_⟩
      refine mz_goP 3 (c' := (4, [some (.ref 65), some (.long xa), none, some (.int (nI jxb)), none], [.int 8, .int 1, .int (nI jxb)], mz_up w 64 4 ((w 64 4) + 1))) rfl ?_
      refine mz_doPQ (R := mz_r128) (as := [.int (nI jxb), .int 1, .int 8]) (rest := []) (r1 := some (.int 1)) (m1 := mz_up w 64 4 ((w 64 4) + 1)) mz_t128 mz_v128 rfl rfl rfl rfl rfl ((ct_in1 (m := mz_up w 64 4 ((w 64 4) + 1)) (v := nI jxb) (a := 1) (b := 8) (show ¬ ((nI jxb) < 1) from (sm_in_lo q1)) (show ¬ (8 < (nI jxb)) from (sm_in_hi q1))).deep (by decide)) ?_
      refine mz_goP 5 (c' := (22, [some (.ref 65), some (.long xa), none, some (.int (nI jxb)), none], [.int (w 66 1)], mz_up w 64 4 ((w 64 4) + 1))) rfl ?_
      rw [h661]
      refine mz_goP 4 (c' := (if ((nI TT) + (nI jxb)) ≤ 60 then 35 else 29, [some (.ref 65), some (.long xa), none, some (.int (nI jxb)), none], [], mz_up w 64 4 ((w 64 4) + 1))) rfl ?_
      refine mz_ifFP (show ¬ (((nI TT) + (nI jxb)) ≤ 60) from (sm_nleN (sm_addN rfl rfl) rfl (show 60 < (TT + jxb) by omega) (show (TT + jxb) < 2 ^ 31 by omega))) ?_
      refine mz_goP 2 (c' := (31, [some (.ref 65), some (.long xa), none, some (.int (nI jxb)), none], [.int 4, .ref 65], mz_up w 64 4 ((w 64 4) + 1))) rfl ?_
      refine mz_doPQ (R := mz_r127) (as := [.ref 65, .int 4]) (rest := []) (r1 := some (.int (-1000004))) (m1 := mz_up (mz_up w 64 4 ((w 64 4) + 1)) 68 4 ((w 68 4) + 1)) mz_t127 mz_v127_65 rfl rfl rfl rfl rfl ((ct_err4 (m := mz_up w 64 4 ((w 64 4) + 1))).deep (by decide)) ?_
      refine mz_retP (r := (some (.int ((-1000004))), mz_up (mz_up w 64 4 ((w 64 4) + 1)) 68 4 ((w 68 4) + 1))) rfl ⟨(-1000004), rfl, ?_, rfl⟩
      show sm_I (n + 1) (mz_up (mz_up w 64 4 ((w 64 4) + 1)) 68 4 ((w 68 4) + 1))
      exact sm_I_scr hn hI2 (fun i hi => by
        have hne : ∀ r, sm_scr r = true → i ≠ r := fun r hr e => by
          rw [e, hr] at hi
          cases hi
        simp only [mz_up_ne (hne 64 rfl), mz_up_ne (hne 68 rfl)]) rfl rfl
