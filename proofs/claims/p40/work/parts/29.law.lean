theorem lw_eL {xs : Nat → Int32} {L : Nat} {m m1 : mz_M} {d : Nat} {R : mz_R} {as : List Value} {r : Option Value} (h : mz_Me d R as m r m1) (e : (∀ j, m 3000 j = xs j) ∧ (m 3001 0).toNatClampNeg = L) : (∀ j, m1 3000 j = xs j) ∧ (m1 3001 0).toNatClampNeg = L := by
  have h1 : m1 3000 = m 3000 := mz_Me_keep h (by decide)
  have h2 : m1 3001 = m 3001 := mz_Me_keep h (by decide)
  rw [h1, h2]
  exact e
theorem sm_law6 {L : Nat} (hL : L ≤ 384) : (nI L - 6).toInt = (L : Int) - 6 := by
  have e1 := nI_toInt (show L < 2 ^ 31 by omega)
  have e2 : (6 : Int32).toInt = 6 := by decide
  rw [sm_sub (by omega) (by omega), e1, e2]
theorem sm_law {L i : Nat} (hL : L ≤ 384) (hi : i + 6 ≤ L) (h2 : i < 2 ^ 31) : ¬ nI L - 6 < nI i := by
  rw [Int32.lt_iff_toInt_lt, sm_law6 hL, nI_toInt h2]
  omega
theorem sm_lawX {L i : Nat} (hL : L ≤ 384) (hi : L < i + 6) (h2 : i < 2 ^ 31) : nI L - 6 < nI i := by
  rw [Int32.lt_iff_toInt_lt, sm_law6 hL, nI_toInt h2]
  omega
/-! the start -/
theorem mz_i66 {xs : Nat → Int32} {L k : Nat} (h : 16 ≤ k) : mz_i xs L 66 k = 0 := by
  have e : ∀ c, c < 16 → (k == c) = false := fun c hc => beq_eq_false_iff_ne.mpr (by omega)
  show cond (k == 3) 1 (cond (k == 10) 5 (cond (k == 11) 10 (cond (k == 12) 60 (cond (k == 13) 8 (cond (k == 14) 4 (cond (k == 15) 1 0)))))) = 0
  rw [e 3 (by decide), e 10 (by decide), e 11 (by decide), e 12 (by decide), e 13 (by decide), e 14 (by decide), e 15 (by decide)]
  rfl
theorem sm_N0 {n : Nat} : sm_N n 0 := by
  unfold sm_N
  rw [Int32.toInt_zero]
  omega
theorem sm_B0 {n : Nat} : sm_B n 0 := by
  unfold sm_B
  rw [Int32.toInt_zero]
  omega
theorem sm_start (xs : Nat → Int32) (L : Nat) : sm_I 0 (mz_i xs L) := by
  have z : ∀ k, 16 ≤ k → mz_i xs L 66 k = 0 := fun k h => mz_i66 h
  refine ⟨by decide, ⟨⟨⟨0, by decide, rfl, rfl⟩, fun i hi => ⟨⟨sm_N0, sm_B0, sm_B0, sm_N0⟩, z _ (by omega), z _ (by omega), z _ (by omega), z _ (by omega)⟩⟩, ⟨?_, Or.inl rfl, ?_⟩, ⟨⟨0, by decide, rfl, rfl⟩, fun i hi => ⟨sm_N0, z _ (by omega)⟩⟩, ⟨⟨0, rfl, z _ (by decide), Or.inl rfl, fun k hk => absurd hk (Nat.not_lt_zero k)⟩, ⟨0, rfl, z _ (by decide), Or.inl rfl, fun k hk => absurd hk (Nat.not_lt_zero k)⟩, ⟨0, rfl, z _ (by decide), Or.inl rfl, fun k hk => absurd hk (Nat.not_lt_zero k)⟩⟩, ⟨sm_B0, sm_B0, z _ (by decide), z _ (by decide), z _ (by decide), z _ (by decide), z _ (by decide)⟩, ⟨⟨0, 0, by decide, by decide, Iff.rfl, rfl, rfl, z _ (by decide), z _ (by decide)⟩, z _ (by decide), z _ (by decide), z _ (by decide), fun i hi => ⟨Or.inl sm_N0, z _ (by omega), z _ (by omega)⟩⟩, ⟨Or.inl rfl, z _ (by decide), fun i hi => z _ (by omega)⟩, ⟨⟨0, by decide, rfl, rfl⟩, rfl, fun i hi => z _ (by omega)⟩⟩, ⟨fun i hi => ⟨Or.inl rfl, sm_N0, rfl, rfl⟩, fun i hi => rfl⟩, ⟨sm_N0, sm_N0⟩, ⟨0, by decide, rfl, rfl, fun h => absurd h (by decide)⟩⟩
  · show sm_N 80 60
    exact sm_Nto (n := 80) (k := 60) (by decide) (by decide)
  · intro i hi
    rcases (show i = 0 ∨ i = 1 ∨ i = 2 ∨ i = 3 ∨ i = 4 ∨ i = 5 by omega) with rfl | rfl | rfl | rfl | rfl | rfl <;> rfl
/-! the law's code in pieces: a short list to look an instruction up in -/
noncomputable def mz_Sub (A K : mz_K) : Prop := ∀ pc e, mz_fetch A pc = some e → mz_fetch K pc = some e
theorem mz_fetch_mem : ∀ {A : mz_K} {pc : Nat} {e : mz_E}, mz_fetch A pc = some e → e ∈ A ∧ e.1 = pc := by
  intro A
  induction A with
  | nil =>
    intro pc e h
    cases h
  | cons a A ih =>
    intro pc e h
    unfold mz_fetch at h
    cases hb : (a.1 == pc) with
    | true =>
      rw [hb] at h
      cases h
      exact ⟨List.mem_cons_self, by simpa using hb⟩
    | false =>
      rw [hb] at h
      obtain ⟨h1, h2⟩ := ih h
      exact ⟨List.mem_cons_of_mem _ h1, h2⟩
/-- the places rise -/
noncomputable def mz_up1 : Nat → mz_K → Bool
  | _, [] => true
  | n, e :: r => Nat.ble n e.1 && mz_up1 (e.1 + 1) r
theorem mz_up1_ge : ∀ {K : mz_K} {n : Nat}, mz_up1 n K = true → ∀ e ∈ K, n ≤ e.1 := by
  intro K
  induction K with
  | nil =>
    intro n _ e he
    cases he
  | cons a K ih =>
    intro n h e he
    unfold mz_up1 at h
    rw [Bool.and_eq_true] at h
    have h1 := Nat.le_of_ble_eq_true h.1
    rcases List.mem_cons.mp he with rfl | he
    · exact h1
    · have := ih h.2 e he
      omega
theorem mz_fetch_of : ∀ {K : mz_K} {n : Nat}, mz_up1 n K = true → ∀ e ∈ K, mz_fetch K e.1 = some e := by
  intro K
  induction K with
  | nil =>
    intro n _ e he
    cases he
  | cons a K ih =>
    intro n h e he
    unfold mz_up1 at h
    rw [Bool.and_eq_true] at h
    show cond (a.1 == e.1) (some a) (mz_fetch K e.1) = some e
    rcases List.mem_cons.mp he with rfl | he
    · rw [beq_self_eq_true]
      rfl
    · have h2 := mz_up1_ge h.2 e he
      rw [beq_eq_false_iff_ne.mpr (show a.1 ≠ e.1 by omega)]
      exact ih h.2 e he
theorem mz_sub_of {A K : mz_K} {n : Nat} (hK : mz_up1 n K = true) (h : ∀ e ∈ A, e ∈ K) : mz_Sub A K := fun pc e he => by
  obtain ⟨h1, h2⟩ := mz_fetch_mem he
  rw [← h2]
  exact mz_fetch_of hK e (h e h1)
theorem mz_sts_sub {A K : mz_K} (hS : mz_Sub A K) : ∀ (k : Nat) {c c' : mz_C}, mz_sts A k c = some c' → mz_sts K k c = some c' := by
  intro k
  induction k with
  | zero =>
    intro c c' h
    exact h
  | succ k ih =>
    intro c c' h
    obtain ⟨pc, L, S, m⟩ := c
    unfold mz_sts at h ⊢
    split at h
    · rename_i e he
      rw [hS _ _ he]
      simp only
      split at h
      · rename_i c1 hs
        exact ih h
      · cases h
    · cases h
theorem mz_cl_sub {A K : mz_K} (hS : mz_Sub A K) {c : mz_C} {x : mz_R × List Value × List Value} (h : mz_cl A c = some x) : mz_cl K c = some x := by
  unfold mz_cl at h ⊢
  split at h
  · rename_i e he
    rw [hS _ _ he]
    exact h
  · cases h
theorem mz_stA_sub {A K : mz_K} (hS : mz_Sub A K) {c : mz_C} {x : Nat × Int32 × mz_C} (h : mz_stA A c = some x) : mz_stA K c = some x := by
  unfold mz_stA at h ⊢
  split at h
  · rename_i e he
    rw [hS _ _ he]
    exact h
  · cases h
theorem mz_stW_sub {A K : mz_K} (hS : mz_Sub A K) {c : mz_C} {x : Int × Int × Int32 × mz_C} (h : mz_stW A c = some x) : mz_stW K c = some x := by
  unfold mz_stW at h ⊢
  split at h
  · rename_i e he
    rw [hS _ _ he]
    exact h
  · cases h
theorem mz_goS {d : Nat} {A K : mz_K} {r : Option Value × mz_M} (hS : mz_Sub A K) (k : Nat) {c c' : mz_C} (h : mz_sts A k c = some c') (E : mz_Ex d K c' r) : mz_Ex d K c r := mz_go k (mz_sts_sub hS k h) E
theorem mz_doS {d : Nat} {A K : mz_K} {r : Option Value × mz_M} (hS : mz_Sub A K) {pc : Nat} {L : List (Option Value)} {S : List Value} {m : mz_M} {R : mz_R} {as rest : List Value} {r1 : Option Value} {m1 : mz_M} (h : mz_cl A (pc, L, S, m) = some (R, as, rest)) (hM : mz_Me d R as m r1 m1) (E : mz_Ex (d + 1) K (pc + 3, L, r1.toList ++ rest, m1) r) : mz_Ex (d + 1) K (pc, L, S, m) r := mz_do (mz_cl_sub hS h) hM E
theorem mz_arrS {d : Nat} {A K : mz_K} {r : Option Value × mz_M} (hS : mz_Sub A K) {c c' : mz_C} {n : Nat} {j : Int32} (h : mz_stA A c = some (n, j, c')) (hin : mz_in j n = true) (E : mz_Ex d K c' r) : mz_Ex d K c r := mz_arr (mz_stA_sub hS h) hin E
theorem mz_swdS {d : Nat} {A K : mz_K} {r : Option Value × mz_M} (hS : mz_Sub A K) {c c' : mz_C} {lo hi : Int} {x : Int32} (h : mz_stW A c = some (lo, hi, x, c')) (hx : x.toInt < lo ∨ hi < x.toInt) (E : mz_Ex d K c' r) : mz_Ex d K c r := mz_swd (mz_stW_sub hS h) hx E
theorem mz_mem_pc {K : mz_K} {a b : Nat} {A : mz_K} (h : A = (K.drop a).take b) : ∀ e ∈ A, e ∈ K := fun e he => by
  rw [h] at he
  exact List.mem_of_mem_drop (List.mem_of_mem_take he)
theorem mz_mem_two {K A B : mz_K} (hA : ∀ e ∈ A, e ∈ K) (hB : ∀ e ∈ B, e ∈ K) : ∀ e ∈ A ++ B, e ∈ K := fun e he => (List.mem_append.mp he).elim (hA e) (hB e)
set_option maxRecDepth 100000 in
theorem mz_upL : mz_up1 0 mz_kL = true := by decide +kernel
noncomputable def mz_kh : mz_K := [
  (18, .iload_n 3, 1, 0, 0, 0, 0),
  (19, .aload_n 0, 1, 0, 0, 0, 0),
  (20, .arraylength, 1, 0, 0, 0, 0),
  (21, .bipush 6, 2, 20, 6, 0, 0),
  (23, .isub, 1, 0, 0, 0, 0),
  (24, .if_icmp .gt 1564, 3, 0, 0, 0, 0),
  (27, .aload_n 0, 1, 0, 0, 0, 0),
  (28, .iload_n 3, 1, 0, 0, 0, 0),
  (29, .iaload, 1, 0, 0, 0, 0),
  (30, .bipush 63, 2, 20, 63, 0, 0),
  (32, .iand, 1, 0, 0, 0, 0),
  (33, .tableswitch 1549 0 41 #[183, 236, 269, 302, 355, 368, 401, 444, 507, 530, 553, 586, 619, 642, 665, 718, 751, 784, 817, 870, 903, 926, 959, 982, 1025, 1048, 1071, 1094, 1147, 1170, 1193, 1236, 1259, 1302, 1345, 1408, 1431, 1444, 1457, 1480, 1503, 1526], 183, 0, 0, 0, 0)]
noncomputable def mz_kz : mz_K := [
  (1582, .iinc 3 6, 3, 20, 6, 0, 0),
  (1585, .goto (-1567), 3, 0, 0, 0, 0),
  (1588, .iconst 1, 1, 20, 1, 0, 0),
  (1589, .ireturn, 1, 0, 0, 0, 0)]
set_option maxRecDepth 100000 in
theorem mz_khM : ∀ e ∈ mz_kh, e ∈ mz_kL := mz_mem_pc (show mz_kh = (mz_kL.drop 10).take 12 from rfl)
set_option maxRecDepth 100000 in
theorem mz_kzM : ∀ e ∈ mz_kz, e ∈ mz_kL := mz_mem_pc (show mz_kz = (mz_kL.drop 1130).take 4 from rfl)
noncomputable def mz_kc0 : mz_K := [
  (216, .aload_n 1, 1, 0, 0, 0, 0),
  (217, .aload_n 0, 1, 0, 0, 0, 0),
  (218, .iload_n 3, 1, 0, 0, 0, 0),
  (219, .iconst 1, 1, 20, 1, 0, 0),
  (220, .iadd, 1, 0, 0, 0, 0),
  (221, .iaload, 1, 0, 0, 0, 0),
  (222, .aload_n 0, 1, 0, 0, 0, 0),
  (223, .iload_n 3, 1, 0, 0, 0, 0),
  (224, .iconst 2, 1, 20, 2, 0, 0),
  (225, .iadd, 1, 0, 0, 0, 0),
  (226, .iaload, 1, 0, 0, 0, 0),
  (227, .aload_n 0, 1, 0, 0, 0, 0),
  (228, .iload_n 3, 1, 0, 0, 0, 0),
  (229, .iconst 3, 1, 20, 3, 0, 0),
  (230, .iadd, 1, 0, 0, 0, 0),
  (231, .iaload, 1, 0, 0, 0, 0),
  (232, .aload_n 0, 1, 0, 0, 0, 0),
  (233, .iload_n 3, 1, 0, 0, 0, 0),
  (234, .iconst 4, 1, 20, 4, 0, 0),
  (235, .iadd, 1, 0, 0, 0, 0),
  (236, .iaload, 1, 0, 0, 0, 0),
  (237, .invokevirtual 13, 3, 3, 67, 0, 2122),
  (240, .pop, 1, 0, 0, 0, 0),
  (241, .aload_n 2, 1, 0, 0, 0, 0),
  (242, .aload_n 0, 1, 0, 0, 0, 0),
  (243, .iload_n 3, 1, 0, 0, 0, 0),
  (244, .iconst 1, 1, 20, 1, 0, 0),
  (245, .iadd, 1, 0, 0, 0, 0),
  (246, .iaload, 1, 0, 0, 0, 0),
  (247, .aload_n 0, 1, 0, 0, 0, 0),
  (248, .iload_n 3, 1, 0, 0, 0, 0),
  (249, .iconst 2, 1, 20, 2, 0, 0),
  (250, .iadd, 1, 0, 0, 0, 0),
  (251, .iaload, 1, 0, 0, 0, 0),
  (252, .aload_n 0, 1, 0, 0, 0, 0),
  (253, .iload_n 3, 1, 0, 0, 0, 0),
  (254, .iconst 3, 1, 20, 3, 0, 0),
  (255, .iadd, 1, 0, 0, 0, 0),
  (256, .iaload, 1, 0, 0, 0, 0),
  (257, .aload_n 0, 1, 0, 0, 0, 0),
  (258, .iload_n 3, 1, 0, 0, 0, 0),
  (259, .iconst 4, 1, 20, 4, 0, 0),
  (260, .iadd, 1, 0, 0, 0, 0),
  (261, .iaload, 1, 0, 0, 0, 0),
  (262, .invokevirtual 17, 3, 3, 137, 0, 5119),
  (265, .pop, 1, 0, 0, 0, 0),
  (266, .goto 1316, 3, 0, 0, 0, 0)]
set_option maxRecDepth 100000 in
theorem mz_ks0 : mz_Sub (mz_kh ++ (mz_kc0 ++ mz_kz)) mz_kL := mz_sub_of mz_upL (mz_mem_two mz_khM (mz_mem_two (mz_mem_pc (show mz_kc0 = (mz_kL.drop 22).take 47 from rfl)) mz_kzM))
noncomputable def mz_kc1 : mz_K := [
  (269, .aload_n 1, 1, 0, 0, 0, 0),
  (270, .aload_n 0, 1, 0, 0, 0, 0),
  (271, .iload_n 3, 1, 0, 0, 0, 0),
  (272, .iconst 1, 1, 20, 1, 0, 0),
  (273, .iadd, 1, 0, 0, 0, 0),
  (274, .iaload, 1, 0, 0, 0, 0),
  (275, .aload_n 0, 1, 0, 0, 0, 0),
  (276, .iload_n 3, 1, 0, 0, 0, 0),
  (277, .iconst 2, 1, 20, 2, 0, 0),
  (278, .iadd, 1, 0, 0, 0, 0),
  (279, .iaload, 1, 0, 0, 0, 0),
  (280, .invokevirtual 18, 3, 3, 68, 0, 2152),
  (283, .pop, 1, 0, 0, 0, 0),
  (284, .aload_n 2, 1, 0, 0, 0, 0),
  (285, .aload_n 0, 1, 0, 0, 0, 0),
  (286, .iload_n 3, 1, 0, 0, 0, 0),
  (287, .iconst 1, 1, 20, 1, 0, 0),
  (288, .iadd, 1, 0, 0, 0, 0),
  (289, .iaload, 1, 0, 0, 0, 0),
  (290, .aload_n 0, 1, 0, 0, 0, 0),
  (291, .iload_n 3, 1, 0, 0, 0, 0),
  (292, .iconst 2, 1, 20, 2, 0, 0),
  (293, .iadd, 1, 0, 0, 0, 0),
  (294, .iaload, 1, 0, 0, 0, 0),
  (295, .invokevirtual 22, 3, 3, 138, 0, 5141),
  (298, .pop, 1, 0, 0, 0, 0),
  (299, .goto 1283, 3, 0, 0, 0, 0)]
set_option maxRecDepth 100000 in
theorem mz_ks1 : mz_Sub (mz_kh ++ (mz_kc1 ++ mz_kz)) mz_kL := mz_sub_of mz_upL (mz_mem_two mz_khM (mz_mem_two (mz_mem_pc (show mz_kc1 = (mz_kL.drop 69).take 27 from rfl)) mz_kzM))
noncomputable def mz_kc2 : mz_K := [
  (302, .aload_n 1, 1, 0, 0, 0, 0),
  (303, .aload_n 0, 1, 0, 0, 0, 0),
  (304, .iload_n 3, 1, 0, 0, 0, 0),
  (305, .iconst 1, 1, 20, 1, 0, 0),
  (306, .iadd, 1, 0, 0, 0, 0),
  (307, .iaload, 1, 0, 0, 0, 0),
  (308, .aload_n 0, 1, 0, 0, 0, 0),
  (309, .iload_n 3, 1, 0, 0, 0, 0),
  (310, .iconst 2, 1, 20, 2, 0, 0),
  (311, .iadd, 1, 0, 0, 0, 0),
  (312, .iaload, 1, 0, 0, 0, 0),
  (313, .invokevirtual 23, 3, 3, 69, 0, 2201),
  (316, .pop, 1, 0, 0, 0, 0),
  (317, .aload_n 2, 1, 0, 0, 0, 0),
  (318, .aload_n 0, 1, 0, 0, 0, 0),
  (319, .iload_n 3, 1, 0, 0, 0, 0),
  (320, .iconst 1, 1, 20, 1, 0, 0),
  (321, .iadd, 1, 0, 0, 0, 0),
  (322, .iaload, 1, 0, 0, 0, 0),
  (323, .aload_n 0, 1, 0, 0, 0, 0),
  (324, .iload_n 3, 1, 0, 0, 0, 0),
  (325, .iconst 2, 1, 20, 2, 0, 0),
  (326, .iadd, 1, 0, 0, 0, 0),
  (327, .iaload, 1, 0, 0, 0, 0),
  (328, .invokevirtual 26, 3, 3, 139, 0, 5186),
  (331, .pop, 1, 0, 0, 0, 0),
  (332, .goto 1250, 3, 0, 0, 0, 0)]
set_option maxRecDepth 100000 in
theorem mz_ks2 : mz_Sub (mz_kh ++ (mz_kc2 ++ mz_kz)) mz_kL := mz_sub_of mz_upL (mz_mem_two mz_khM (mz_mem_two (mz_mem_pc (show mz_kc2 = (mz_kL.drop 96).take 27 from rfl)) mz_kzM))
noncomputable def mz_kc3 : mz_K := [
  (335, .aload_n 1, 1, 0, 0, 0, 0),
  (336, .aload_n 0, 1, 0, 0, 0, 0),
  (337, .iload_n 3, 1, 0, 0, 0, 0),
  (338, .iconst 1, 1, 20, 1, 0, 0),
  (339, .iadd, 1, 0, 0, 0, 0),
  (340, .iaload, 1, 0, 0, 0, 0),
  (341, .aload_n 0, 1, 0, 0, 0, 0),
  (342, .iload_n 3, 1, 0, 0, 0, 0),
  (343, .iconst 2, 1, 20, 2, 0, 0),
  (344, .iadd, 1, 0, 0, 0, 0),
  (345, .iaload, 1, 0, 0, 0, 0),
  (346, .aload_n 0, 1, 0, 0, 0, 0),
  (347, .iload_n 3, 1, 0, 0, 0, 0),
  (348, .iconst 3, 1, 20, 3, 0, 0),
  (349, .iadd, 1, 0, 0, 0, 0),
  (350, .iaload, 1, 0, 0, 0, 0),
  (351, .aload_n 0, 1, 0, 0, 0, 0),
  (352, .iload_n 3, 1, 0, 0, 0, 0),
  (353, .iconst 4, 1, 20, 4, 0, 0),
  (354, .iadd, 1, 0, 0, 0, 0),
  (355, .iaload, 1, 0, 0, 0, 0),
  (356, .invokevirtual 27, 3, 3, 70, 0, 2210),
  (359, .pop, 1, 0, 0, 0, 0),
  (360, .aload_n 2, 1, 0, 0, 0, 0),
  (361, .aload_n 0, 1, 0, 0, 0, 0),
  (362, .iload_n 3, 1, 0, 0, 0, 0),
  (363, .iconst 1, 1, 20, 1, 0, 0),
  (364, .iadd, 1, 0, 0, 0, 0),
  (365, .iaload, 1, 0, 0, 0, 0),
  (366, .aload_n 0, 1, 0, 0, 0, 0),
  (367, .iload_n 3, 1, 0, 0, 0, 0),
  (368, .iconst 2, 1, 20, 2, 0, 0),
  (369, .iadd, 1, 0, 0, 0, 0),
  (370, .iaload, 1, 0, 0, 0, 0),
  (371, .aload_n 0, 1, 0, 0, 0, 0),
  (372, .iload_n 3, 1, 0, 0, 0, 0),
  (373, .iconst 3, 1, 20, 3, 0, 0),
  (374, .iadd, 1, 0, 0, 0, 0),
  (375, .iaload, 1, 0, 0, 0, 0),
  (376, .aload_n 0, 1, 0, 0, 0, 0),
  (377, .iload_n 3, 1, 0, 0, 0, 0),
  (378, .iconst 4, 1, 20, 4, 0, 0),
  (379, .iadd, 1, 0, 0, 0, 0),
  (380, .iaload, 1, 0, 0, 0, 0),
  (381, .invokevirtual 30, 3, 3, 140, 0, 5193),
  (384, .pop, 1, 0, 0, 0, 0),
  (385, .goto 1197, 3, 0, 0, 0, 0)]
set_option maxRecDepth 100000 in
theorem mz_ks3 : mz_Sub (mz_kh ++ (mz_kc3 ++ mz_kz)) mz_kL := mz_sub_of mz_upL (mz_mem_two mz_khM (mz_mem_two (mz_mem_pc (show mz_kc3 = (mz_kL.drop 123).take 47 from rfl)) mz_kzM))
noncomputable def mz_kc4 : mz_K := [
  (388, .aload_n 1, 1, 0, 0, 0, 0),
  (389, .invokevirtual 31, 3, 3, 71, 0, 2214),
  (392, .pop, 1, 0, 0, 0, 0),
  (393, .aload_n 2, 1, 0, 0, 0, 0),
  (394, .invokevirtual 35, 3, 3, 141, 0, 5197),
  (397, .pop, 1, 0, 0, 0, 0),
  (398, .goto 1184, 3, 0, 0, 0, 0)]
set_option maxRecDepth 100000 in
theorem mz_ks4 : mz_Sub (mz_kh ++ (mz_kc4 ++ mz_kz)) mz_kL := mz_sub_of mz_upL (mz_mem_two mz_khM (mz_mem_two (mz_mem_pc (show mz_kc4 = (mz_kL.drop 170).take 7 from rfl)) mz_kzM))
noncomputable def mz_kc5 : mz_K := [
  (401, .aload_n 1, 1, 0, 0, 0, 0),
  (402, .aload_n 0, 1, 0, 0, 0, 0),
  (403, .iload_n 3, 1, 0, 0, 0, 0),
  (404, .iconst 1, 1, 20, 1, 0, 0),
  (405, .iadd, 1, 0, 0, 0, 0),
  (406, .iaload, 1, 0, 0, 0, 0),
  (407, .aload_n 0, 1, 0, 0, 0, 0),
  (408, .iload_n 3, 1, 0, 0, 0, 0),
  (409, .iconst 2, 1, 20, 2, 0, 0),
  (410, .iadd, 1, 0, 0, 0, 0),
  (411, .iaload, 1, 0, 0, 0, 0),
  (412, .invokevirtual 36, 3, 3, 72, 0, 2218),
  (415, .pop, 1, 0, 0, 0, 0),
  (416, .aload_n 2, 1, 0, 0, 0, 0),
  (417, .aload_n 0, 1, 0, 0, 0, 0),
  (418, .iload_n 3, 1, 0, 0, 0, 0),
  (419, .iconst 1, 1, 20, 1, 0, 0),
  (420, .iadd, 1, 0, 0, 0, 0),
  (421, .iaload, 1, 0, 0, 0, 0),
  (422, .aload_n 0, 1, 0, 0, 0, 0),
  (423, .iload_n 3, 1, 0, 0, 0, 0),
  (424, .iconst 2, 1, 20, 2, 0, 0),
  (425, .iadd, 1, 0, 0, 0, 0),
  (426, .iaload, 1, 0, 0, 0, 0),
  (427, .invokevirtual 39, 3, 3, 143, 0, 5201),
  (430, .pop, 1, 0, 0, 0, 0),
  (431, .goto 1151, 3, 0, 0, 0, 0)]
set_option maxRecDepth 100000 in
theorem mz_ks5 : mz_Sub (mz_kh ++ (mz_kc5 ++ mz_kz)) mz_kL := mz_sub_of mz_upL (mz_mem_two mz_khM (mz_mem_two (mz_mem_pc (show mz_kc5 = (mz_kL.drop 177).take 27 from rfl)) mz_kzM))
noncomputable def mz_kc6 : mz_K := [
  (434, .aload_n 1, 1, 0, 0, 0, 0),
  (435, .aload_n 0, 1, 0, 0, 0, 0),
  (436, .iload_n 3, 1, 0, 0, 0, 0),
  (437, .iconst 1, 1, 20, 1, 0, 0),
  (438, .iadd, 1, 0, 0, 0, 0),
  (439, .iaload, 1, 0, 0, 0, 0),
  (440, .aload_n 0, 1, 0, 0, 0, 0),
  (441, .iload_n 3, 1, 0, 0, 0, 0),
  (442, .iconst 2, 1, 20, 2, 0, 0),
  (443, .iadd, 1, 0, 0, 0, 0),
  (444, .iaload, 1, 0, 0, 0, 0),
  (445, .aload_n 0, 1, 0, 0, 0, 0),
  (446, .iload_n 3, 1, 0, 0, 0, 0),
  (447, .iconst 3, 1, 20, 3, 0, 0),
  (448, .iadd, 1, 0, 0, 0, 0),
  (449, .iaload, 1, 0, 0, 0, 0),
  (450, .invokevirtual 40, 3, 3, 73, 0, 2226),
  (453, .pop, 1, 0, 0, 0, 0),
  (454, .aload_n 2, 1, 0, 0, 0, 0),
  (455, .aload_n 0, 1, 0, 0, 0, 0),
  (456, .iload_n 3, 1, 0, 0, 0, 0),
  (457, .iconst 1, 1, 20, 1, 0, 0),
  (458, .iadd, 1, 0, 0, 0, 0),
  (459, .iaload, 1, 0, 0, 0, 0),
  (460, .aload_n 0, 1, 0, 0, 0, 0),
  (461, .iload_n 3, 1, 0, 0, 0, 0),
  (462, .iconst 2, 1, 20, 2, 0, 0),
  (463, .iadd, 1, 0, 0, 0, 0),
  (464, .iaload, 1, 0, 0, 0, 0),
  (465, .aload_n 0, 1, 0, 0, 0, 0),
  (466, .iload_n 3, 1, 0, 0, 0, 0),
  (467, .iconst 3, 1, 20, 3, 0, 0),
  (468, .iadd, 1, 0, 0, 0, 0),
  (469, .iaload, 1, 0, 0, 0, 0),
  (470, .invokevirtual 44, 3, 3, 157, 0, 5208),
  (473, .pop, 1, 0, 0, 0, 0),
  (474, .goto 1108, 3, 0, 0, 0, 0)]
set_option maxRecDepth 100000 in
theorem mz_ks6 : mz_Sub (mz_kh ++ (mz_kc6 ++ mz_kz)) mz_kL := mz_sub_of mz_upL (mz_mem_two mz_khM (mz_mem_two (mz_mem_pc (show mz_kc6 = (mz_kL.drop 204).take 37 from rfl)) mz_kzM))
noncomputable def mz_kc7 : mz_K := [
  (477, .aload_n 1, 1, 0, 0, 0, 0),
  (478, .aload_n 0, 1, 0, 0, 0, 0),
  (479, .iload_n 3, 1, 0, 0, 0, 0),
  (480, .iconst 1, 1, 20, 1, 0, 0),
  (481, .iadd, 1, 0, 0, 0, 0),
  (482, .iaload, 1, 0, 0, 0, 0),
  (483, .i2l, 1, 0, 0, 0, 0),
  (484, .bipush 32, 2, 20, 32, 0, 0),
  (486, .lshl, 1, 0, 0, 0, 0),
  (487, .aload_n 0, 1, 0, 0, 0, 0),
  (488, .iload_n 3, 1, 0, 0, 0, 0),
  (489, .iconst 2, 1, 20, 2, 0, 0),
  (490, .iadd, 1, 0, 0, 0, 0),
  (491, .iaload, 1, 0, 0, 0, 0),
  (492, .i2l, 1, 0, 0, 0, 0),
  (493, .ldc2_w 45, 3, 23, 4294967295, 0, 7042),
  (496, .land, 1, 0, 0, 0, 0),
  (497, .lor, 1, 0, 0, 0, 0),
  (498, .aload_n 0, 1, 0, 0, 0, 0),
  (499, .iload_n 3, 1, 0, 0, 0, 0),
  (500, .iconst 3, 1, 20, 3, 0, 0),
  (501, .iadd, 1, 0, 0, 0, 0),
  (502, .iaload, 1, 0, 0, 0, 0),
  (503, .invokevirtual 47, 3, 3, 74, 0, 2239),
  (506, .pop, 1, 0, 0, 0, 0),
  (507, .aload_n 2, 1, 0, 0, 0, 0),
  (508, .aload_n 0, 1, 0, 0, 0, 0),
  (509, .iload_n 3, 1, 0, 0, 0, 0),
  (510, .iconst 1, 1, 20, 1, 0, 0),
  (511, .iadd, 1, 0, 0, 0, 0),
  (512, .iaload, 1, 0, 0, 0, 0),
  (513, .i2l, 1, 0, 0, 0, 0),
  (514, .bipush 32, 2, 20, 32, 0, 0),
  (516, .lshl, 1, 0, 0, 0, 0),
  (517, .aload_n 0, 1, 0, 0, 0, 0),
  (518, .iload_n 3, 1, 0, 0, 0, 0),
  (519, .iconst 2, 1, 20, 2, 0, 0),
  (520, .iadd, 1, 0, 0, 0, 0),
  (521, .iaload, 1, 0, 0, 0, 0),
  (522, .i2l, 1, 0, 0, 0, 0),
  (523, .ldc2_w 45, 3, 23, 4294967295, 0, 7042),
  (526, .land, 1, 0, 0, 0, 0),
  (527, .lor, 1, 0, 0, 0, 0),
  (528, .aload_n 0, 1, 0, 0, 0, 0),
  (529, .iload_n 3, 1, 0, 0, 0, 0),
  (530, .iconst 3, 1, 20, 3, 0, 0),
  (531, .iadd, 1, 0, 0, 0, 0),
  (532, .iaload, 1, 0, 0, 0, 0),
  (533, .invokevirtual 51, 3, 3, 158, 0, 5220),
  (536, .pop, 1, 0, 0, 0, 0),
  (537, .goto 1045, 3, 0, 0, 0, 0)]
set_option maxRecDepth 100000 in
theorem mz_ks7 : mz_Sub (mz_kh ++ (mz_kc7 ++ mz_kz)) mz_kL := mz_sub_of mz_upL (mz_mem_two mz_khM (mz_mem_two (mz_mem_pc (show mz_kc7 = (mz_kL.drop 241).take 51 from rfl)) mz_kzM))
noncomputable def mz_kc8 : mz_K := [
  (540, .aload_n 1, 1, 0, 0, 0, 0),
  (541, .aload_n 0, 1, 0, 0, 0, 0),
  (542, .iload_n 3, 1, 0, 0, 0, 0),
  (543, .iconst 1, 1, 20, 1, 0, 0),
  (544, .iadd, 1, 0, 0, 0, 0),
  (545, .iaload, 1, 0, 0, 0, 0),
  (546, .invokevirtual 52, 3, 3, 75, 0, 3003),
  (549, .pop, 1, 0, 0, 0, 0),
  (550, .aload_n 2, 1, 0, 0, 0, 0),
  (551, .aload_n 0, 1, 0, 0, 0, 0),
  (552, .iload_n 3, 1, 0, 0, 0, 0),
  (553, .iconst 1, 1, 20, 1, 0, 0),
  (554, .iadd, 1, 0, 0, 0, 0),
  (555, .iaload, 1, 0, 0, 0, 0),
  (556, .invokevirtual 56, 3, 3, 170, 0, 5225),
  (559, .pop, 1, 0, 0, 0, 0),
  (560, .goto 1022, 3, 0, 0, 0, 0)]
set_option maxRecDepth 100000 in
theorem mz_ks8 : mz_Sub (mz_kh ++ (mz_kc8 ++ mz_kz)) mz_kL := mz_sub_of mz_upL (mz_mem_two mz_khM (mz_mem_two (mz_mem_pc (show mz_kc8 = (mz_kL.drop 292).take 17 from rfl)) mz_kzM))
noncomputable def mz_kc9 : mz_K := [
  (563, .aload_n 1, 1, 0, 0, 0, 0),
  (564, .aload_n 0, 1, 0, 0, 0, 0),
  (565, .iload_n 3, 1, 0, 0, 0, 0),
  (566, .iconst 1, 1, 20, 1, 0, 0),
  (567, .iadd, 1, 0, 0, 0, 0),
  (568, .iaload, 1, 0, 0, 0, 0),
  (569, .invokevirtual 57, 3, 3, 76, 0, 3150),
  (572, .pop, 1, 0, 0, 0, 0),
  (573, .aload_n 2, 1, 0, 0, 0, 0),
  (574, .aload_n 0, 1, 0, 0, 0, 0),
  (575, .iload_n 3, 1, 0, 0, 0, 0),
  (576, .iconst 1, 1, 20, 1, 0, 0),
  (577, .iadd, 1, 0, 0, 0, 0),
  (578, .iaload, 1, 0, 0, 0, 0),
  (579, .invokevirtual 60, 3, 3, 171, 0, 6029),
  (582, .pop, 1, 0, 0, 0, 0),
  (583, .goto 999, 3, 0, 0, 0, 0)]
set_option maxRecDepth 100000 in
theorem mz_ks9 : mz_Sub (mz_kh ++ (mz_kc9 ++ mz_kz)) mz_kL := mz_sub_of mz_upL (mz_mem_two mz_khM (mz_mem_two (mz_mem_pc (show mz_kc9 = (mz_kL.drop 309).take 17 from rfl)) mz_kzM))
noncomputable def mz_kc10 : mz_K := [
  (586, .aload_n 1, 1, 0, 0, 0, 0),
  (587, .aload_n 0, 1, 0, 0, 0, 0),
  (588, .iload_n 3, 1, 0, 0, 0, 0),
  (589, .iconst 1, 1, 20, 1, 0, 0),
  (590, .iadd, 1, 0, 0, 0, 0),
  (591, .iaload, 1, 0, 0, 0, 0),
  (592, .aload_n 0, 1, 0, 0, 0, 0),
  (593, .iload_n 3, 1, 0, 0, 0, 0),
  (594, .iconst 2, 1, 20, 2, 0, 0),
  (595, .iadd, 1, 0, 0, 0, 0),
  (596, .iaload, 1, 0, 0, 0, 0),
  (597, .invokevirtual 61, 3, 3, 77, 0, 3154),
  (600, .pop, 1, 0, 0, 0, 0),
  (601, .aload_n 2, 1, 0, 0, 0, 0),
  (602, .aload_n 0, 1, 0, 0, 0, 0),
  (603, .iload_n 3, 1, 0, 0, 0, 0),
  (604, .iconst 1, 1, 20, 1, 0, 0),
  (605, .iadd, 1, 0, 0, 0, 0),
  (606, .iaload, 1, 0, 0, 0, 0),
  (607, .aload_n 0, 1, 0, 0, 0, 0),
  (608, .iload_n 3, 1, 0, 0, 0, 0),
  (609, .iconst 2, 1, 20, 2, 0, 0),
  (610, .iadd, 1, 0, 0, 0, 0),
  (611, .iaload, 1, 0, 0, 0, 0),
  (612, .invokevirtual 64, 3, 3, 174, 0, 6033),
  (615, .pop, 1, 0, 0, 0, 0),
  (616, .goto 966, 3, 0, 0, 0, 0)]
set_option maxRecDepth 100000 in
theorem mz_ks10 : mz_Sub (mz_kh ++ (mz_kc10 ++ mz_kz)) mz_kL := mz_sub_of mz_upL (mz_mem_two mz_khM (mz_mem_two (mz_mem_pc (show mz_kc10 = (mz_kL.drop 326).take 27 from rfl)) mz_kzM))
noncomputable def mz_kc11 : mz_K := [
  (619, .aload_n 1, 1, 0, 0, 0, 0),
  (620, .aload_n 0, 1, 0, 0, 0, 0),
  (621, .iload_n 3, 1, 0, 0, 0, 0),
  (622, .iconst 1, 1, 20, 1, 0, 0),
  (623, .iadd, 1, 0, 0, 0, 0),
  (624, .iaload, 1, 0, 0, 0, 0),
  (625, .aload_n 0, 1, 0, 0, 0, 0),
  (626, .iload_n 3, 1, 0, 0, 0, 0),
  (627, .iconst 2, 1, 20, 2, 0, 0),
  (628, .iadd, 1, 0, 0, 0, 0),
  (629, .iaload, 1, 0, 0, 0, 0),
  (630, .invokevirtual 65, 3, 3, 78, 0, 3162),
  (633, .pop, 1, 0, 0, 0, 0),
  (634, .aload_n 2, 1, 0, 0, 0, 0),
  (635, .aload_n 0, 1, 0, 0, 0, 0),
  (636, .iload_n 3, 1, 0, 0, 0, 0),
  (637, .iconst 1, 1, 20, 1, 0, 0),
  (638, .iadd, 1, 0, 0, 0, 0),
  (639, .iaload, 1, 0, 0, 0, 0),
  (640, .aload_n 0, 1, 0, 0, 0, 0),
  (641, .iload_n 3, 1, 0, 0, 0, 0),
  (642, .iconst 2, 1, 20, 2, 0, 0),
  (643, .iadd, 1, 0, 0, 0, 0),
  (644, .iaload, 1, 0, 0, 0, 0),
  (645, .invokevirtual 68, 3, 3, 176, 0, 6041),
  (648, .pop, 1, 0, 0, 0, 0),
  (649, .goto 933, 3, 0, 0, 0, 0)]
set_option maxRecDepth 100000 in
theorem mz_ks11 : mz_Sub (mz_kh ++ (mz_kc11 ++ mz_kz)) mz_kL := mz_sub_of mz_upL (mz_mem_two mz_khM (mz_mem_two (mz_mem_pc (show mz_kc11 = (mz_kL.drop 353).take 27 from rfl)) mz_kzM))
noncomputable def mz_kc12 : mz_K := [
  (652, .aload_n 1, 1, 0, 0, 0, 0),
  (653, .aload_n 0, 1, 0, 0, 0, 0),
  (654, .iload_n 3, 1, 0, 0, 0, 0),
  (655, .iconst 1, 1, 20, 1, 0, 0),
  (656, .iadd, 1, 0, 0, 0, 0),
  (657, .iaload, 1, 0, 0, 0, 0),
  (658, .invokevirtual 69, 3, 3, 79, 0, 3169),
  (661, .pop, 1, 0, 0, 0, 0),
  (662, .aload_n 2, 1, 0, 0, 0, 0),
  (663, .aload_n 0, 1, 0, 0, 0, 0),
  (664, .iload_n 3, 1, 0, 0, 0, 0),
  (665, .iconst 1, 1, 20, 1, 0, 0),
  (666, .iadd, 1, 0, 0, 0, 0),
  (667, .iaload, 1, 0, 0, 0, 0),
  (668, .invokevirtual 72, 3, 3, 177, 0, 6048),
  (671, .pop, 1, 0, 0, 0, 0),
  (672, .goto 910, 3, 0, 0, 0, 0)]
set_option maxRecDepth 100000 in
theorem mz_ks12 : mz_Sub (mz_kh ++ (mz_kc12 ++ mz_kz)) mz_kL := mz_sub_of mz_upL (mz_mem_two mz_khM (mz_mem_two (mz_mem_pc (show mz_kc12 = (mz_kL.drop 380).take 17 from rfl)) mz_kzM))
noncomputable def mz_kc13 : mz_K := [
  (675, .aload_n 1, 1, 0, 0, 0, 0),
  (676, .aload_n 0, 1, 0, 0, 0, 0),
  (677, .iload_n 3, 1, 0, 0, 0, 0),
  (678, .iconst 1, 1, 20, 1, 0, 0),
  (679, .iadd, 1, 0, 0, 0, 0),
  (680, .iaload, 1, 0, 0, 0, 0),
  (681, .invokevirtual 73, 3, 3, 80, 0, 3187),
  (684, .pop, 1, 0, 0, 0, 0),
  (685, .aload_n 2, 1, 0, 0, 0, 0),
  (686, .aload_n 0, 1, 0, 0, 0, 0),
  (687, .iload_n 3, 1, 0, 0, 0, 0),
  (688, .iconst 1, 1, 20, 1, 0, 0),
  (689, .iadd, 1, 0, 0, 0, 0),
  (690, .iaload, 1, 0, 0, 0, 0),
  (691, .invokevirtual 76, 3, 3, 178, 0, 6064),
  (694, .pop, 1, 0, 0, 0, 0),
  (695, .goto 887, 3, 0, 0, 0, 0)]
set_option maxRecDepth 100000 in
theorem mz_ks13 : mz_Sub (mz_kh ++ (mz_kc13 ++ mz_kz)) mz_kL := mz_sub_of mz_upL (mz_mem_two mz_khM (mz_mem_two (mz_mem_pc (show mz_kc13 = (mz_kL.drop 397).take 17 from rfl)) mz_kzM))
noncomputable def mz_kc14 : mz_K := [
  (698, .aload_n 1, 1, 0, 0, 0, 0),
  (699, .aload_n 0, 1, 0, 0, 0, 0),
  (700, .iload_n 3, 1, 0, 0, 0, 0),
  (701, .iconst 1, 1, 20, 1, 0, 0),
  (702, .iadd, 1, 0, 0, 0, 0),
  (703, .iaload, 1, 0, 0, 0, 0),
  (704, .aload_n 0, 1, 0, 0, 0, 0),
  (705, .iload_n 3, 1, 0, 0, 0, 0),
  (706, .iconst 2, 1, 20, 2, 0, 0),
  (707, .iadd, 1, 0, 0, 0, 0),
  (708, .iaload, 1, 0, 0, 0, 0),
  (709, .aload_n 0, 1, 0, 0, 0, 0),
  (710, .iload_n 3, 1, 0, 0, 0, 0),
  (711, .iconst 3, 1, 20, 3, 0, 0),
  (712, .iadd, 1, 0, 0, 0, 0),
  (713, .iaload, 1, 0, 0, 0, 0),
  (714, .aload_n 0, 1, 0, 0, 0, 0),
  (715, .iload_n 3, 1, 0, 0, 0, 0),
  (716, .iconst 4, 1, 20, 4, 0, 0),
  (717, .iadd, 1, 0, 0, 0, 0),
  (718, .iaload, 1, 0, 0, 0, 0),
  (719, .invokevirtual 77, 3, 3, 81, 0, 3195),
  (722, .pop, 1, 0, 0, 0, 0),
  (723, .aload_n 2, 1, 0, 0, 0, 0),
  (724, .aload_n 0, 1, 0, 0, 0, 0),
  (725, .iload_n 3, 1, 0, 0, 0, 0),
  (726, .iconst 1, 1, 20, 1, 0, 0),
  (727, .iadd, 1, 0, 0, 0, 0),
  (728, .iaload, 1, 0, 0, 0, 0),
  (729, .aload_n 0, 1, 0, 0, 0, 0),
  (730, .iload_n 3, 1, 0, 0, 0, 0),
  (731, .iconst 2, 1, 20, 2, 0, 0),
  (732, .iadd, 1, 0, 0, 0, 0),
  (733, .iaload, 1, 0, 0, 0, 0),
  (734, .aload_n 0, 1, 0, 0, 0, 0),
  (735, .iload_n 3, 1, 0, 0, 0, 0),
  (736, .iconst 3, 1, 20, 3, 0, 0),
  (737, .iadd, 1, 0, 0, 0, 0),
  (738, .iaload, 1, 0, 0, 0, 0),
  (739, .aload_n 0, 1, 0, 0, 0, 0),
  (740, .iload_n 3, 1, 0, 0, 0, 0),
  (741, .iconst 4, 1, 20, 4, 0, 0),
  (742, .iadd, 1, 0, 0, 0, 0),
  (743, .iaload, 1, 0, 0, 0, 0),
  (744, .invokevirtual 80, 3, 3, 179, 0, 6072),
  (747, .pop, 1, 0, 0, 0, 0),
  (748, .goto 834, 3, 0, 0, 0, 0)]
set_option maxRecDepth 100000 in
theorem mz_ks14 : mz_Sub (mz_kh ++ (mz_kc14 ++ mz_kz)) mz_kL := mz_sub_of mz_upL (mz_mem_two mz_khM (mz_mem_two (mz_mem_pc (show mz_kc14 = (mz_kL.drop 414).take 47 from rfl)) mz_kzM))
noncomputable def mz_kc15 : mz_K := [
  (751, .aload_n 1, 1, 0, 0, 0, 0),
  (752, .aload_n 0, 1, 0, 0, 0, 0),
  (753, .iload_n 3, 1, 0, 0, 0, 0),
  (754, .iconst 1, 1, 20, 1, 0, 0),
  (755, .iadd, 1, 0, 0, 0, 0),
  (756, .iaload, 1, 0, 0, 0, 0),
  (757, .aload_n 0, 1, 0, 0, 0, 0),
  (758, .iload_n 3, 1, 0, 0, 0, 0),
  (759, .iconst 2, 1, 20, 2, 0, 0),
  (760, .iadd, 1, 0, 0, 0, 0),
  (761, .iaload, 1, 0, 0, 0, 0),
  (762, .invokevirtual 81, 3, 3, 82, 0, 3206),
  (765, .pop, 1, 0, 0, 0, 0),
  (766, .aload_n 2, 1, 0, 0, 0, 0),
  (767, .aload_n 0, 1, 0, 0, 0, 0),
  (768, .iload_n 3, 1, 0, 0, 0, 0),
  (769, .iconst 1, 1, 20, 1, 0, 0),
  (770, .iadd, 1, 0, 0, 0, 0),
  (771, .iaload, 1, 0, 0, 0, 0),
  (772, .aload_n 0, 1, 0, 0, 0, 0),
  (773, .iload_n 3, 1, 0, 0, 0, 0),
  (774, .iconst 2, 1, 20, 2, 0, 0),
  (775, .iadd, 1, 0, 0, 0, 0),
  (776, .iaload, 1, 0, 0, 0, 0),
  (777, .invokevirtual 84, 3, 3, 180, 0, 6080),
  (780, .pop, 1, 0, 0, 0, 0),
  (781, .goto 801, 3, 0, 0, 0, 0)]
set_option maxRecDepth 100000 in
theorem mz_ks15 : mz_Sub (mz_kh ++ (mz_kc15 ++ mz_kz)) mz_kL := mz_sub_of mz_upL (mz_mem_two mz_khM (mz_mem_two (mz_mem_pc (show mz_kc15 = (mz_kL.drop 461).take 27 from rfl)) mz_kzM))
noncomputable def mz_kc16 : mz_K := [
  (784, .aload_n 1, 1, 0, 0, 0, 0),
  (785, .aload_n 0, 1, 0, 0, 0, 0),
  (786, .iload_n 3, 1, 0, 0, 0, 0),
  (787, .iconst 1, 1, 20, 1, 0, 0),
  (788, .iadd, 1, 0, 0, 0, 0),
  (789, .iaload, 1, 0, 0, 0, 0),
  (790, .aload_n 0, 1, 0, 0, 0, 0),
  (791, .iload_n 3, 1, 0, 0, 0, 0),
  (792, .iconst 2, 1, 20, 2, 0, 0),
  (793, .iadd, 1, 0, 0, 0, 0),
  (794, .iaload, 1, 0, 0, 0, 0),
  (795, .invokevirtual 85, 3, 3, 83, 0, 3210),
  (798, .pop, 1, 0, 0, 0, 0),
  (799, .aload_n 2, 1, 0, 0, 0, 0),
  (800, .aload_n 0, 1, 0, 0, 0, 0),
  (801, .iload_n 3, 1, 0, 0, 0, 0),
  (802, .iconst 1, 1, 20, 1, 0, 0),
  (803, .iadd, 1, 0, 0, 0, 0),
  (804, .iaload, 1, 0, 0, 0, 0),
  (805, .aload_n 0, 1, 0, 0, 0, 0),
  (806, .iload_n 3, 1, 0, 0, 0, 0),
  (807, .iconst 2, 1, 20, 2, 0, 0),
  (808, .iadd, 1, 0, 0, 0, 0),
  (809, .iaload, 1, 0, 0, 0, 0),
  (810, .invokevirtual 88, 3, 3, 181, 0, 6088),
  (813, .pop, 1, 0, 0, 0, 0),
  (814, .goto 768, 3, 0, 0, 0, 0)]
set_option maxRecDepth 100000 in
theorem mz_ks16 : mz_Sub (mz_kh ++ (mz_kc16 ++ mz_kz)) mz_kL := mz_sub_of mz_upL (mz_mem_two mz_khM (mz_mem_two (mz_mem_pc (show mz_kc16 = (mz_kL.drop 488).take 27 from rfl)) mz_kzM))
noncomputable def mz_kc17 : mz_K := [
  (817, .aload_n 1, 1, 0, 0, 0, 0),
  (818, .aload_n 0, 1, 0, 0, 0, 0),
  (819, .iload_n 3, 1, 0, 0, 0, 0),
  (820, .iconst 1, 1, 20, 1, 0, 0),
  (821, .iadd, 1, 0, 0, 0, 0),
  (822, .iaload, 1, 0, 0, 0, 0),
  (823, .aload_n 0, 1, 0, 0, 0, 0),
  (824, .iload_n 3, 1, 0, 0, 0, 0),
  (825, .iconst 2, 1, 20, 2, 0, 0),
  (826, .iadd, 1, 0, 0, 0, 0),
  (827, .iaload, 1, 0, 0, 0, 0),
  (828, .invokevirtual 89, 3, 3, 84, 0, 3214),
  (831, .pop, 1, 0, 0, 0, 0),
  (832, .aload_n 2, 1, 0, 0, 0, 0),
  (833, .aload_n 0, 1, 0, 0, 0, 0),
  (834, .iload_n 3, 1, 0, 0, 0, 0),
  (835, .iconst 1, 1, 20, 1, 0, 0),
  (836, .iadd, 1, 0, 0, 0, 0),
  (837, .iaload, 1, 0, 0, 0, 0),
  (838, .aload_n 0, 1, 0, 0, 0, 0),
  (839, .iload_n 3, 1, 0, 0, 0, 0),
  (840, .iconst 2, 1, 20, 2, 0, 0),
  (841, .iadd, 1, 0, 0, 0, 0),
  (842, .iaload, 1, 0, 0, 0, 0),
  (843, .invokevirtual 92, 3, 3, 182, 0, 6092),
  (846, .pop, 1, 0, 0, 0, 0),
  (847, .goto 735, 3, 0, 0, 0, 0)]
set_option maxRecDepth 100000 in
theorem mz_ks17 : mz_Sub (mz_kh ++ (mz_kc17 ++ mz_kz)) mz_kL := mz_sub_of mz_upL (mz_mem_two mz_khM (mz_mem_two (mz_mem_pc (show mz_kc17 = (mz_kL.drop 515).take 27 from rfl)) mz_kzM))
noncomputable def mz_kc18 : mz_K := [
  (850, .aload_n 1, 1, 0, 0, 0, 0),
  (851, .aload_n 0, 1, 0, 0, 0, 0),
  (852, .iload_n 3, 1, 0, 0, 0, 0),
  (853, .iconst 1, 1, 20, 1, 0, 0),
  (854, .iadd, 1, 0, 0, 0, 0),
  (855, .iaload, 1, 0, 0, 0, 0),
  (856, .aload_n 0, 1, 0, 0, 0, 0),
  (857, .iload_n 3, 1, 0, 0, 0, 0),
  (858, .iconst 2, 1, 20, 2, 0, 0),
  (859, .iadd, 1, 0, 0, 0, 0),
  (860, .iaload, 1, 0, 0, 0, 0),
  (861, .aload_n 0, 1, 0, 0, 0, 0),
  (862, .iload_n 3, 1, 0, 0, 0, 0),
  (863, .iconst 3, 1, 20, 3, 0, 0),
  (864, .iadd, 1, 0, 0, 0, 0),
  (865, .iaload, 1, 0, 0, 0, 0),
  (866, .aload_n 0, 1, 0, 0, 0, 0),
  (867, .iload_n 3, 1, 0, 0, 0, 0),
  (868, .iconst 4, 1, 20, 4, 0, 0),
  (869, .iadd, 1, 0, 0, 0, 0),
  (870, .iaload, 1, 0, 0, 0, 0),
  (871, .invokevirtual 93, 3, 3, 85, 0, 3218),
  (874, .pop, 1, 0, 0, 0, 0),
  (875, .aload_n 2, 1, 0, 0, 0, 0),
  (876, .aload_n 0, 1, 0, 0, 0, 0),
  (877, .iload_n 3, 1, 0, 0, 0, 0),
  (878, .iconst 1, 1, 20, 1, 0, 0),
  (879, .iadd, 1, 0, 0, 0, 0),
  (880, .iaload, 1, 0, 0, 0, 0),
  (881, .aload_n 0, 1, 0, 0, 0, 0),
  (882, .iload_n 3, 1, 0, 0, 0, 0),
  (883, .iconst 2, 1, 20, 2, 0, 0),
  (884, .iadd, 1, 0, 0, 0, 0),
  (885, .iaload, 1, 0, 0, 0, 0),
  (886, .aload_n 0, 1, 0, 0, 0, 0),
  (887, .iload_n 3, 1, 0, 0, 0, 0),
  (888, .iconst 3, 1, 20, 3, 0, 0),
  (889, .iadd, 1, 0, 0, 0, 0),
  (890, .iaload, 1, 0, 0, 0, 0),
  (891, .aload_n 0, 1, 0, 0, 0, 0),
  (892, .iload_n 3, 1, 0, 0, 0, 0),
  (893, .iconst 4, 1, 20, 4, 0, 0),
  (894, .iadd, 1, 0, 0, 0, 0),
  (895, .iaload, 1, 0, 0, 0, 0),
  (896, .invokevirtual 96, 3, 3, 190, 0, 6096),
  (899, .pop, 1, 0, 0, 0, 0),
  (900, .goto 682, 3, 0, 0, 0, 0)]
set_option maxRecDepth 100000 in
theorem mz_ks18 : mz_Sub (mz_kh ++ (mz_kc18 ++ mz_kz)) mz_kL := mz_sub_of mz_upL (mz_mem_two mz_khM (mz_mem_two (mz_mem_pc (show mz_kc18 = (mz_kL.drop 542).take 47 from rfl)) mz_kzM))
noncomputable def mz_kc19 : mz_K := [
  (903, .aload_n 1, 1, 0, 0, 0, 0),
  (904, .aload_n 0, 1, 0, 0, 0, 0),
  (905, .iload_n 3, 1, 0, 0, 0, 0),
  (906, .iconst 1, 1, 20, 1, 0, 0),
  (907, .iadd, 1, 0, 0, 0, 0),
  (908, .iaload, 1, 0, 0, 0, 0),
  (909, .aload_n 0, 1, 0, 0, 0, 0),
  (910, .iload_n 3, 1, 0, 0, 0, 0),
  (911, .iconst 2, 1, 20, 2, 0, 0),
  (912, .iadd, 1, 0, 0, 0, 0),
  (913, .iaload, 1, 0, 0, 0, 0),
  (914, .invokevirtual 97, 3, 3, 86, 0, 4010),
  (917, .pop, 1, 0, 0, 0, 0),
  (918, .aload_n 2, 1, 0, 0, 0, 0),
  (919, .aload_n 0, 1, 0, 0, 0, 0),
  (920, .iload_n 3, 1, 0, 0, 0, 0),
  (921, .iconst 1, 1, 20, 1, 0, 0),
  (922, .iadd, 1, 0, 0, 0, 0),
  (923, .iaload, 1, 0, 0, 0, 0),
  (924, .aload_n 0, 1, 0, 0, 0, 0),
  (925, .iload_n 3, 1, 0, 0, 0, 0),
  (926, .iconst 2, 1, 20, 2, 0, 0),
  (927, .iadd, 1, 0, 0, 0, 0),
  (928, .iaload, 1, 0, 0, 0, 0),
  (929, .invokevirtual 100, 3, 3, 191, 0, 6108),
  (932, .pop, 1, 0, 0, 0, 0),
  (933, .goto 649, 3, 0, 0, 0, 0)]
set_option maxRecDepth 100000 in
theorem mz_ks19 : mz_Sub (mz_kh ++ (mz_kc19 ++ mz_kz)) mz_kL := mz_sub_of mz_upL (mz_mem_two mz_khM (mz_mem_two (mz_mem_pc (show mz_kc19 = (mz_kL.drop 589).take 27 from rfl)) mz_kzM))
noncomputable def mz_kc20 : mz_K := [
  (936, .aload_n 1, 1, 0, 0, 0, 0),
  (937, .aload_n 0, 1, 0, 0, 0, 0),
  (938, .iload_n 3, 1, 0, 0, 0, 0),
  (939, .iconst 1, 1, 20, 1, 0, 0),
  (940, .iadd, 1, 0, 0, 0, 0),
  (941, .iaload, 1, 0, 0, 0, 0),
  (942, .invokevirtual 101, 3, 3, 87, 0, 4020),
  (945, .pop, 1, 0, 0, 0, 0),
  (946, .aload_n 2, 1, 0, 0, 0, 0),
  (947, .aload_n 0, 1, 0, 0, 0, 0),
  (948, .iload_n 3, 1, 0, 0, 0, 0),
  (949, .iconst 1, 1, 20, 1, 0, 0),
  (950, .iadd, 1, 0, 0, 0, 0),
  (951, .iaload, 1, 0, 0, 0, 0),
  (952, .invokevirtual 104, 3, 3, 194, 0, 6128),
  (955, .pop, 1, 0, 0, 0, 0),
  (956, .goto 626, 3, 0, 0, 0, 0)]
set_option maxRecDepth 100000 in
theorem mz_ks20 : mz_Sub (mz_kh ++ (mz_kc20 ++ mz_kz)) mz_kL := mz_sub_of mz_upL (mz_mem_two mz_khM (mz_mem_two (mz_mem_pc (show mz_kc20 = (mz_kL.drop 616).take 17 from rfl)) mz_kzM))
noncomputable def mz_kc21 : mz_K := [
  (959, .aload_n 1, 1, 0, 0, 0, 0),
  (960, .aload_n 0, 1, 0, 0, 0, 0),
  (961, .iload_n 3, 1, 0, 0, 0, 0),
  (962, .iconst 1, 1, 20, 1, 0, 0),
  (963, .iadd, 1, 0, 0, 0, 0),
  (964, .iaload, 1, 0, 0, 0, 0),
  (965, .aload_n 0, 1, 0, 0, 0, 0),
  (966, .iload_n 3, 1, 0, 0, 0, 0),
  (967, .iconst 2, 1, 20, 2, 0, 0),
  (968, .iadd, 1, 0, 0, 0, 0),
  (969, .iaload, 1, 0, 0, 0, 0),
  (970, .invokevirtual 105, 3, 3, 88, 0, 4028),
  (973, .pop, 1, 0, 0, 0, 0),
  (974, .aload_n 2, 1, 0, 0, 0, 0),
  (975, .aload_n 0, 1, 0, 0, 0, 0),
  (976, .iload_n 3, 1, 0, 0, 0, 0),
  (977, .iconst 1, 1, 20, 1, 0, 0),
  (978, .iadd, 1, 0, 0, 0, 0),
  (979, .iaload, 1, 0, 0, 0, 0),
  (980, .aload_n 0, 1, 0, 0, 0, 0),
  (981, .iload_n 3, 1, 0, 0, 0, 0),
  (982, .iconst 2, 1, 20, 2, 0, 0),
  (983, .iadd, 1, 0, 0, 0, 0),
  (984, .iaload, 1, 0, 0, 0, 0),
  (985, .invokevirtual 108, 3, 3, 197, 0, 6143),
  (988, .pop, 1, 0, 0, 0, 0),
  (989, .goto 593, 3, 0, 0, 0, 0)]
set_option maxRecDepth 100000 in
theorem mz_ks21 : mz_Sub (mz_kh ++ (mz_kc21 ++ mz_kz)) mz_kL := mz_sub_of mz_upL (mz_mem_two mz_khM (mz_mem_two (mz_mem_pc (show mz_kc21 = (mz_kL.drop 633).take 27 from rfl)) mz_kzM))
noncomputable def mz_kc22 : mz_K := [
  (992, .aload_n 1, 1, 0, 0, 0, 0),
  (993, .aload_n 0, 1, 0, 0, 0, 0),
  (994, .iload_n 3, 1, 0, 0, 0, 0),
  (995, .iconst 1, 1, 20, 1, 0, 0),
  (996, .iadd, 1, 0, 0, 0, 0),
  (997, .iaload, 1, 0, 0, 0, 0),
  (998, .invokevirtual 109, 3, 3, 89, 0, 4040),
  (1001, .pop, 1, 0, 0, 0, 0),
  (1002, .aload_n 2, 1, 0, 0, 0, 0),
  (1003, .aload_n 0, 1, 0, 0, 0, 0),
  (1004, .iload_n 3, 1, 0, 0, 0, 0),
  (1005, .iconst 1, 1, 20, 1, 0, 0),
  (1006, .iadd, 1, 0, 0, 0, 0),
  (1007, .iaload, 1, 0, 0, 0, 0),
  (1008, .invokevirtual 112, 3, 3, 199, 0, 6155),
  (1011, .pop, 1, 0, 0, 0, 0),
  (1012, .goto 570, 3, 0, 0, 0, 0)]
set_option maxRecDepth 100000 in
theorem mz_ks22 : mz_Sub (mz_kh ++ (mz_kc22 ++ mz_kz)) mz_kL := mz_sub_of mz_upL (mz_mem_two mz_khM (mz_mem_two (mz_mem_pc (show mz_kc22 = (mz_kL.drop 660).take 17 from rfl)) mz_kzM))
noncomputable def mz_kc23 : mz_K := [
  (1015, .aload_n 1, 1, 0, 0, 0, 0),
  (1016, .aload_n 0, 1, 0, 0, 0, 0),
  (1017, .iload_n 3, 1, 0, 0, 0, 0),
  (1018, .iconst 1, 1, 20, 1, 0, 0),
  (1019, .iadd, 1, 0, 0, 0, 0),
  (1020, .iaload, 1, 0, 0, 0, 0),
  (1021, .aload_n 0, 1, 0, 0, 0, 0),
  (1022, .iload_n 3, 1, 0, 0, 0, 0),
  (1023, .iconst 2, 1, 20, 2, 0, 0),
  (1024, .iadd, 1, 0, 0, 0, 0),
  (1025, .iaload, 1, 0, 0, 0, 0),
  (1026, .aload_n 0, 1, 0, 0, 0, 0),
  (1027, .iload_n 3, 1, 0, 0, 0, 0),
  (1028, .iconst 3, 1, 20, 3, 0, 0),
  (1029, .iadd, 1, 0, 0, 0, 0),
  (1030, .iaload, 1, 0, 0, 0, 0),
  (1031, .invokevirtual 113, 3, 3, 90, 0, 4069),
  (1034, .pop, 1, 0, 0, 0, 0),
  (1035, .aload_n 2, 1, 0, 0, 0, 0),
  (1036, .aload_n 0, 1, 0, 0, 0, 0),
  (1037, .iload_n 3, 1, 0, 0, 0, 0),
  (1038, .iconst 1, 1, 20, 1, 0, 0),
  (1039, .iadd, 1, 0, 0, 0, 0),
  (1040, .iaload, 1, 0, 0, 0, 0),
  (1041, .aload_n 0, 1, 0, 0, 0, 0),
  (1042, .iload_n 3, 1, 0, 0, 0, 0),
  (1043, .iconst 2, 1, 20, 2, 0, 0),
  (1044, .iadd, 1, 0, 0, 0, 0),
  (1045, .iaload, 1, 0, 0, 0, 0),
  (1046, .aload_n 0, 1, 0, 0, 0, 0),
  (1047, .iload_n 3, 1, 0, 0, 0, 0),
  (1048, .iconst 3, 1, 20, 3, 0, 0),
  (1049, .iadd, 1, 0, 0, 0, 0),
  (1050, .iaload, 1, 0, 0, 0, 0),
  (1051, .invokevirtual 116, 3, 3, 200, 0, 6163),
  (1054, .pop, 1, 0, 0, 0, 0),
  (1055, .goto 527, 3, 0, 0, 0, 0)]
set_option maxRecDepth 100000 in
theorem mz_ks23 : mz_Sub (mz_kh ++ (mz_kc23 ++ mz_kz)) mz_kL := mz_sub_of mz_upL (mz_mem_two mz_khM (mz_mem_two (mz_mem_pc (show mz_kc23 = (mz_kL.drop 677).take 37 from rfl)) mz_kzM))
noncomputable def mz_kc24 : mz_K := [
  (1058, .aload_n 1, 1, 0, 0, 0, 0),
  (1059, .aload_n 0, 1, 0, 0, 0, 0),
  (1060, .iload_n 3, 1, 0, 0, 0, 0),
  (1061, .iconst 1, 1, 20, 1, 0, 0),
  (1062, .iadd, 1, 0, 0, 0, 0),
  (1063, .iaload, 1, 0, 0, 0, 0),
  (1064, .invokevirtual 117, 3, 3, 91, 0, 4074),
  (1067, .pop, 1, 0, 0, 0, 0),
  (1068, .aload_n 2, 1, 0, 0, 0, 0),
  (1069, .aload_n 0, 1, 0, 0, 0, 0),
  (1070, .iload_n 3, 1, 0, 0, 0, 0),
  (1071, .iconst 1, 1, 20, 1, 0, 0),
  (1072, .iadd, 1, 0, 0, 0, 0),
  (1073, .iaload, 1, 0, 0, 0, 0),
  (1074, .invokevirtual 120, 3, 3, 201, 0, 6167),
  (1077, .pop, 1, 0, 0, 0, 0),
  (1078, .goto 504, 3, 0, 0, 0, 0)]
set_option maxRecDepth 100000 in
theorem mz_ks24 : mz_Sub (mz_kh ++ (mz_kc24 ++ mz_kz)) mz_kL := mz_sub_of mz_upL (mz_mem_two mz_khM (mz_mem_two (mz_mem_pc (show mz_kc24 = (mz_kL.drop 714).take 17 from rfl)) mz_kzM))
noncomputable def mz_kc25 : mz_K := [
  (1081, .aload_n 1, 1, 0, 0, 0, 0),
  (1082, .aload_n 0, 1, 0, 0, 0, 0),
  (1083, .iload_n 3, 1, 0, 0, 0, 0),
  (1084, .iconst 1, 1, 20, 1, 0, 0),
  (1085, .iadd, 1, 0, 0, 0, 0),
  (1086, .iaload, 1, 0, 0, 0, 0),
  (1087, .invokevirtual 121, 3, 3, 92, 0, 4090),
  (1090, .pop, 1, 0, 0, 0, 0),
  (1091, .aload_n 2, 1, 0, 0, 0, 0),
  (1092, .aload_n 0, 1, 0, 0, 0, 0),
  (1093, .iload_n 3, 1, 0, 0, 0, 0),
  (1094, .iconst 1, 1, 20, 1, 0, 0),
  (1095, .iadd, 1, 0, 0, 0, 0),
  (1096, .iaload, 1, 0, 0, 0, 0),
  (1097, .invokevirtual 124, 3, 3, 202, 0, 6171),
  (1100, .pop, 1, 0, 0, 0, 0),
  (1101, .goto 481, 3, 0, 0, 0, 0)]
set_option maxRecDepth 100000 in
theorem mz_ks25 : mz_Sub (mz_kh ++ (mz_kc25 ++ mz_kz)) mz_kL := mz_sub_of mz_upL (mz_mem_two mz_khM (mz_mem_two (mz_mem_pc (show mz_kc25 = (mz_kL.drop 731).take 17 from rfl)) mz_kzM))
noncomputable def mz_kc26 : mz_K := [
  (1104, .aload_n 1, 1, 0, 0, 0, 0),
  (1105, .aload_n 0, 1, 0, 0, 0, 0),
  (1106, .iload_n 3, 1, 0, 0, 0, 0),
  (1107, .iconst 1, 1, 20, 1, 0, 0),
  (1108, .iadd, 1, 0, 0, 0, 0),
  (1109, .iaload, 1, 0, 0, 0, 0),
  (1110, .invokevirtual 125, 3, 3, 93, 0, 4099),
  (1113, .pop, 1, 0, 0, 0, 0),
  (1114, .aload_n 2, 1, 0, 0, 0, 0),
  (1115, .aload_n 0, 1, 0, 0, 0, 0),
  (1116, .iload_n 3, 1, 0, 0, 0, 0),
  (1117, .iconst 1, 1, 20, 1, 0, 0),
  (1118, .iadd, 1, 0, 0, 0, 0),
  (1119, .iaload, 1, 0, 0, 0, 0),
  (1120, .invokevirtual 128, 3, 3, 204, 0, 6175),
  (1123, .pop, 1, 0, 0, 0, 0),
  (1124, .goto 458, 3, 0, 0, 0, 0)]
set_option maxRecDepth 100000 in
theorem mz_ks26 : mz_Sub (mz_kh ++ (mz_kc26 ++ mz_kz)) mz_kL := mz_sub_of mz_upL (mz_mem_two mz_khM (mz_mem_two (mz_mem_pc (show mz_kc26 = (mz_kL.drop 748).take 17 from rfl)) mz_kzM))
noncomputable def mz_kc27 : mz_K := [
  (1127, .aload_n 1, 1, 0, 0, 0, 0),
  (1128, .aload_n 0, 1, 0, 0, 0, 0),
  (1129, .iload_n 3, 1, 0, 0, 0, 0),
  (1130, .iconst 1, 1, 20, 1, 0, 0),
  (1131, .iadd, 1, 0, 0, 0, 0),
  (1132, .iaload, 1, 0, 0, 0, 0),
  (1133, .aload_n 0, 1, 0, 0, 0, 0),
  (1134, .iload_n 3, 1, 0, 0, 0, 0),
  (1135, .iconst 2, 1, 20, 2, 0, 0),
  (1136, .iadd, 1, 0, 0, 0, 0),
  (1137, .iaload, 1, 0, 0, 0, 0),
  (1138, .aload_n 0, 1, 0, 0, 0, 0),
  (1139, .iload_n 3, 1, 0, 0, 0, 0),
  (1140, .iconst 3, 1, 20, 3, 0, 0),
  (1141, .iadd, 1, 0, 0, 0, 0),
  (1142, .iaload, 1, 0, 0, 0, 0),
  (1143, .aload_n 0, 1, 0, 0, 0, 0),
  (1144, .iload_n 3, 1, 0, 0, 0, 0),
  (1145, .iconst 4, 1, 20, 4, 0, 0),
  (1146, .iadd, 1, 0, 0, 0, 0),
  (1147, .iaload, 1, 0, 0, 0, 0),
  (1148, .invokevirtual 129, 3, 3, 94, 0, 4110),
  (1151, .pop, 1, 0, 0, 0, 0),
  (1152, .aload_n 2, 1, 0, 0, 0, 0),
  (1153, .aload_n 0, 1, 0, 0, 0, 0),
  (1154, .iload_n 3, 1, 0, 0, 0, 0),
  (1155, .iconst 1, 1, 20, 1, 0, 0),
  (1156, .iadd, 1, 0, 0, 0, 0),
  (1157, .iaload, 1, 0, 0, 0, 0),
  (1158, .aload_n 0, 1, 0, 0, 0, 0),
  (1159, .iload_n 3, 1, 0, 0, 0, 0),
  (1160, .iconst 2, 1, 20, 2, 0, 0),
  (1161, .iadd, 1, 0, 0, 0, 0),
  (1162, .iaload, 1, 0, 0, 0, 0),
  (1163, .aload_n 0, 1, 0, 0, 0, 0),
  (1164, .iload_n 3, 1, 0, 0, 0, 0),
  (1165, .iconst 3, 1, 20, 3, 0, 0),
  (1166, .iadd, 1, 0, 0, 0, 0),
  (1167, .iaload, 1, 0, 0, 0, 0),
  (1168, .aload_n 0, 1, 0, 0, 0, 0),
  (1169, .iload_n 3, 1, 0, 0, 0, 0),
  (1170, .iconst 4, 1, 20, 4, 0, 0),
  (1171, .iadd, 1, 0, 0, 0, 0),
  (1172, .iaload, 1, 0, 0, 0, 0),
  (1173, .invokevirtual 132, 3, 3, 206, 0, 6183),
  (1176, .pop, 1, 0, 0, 0, 0),
  (1177, .goto 405, 3, 0, 0, 0, 0)]
set_option maxRecDepth 100000 in
theorem mz_ks27 : mz_Sub (mz_kh ++ (mz_kc27 ++ mz_kz)) mz_kL := mz_sub_of mz_upL (mz_mem_two mz_khM (mz_mem_two (mz_mem_pc (show mz_kc27 = (mz_kL.drop 765).take 47 from rfl)) mz_kzM))
noncomputable def mz_kc28 : mz_K := [
  (1180, .aload_n 1, 1, 0, 0, 0, 0),
  (1181, .aload_n 0, 1, 0, 0, 0, 0),
  (1182, .iload_n 3, 1, 0, 0, 0, 0),
  (1183, .iconst 1, 1, 20, 1, 0, 0),
  (1184, .iadd, 1, 0, 0, 0, 0),
  (1185, .iaload, 1, 0, 0, 0, 0),
  (1186, .invokevirtual 133, 3, 3, 95, 0, 4123),
  (1189, .pop, 1, 0, 0, 0, 0),
  (1190, .aload_n 2, 1, 0, 0, 0, 0),
  (1191, .aload_n 0, 1, 0, 0, 0, 0),
  (1192, .iload_n 3, 1, 0, 0, 0, 0),
  (1193, .iconst 1, 1, 20, 1, 0, 0),
  (1194, .iadd, 1, 0, 0, 0, 0),
  (1195, .iaload, 1, 0, 0, 0, 0),
  (1196, .invokevirtual 136, 3, 3, 207, 0, 6192),
  (1199, .pop, 1, 0, 0, 0, 0),
  (1200, .goto 382, 3, 0, 0, 0, 0)]
set_option maxRecDepth 100000 in
theorem mz_ks28 : mz_Sub (mz_kh ++ (mz_kc28 ++ mz_kz)) mz_kL := mz_sub_of mz_upL (mz_mem_two mz_khM (mz_mem_two (mz_mem_pc (show mz_kc28 = (mz_kL.drop 812).take 17 from rfl)) mz_kzM))
noncomputable def mz_kc29 : mz_K := [
  (1203, .aload_n 1, 1, 0, 0, 0, 0),
  (1204, .aload_n 0, 1, 0, 0, 0, 0),
  (1205, .iload_n 3, 1, 0, 0, 0, 0),
  (1206, .iconst 1, 1, 20, 1, 0, 0),
  (1207, .iadd, 1, 0, 0, 0, 0),
  (1208, .iaload, 1, 0, 0, 0, 0),
  (1209, .invokevirtual 137, 3, 3, 96, 0, 4127),
  (1212, .pop, 1, 0, 0, 0, 0),
  (1213, .aload_n 2, 1, 0, 0, 0, 0),
  (1214, .aload_n 0, 1, 0, 0, 0, 0),
  (1215, .iload_n 3, 1, 0, 0, 0, 0),
  (1216, .iconst 1, 1, 20, 1, 0, 0),
  (1217, .iadd, 1, 0, 0, 0, 0),
  (1218, .iaload, 1, 0, 0, 0, 0),
  (1219, .invokevirtual 140, 3, 3, 208, 0, 6196),
  (1222, .pop, 1, 0, 0, 0, 0),
  (1223, .goto 359, 3, 0, 0, 0, 0)]
set_option maxRecDepth 100000 in
theorem mz_ks29 : mz_Sub (mz_kh ++ (mz_kc29 ++ mz_kz)) mz_kL := mz_sub_of mz_upL (mz_mem_two mz_khM (mz_mem_two (mz_mem_pc (show mz_kc29 = (mz_kL.drop 829).take 17 from rfl)) mz_kzM))
noncomputable def mz_kc30 : mz_K := [
  (1226, .aload_n 1, 1, 0, 0, 0, 0),
  (1227, .aload_n 0, 1, 0, 0, 0, 0),
  (1228, .iload_n 3, 1, 0, 0, 0, 0),
  (1229, .iconst 1, 1, 20, 1, 0, 0),
  (1230, .iadd, 1, 0, 0, 0, 0),
  (1231, .iaload, 1, 0, 0, 0, 0),
  (1232, .aload_n 0, 1, 0, 0, 0, 0),
  (1233, .iload_n 3, 1, 0, 0, 0, 0),
  (1234, .iconst 2, 1, 20, 2, 0, 0),
  (1235, .iadd, 1, 0, 0, 0, 0),
  (1236, .iaload, 1, 0, 0, 0, 0),
  (1237, .aload_n 0, 1, 0, 0, 0, 0),
  (1238, .iload_n 3, 1, 0, 0, 0, 0),
  (1239, .iconst 3, 1, 20, 3, 0, 0),
  (1240, .iadd, 1, 0, 0, 0, 0),
  (1241, .iaload, 1, 0, 0, 0, 0),
  (1242, .invokevirtual 141, 3, 3, 97, 0, 4131),
  (1245, .pop, 1, 0, 0, 0, 0),
  (1246, .aload_n 2, 1, 0, 0, 0, 0),
  (1247, .aload_n 0, 1, 0, 0, 0, 0),
  (1248, .iload_n 3, 1, 0, 0, 0, 0),
  (1249, .iconst 1, 1, 20, 1, 0, 0),
  (1250, .iadd, 1, 0, 0, 0, 0),
  (1251, .iaload, 1, 0, 0, 0, 0),
  (1252, .aload_n 0, 1, 0, 0, 0, 0),
  (1253, .iload_n 3, 1, 0, 0, 0, 0),
  (1254, .iconst 2, 1, 20, 2, 0, 0),
  (1255, .iadd, 1, 0, 0, 0, 0),
  (1256, .iaload, 1, 0, 0, 0, 0),
  (1257, .aload_n 0, 1, 0, 0, 0, 0),
  (1258, .iload_n 3, 1, 0, 0, 0, 0),
  (1259, .iconst 3, 1, 20, 3, 0, 0),
  (1260, .iadd, 1, 0, 0, 0, 0),
  (1261, .iaload, 1, 0, 0, 0, 0),
  (1262, .invokevirtual 144, 3, 3, 217, 0, 6200),
  (1265, .pop, 1, 0, 0, 0, 0),
  (1266, .goto 316, 3, 0, 0, 0, 0)]
set_option maxRecDepth 100000 in
theorem mz_ks30 : mz_Sub (mz_kh ++ (mz_kc30 ++ mz_kz)) mz_kL := mz_sub_of mz_upL (mz_mem_two mz_khM (mz_mem_two (mz_mem_pc (show mz_kc30 = (mz_kL.drop 846).take 37 from rfl)) mz_kzM))
noncomputable def mz_kc31 : mz_K := [
  (1269, .aload_n 1, 1, 0, 0, 0, 0),
  (1270, .aload_n 0, 1, 0, 0, 0, 0),
  (1271, .iload_n 3, 1, 0, 0, 0, 0),
  (1272, .iconst 1, 1, 20, 1, 0, 0),
  (1273, .iadd, 1, 0, 0, 0, 0),
  (1274, .iaload, 1, 0, 0, 0, 0),
  (1275, .invokevirtual 145, 3, 3, 98, 0, 4168),
  (1278, .pop, 1, 0, 0, 0, 0),
  (1279, .aload_n 2, 1, 0, 0, 0, 0),
  (1280, .aload_n 0, 1, 0, 0, 0, 0),
  (1281, .iload_n 3, 1, 0, 0, 0, 0),
  (1282, .iconst 1, 1, 20, 1, 0, 0),
  (1283, .iadd, 1, 0, 0, 0, 0),
  (1284, .iaload, 1, 0, 0, 0, 0),
  (1285, .invokevirtual 148, 3, 3, 218, 0, 6235),
  (1288, .pop, 1, 0, 0, 0, 0),
  (1289, .goto 293, 3, 0, 0, 0, 0)]
set_option maxRecDepth 100000 in
theorem mz_ks31 : mz_Sub (mz_kh ++ (mz_kc31 ++ mz_kz)) mz_kL := mz_sub_of mz_upL (mz_mem_two mz_khM (mz_mem_two (mz_mem_pc (show mz_kc31 = (mz_kL.drop 883).take 17 from rfl)) mz_kzM))
noncomputable def mz_kc32 : mz_K := [
  (1292, .aload_n 1, 1, 0, 0, 0, 0),
  (1293, .aload_n 0, 1, 0, 0, 0, 0),
  (1294, .iload_n 3, 1, 0, 0, 0, 0),
  (1295, .iconst 1, 1, 20, 1, 0, 0),
  (1296, .iadd, 1, 0, 0, 0, 0),
  (1297, .iaload, 1, 0, 0, 0, 0),
  (1298, .aload_n 0, 1, 0, 0, 0, 0),
  (1299, .iload_n 3, 1, 0, 0, 0, 0),
  (1300, .iconst 2, 1, 20, 2, 0, 0),
  (1301, .iadd, 1, 0, 0, 0, 0),
  (1302, .iaload, 1, 0, 0, 0, 0),
  (1303, .aload_n 0, 1, 0, 0, 0, 0),
  (1304, .iload_n 3, 1, 0, 0, 0, 0),
  (1305, .iconst 3, 1, 20, 3, 0, 0),
  (1306, .iadd, 1, 0, 0, 0, 0),
  (1307, .iaload, 1, 0, 0, 0, 0),
  (1308, .invokevirtual 149, 3, 3, 99, 0, 4172),
  (1311, .pop, 1, 0, 0, 0, 0),
  (1312, .aload_n 2, 1, 0, 0, 0, 0),
  (1313, .aload_n 0, 1, 0, 0, 0, 0),
  (1314, .iload_n 3, 1, 0, 0, 0, 0),
  (1315, .iconst 1, 1, 20, 1, 0, 0),
  (1316, .iadd, 1, 0, 0, 0, 0),
  (1317, .iaload, 1, 0, 0, 0, 0),
  (1318, .aload_n 0, 1, 0, 0, 0, 0),
  (1319, .iload_n 3, 1, 0, 0, 0, 0),
  (1320, .iconst 2, 1, 20, 2, 0, 0),
  (1321, .iadd, 1, 0, 0, 0, 0),
  (1322, .iaload, 1, 0, 0, 0, 0),
  (1323, .aload_n 0, 1, 0, 0, 0, 0),
  (1324, .iload_n 3, 1, 0, 0, 0, 0),
  (1325, .iconst 3, 1, 20, 3, 0, 0),
  (1326, .iadd, 1, 0, 0, 0, 0),
  (1327, .iaload, 1, 0, 0, 0, 0),
  (1328, .invokevirtual 152, 3, 3, 220, 0, 6239),
  (1331, .pop, 1, 0, 0, 0, 0),
  (1332, .goto 250, 3, 0, 0, 0, 0)]
set_option maxRecDepth 100000 in
theorem mz_ks32 : mz_Sub (mz_kh ++ (mz_kc32 ++ mz_kz)) mz_kL := mz_sub_of mz_upL (mz_mem_two mz_khM (mz_mem_two (mz_mem_pc (show mz_kc32 = (mz_kL.drop 900).take 37 from rfl)) mz_kzM))
noncomputable def mz_kc33 : mz_K := [
  (1335, .aload_n 1, 1, 0, 0, 0, 0),
  (1336, .aload_n 0, 1, 0, 0, 0, 0),
  (1337, .iload_n 3, 1, 0, 0, 0, 0),
  (1338, .iconst 1, 1, 20, 1, 0, 0),
  (1339, .iadd, 1, 0, 0, 0, 0),
  (1340, .iaload, 1, 0, 0, 0, 0),
  (1341, .aload_n 0, 1, 0, 0, 0, 0),
  (1342, .iload_n 3, 1, 0, 0, 0, 0),
  (1343, .iconst 2, 1, 20, 2, 0, 0),
  (1344, .iadd, 1, 0, 0, 0, 0),
  (1345, .iaload, 1, 0, 0, 0, 0),
  (1346, .aload_n 0, 1, 0, 0, 0, 0),
  (1347, .iload_n 3, 1, 0, 0, 0, 0),
  (1348, .iconst 3, 1, 20, 3, 0, 0),
  (1349, .iadd, 1, 0, 0, 0, 0),
  (1350, .iaload, 1, 0, 0, 0, 0),
  (1351, .invokevirtual 153, 3, 3, 100, 0, 4186),
  (1354, .pop, 1, 0, 0, 0, 0),
  (1355, .aload_n 2, 1, 0, 0, 0, 0),
  (1356, .aload_n 0, 1, 0, 0, 0, 0),
  (1357, .iload_n 3, 1, 0, 0, 0, 0),
  (1358, .iconst 1, 1, 20, 1, 0, 0),
  (1359, .iadd, 1, 0, 0, 0, 0),
  (1360, .iaload, 1, 0, 0, 0, 0),
  (1361, .aload_n 0, 1, 0, 0, 0, 0),
  (1362, .iload_n 3, 1, 0, 0, 0, 0),
  (1363, .iconst 2, 1, 20, 2, 0, 0),
  (1364, .iadd, 1, 0, 0, 0, 0),
  (1365, .iaload, 1, 0, 0, 0, 0),
  (1366, .aload_n 0, 1, 0, 0, 0, 0),
  (1367, .iload_n 3, 1, 0, 0, 0, 0),
  (1368, .iconst 3, 1, 20, 3, 0, 0),
  (1369, .iadd, 1, 0, 0, 0, 0),
  (1370, .iaload, 1, 0, 0, 0, 0),
  (1371, .invokevirtual 156, 3, 3, 221, 0, 7006),
  (1374, .pop, 1, 0, 0, 0, 0),
  (1375, .goto 207, 3, 0, 0, 0, 0)]
set_option maxRecDepth 100000 in
theorem mz_ks33 : mz_Sub (mz_kh ++ (mz_kc33 ++ mz_kz)) mz_kL := mz_sub_of mz_upL (mz_mem_two mz_khM (mz_mem_two (mz_mem_pc (show mz_kc33 = (mz_kL.drop 937).take 37 from rfl)) mz_kzM))
noncomputable def mz_kc34 : mz_K := [
  (1378, .aload_n 1, 1, 0, 0, 0, 0),
  (1379, .aload_n 0, 1, 0, 0, 0, 0),
  (1380, .iload_n 3, 1, 0, 0, 0, 0),
  (1381, .iconst 1, 1, 20, 1, 0, 0),
  (1382, .iadd, 1, 0, 0, 0, 0),
  (1383, .iaload, 1, 0, 0, 0, 0),
  (1384, .aload_n 0, 1, 0, 0, 0, 0),
  (1385, .iload_n 3, 1, 0, 0, 0, 0),
  (1386, .iconst 2, 1, 20, 2, 0, 0),
  (1387, .iadd, 1, 0, 0, 0, 0),
  (1388, .iaload, 1, 0, 0, 0, 0),
  (1389, .aload_n 0, 1, 0, 0, 0, 0),
  (1390, .iload_n 3, 1, 0, 0, 0, 0),
  (1391, .iconst 3, 1, 20, 3, 0, 0),
  (1392, .iadd, 1, 0, 0, 0, 0),
  (1393, .iaload, 1, 0, 0, 0, 0),
  (1394, .aload_n 0, 1, 0, 0, 0, 0),
  (1395, .iload_n 3, 1, 0, 0, 0, 0),
  (1396, .iconst 4, 1, 20, 4, 0, 0),
  (1397, .iadd, 1, 0, 0, 0, 0),
  (1398, .iaload, 1, 0, 0, 0, 0),
  (1399, .aload_n 0, 1, 0, 0, 0, 0),
  (1400, .iload_n 3, 1, 0, 0, 0, 0),
  (1401, .iconst 5, 1, 20, 5, 0, 0),
  (1402, .iadd, 1, 0, 0, 0, 0),
  (1403, .iaload, 1, 0, 0, 0, 0),
  (1404, .invokevirtual 157, 3, 3, 101, 0, 4202),
  (1407, .pop, 1, 0, 0, 0, 0),
  (1408, .aload_n 2, 1, 0, 0, 0, 0),
  (1409, .aload_n 0, 1, 0, 0, 0, 0),
  (1410, .iload_n 3, 1, 0, 0, 0, 0),
  (1411, .iconst 1, 1, 20, 1, 0, 0),
  (1412, .iadd, 1, 0, 0, 0, 0),
  (1413, .iaload, 1, 0, 0, 0, 0),
  (1414, .aload_n 0, 1, 0, 0, 0, 0),
  (1415, .iload_n 3, 1, 0, 0, 0, 0),
  (1416, .iconst 2, 1, 20, 2, 0, 0),
  (1417, .iadd, 1, 0, 0, 0, 0),
  (1418, .iaload, 1, 0, 0, 0, 0),
  (1419, .aload_n 0, 1, 0, 0, 0, 0),
  (1420, .iload_n 3, 1, 0, 0, 0, 0),
  (1421, .iconst 3, 1, 20, 3, 0, 0),
  (1422, .iadd, 1, 0, 0, 0, 0),
  (1423, .iaload, 1, 0, 0, 0, 0),
  (1424, .aload_n 0, 1, 0, 0, 0, 0),
  (1425, .iload_n 3, 1, 0, 0, 0, 0),
  (1426, .iconst 4, 1, 20, 4, 0, 0),
  (1427, .iadd, 1, 0, 0, 0, 0),
  (1428, .iaload, 1, 0, 0, 0, 0),
  (1429, .aload_n 0, 1, 0, 0, 0, 0),
  (1430, .iload_n 3, 1, 0, 0, 0, 0),
  (1431, .iconst 5, 1, 20, 5, 0, 0),
  (1432, .iadd, 1, 0, 0, 0, 0),
  (1433, .iaload, 1, 0, 0, 0, 0),
  (1434, .invokevirtual 161, 3, 3, 222, 0, 7010),
  (1437, .pop, 1, 0, 0, 0, 0),
  (1438, .goto 144, 3, 0, 0, 0, 0)]
set_option maxRecDepth 100000 in
theorem mz_ks34 : mz_Sub (mz_kh ++ (mz_kc34 ++ mz_kz)) mz_kL := mz_sub_of mz_upL (mz_mem_two mz_khM (mz_mem_two (mz_mem_pc (show mz_kc34 = (mz_kL.drop 974).take 57 from rfl)) mz_kzM))
noncomputable def mz_kc35 : mz_K := [
  (1441, .aload_n 1, 1, 0, 0, 0, 0),
  (1442, .aload_n 0, 1, 0, 0, 0, 0),
  (1443, .iload_n 3, 1, 0, 0, 0, 0),
  (1444, .iconst 1, 1, 20, 1, 0, 0),
  (1445, .iadd, 1, 0, 0, 0, 0),
  (1446, .iaload, 1, 0, 0, 0, 0),
  (1447, .invokevirtual 162, 3, 3, 102, 0, 4212),
  (1450, .pop, 1, 0, 0, 0, 0),
  (1451, .aload_n 2, 1, 0, 0, 0, 0),
  (1452, .aload_n 0, 1, 0, 0, 0, 0),
  (1453, .iload_n 3, 1, 0, 0, 0, 0),
  (1454, .iconst 1, 1, 20, 1, 0, 0),
  (1455, .iadd, 1, 0, 0, 0, 0),
  (1456, .iaload, 1, 0, 0, 0, 0),
  (1457, .invokevirtual 165, 3, 3, 223, 0, 7014),
  (1460, .pop, 1, 0, 0, 0, 0),
  (1461, .goto 121, 3, 0, 0, 0, 0)]
set_option maxRecDepth 100000 in
theorem mz_ks35 : mz_Sub (mz_kh ++ (mz_kc35 ++ mz_kz)) mz_kL := mz_sub_of mz_upL (mz_mem_two mz_khM (mz_mem_two (mz_mem_pc (show mz_kc35 = (mz_kL.drop 1031).take 17 from rfl)) mz_kzM))
noncomputable def mz_kc36 : mz_K := [
  (1464, .aload_n 1, 1, 0, 0, 0, 0),
  (1465, .invokevirtual 166, 3, 3, 103, 0, 4224),
  (1468, .pop, 1, 0, 0, 0, 0),
  (1469, .aload_n 2, 1, 0, 0, 0, 0),
  (1470, .invokevirtual 169, 3, 3, 224, 0, 7018),
  (1473, .pop, 1, 0, 0, 0, 0),
  (1474, .goto 108, 3, 0, 0, 0, 0)]
set_option maxRecDepth 100000 in
theorem mz_ks36 : mz_Sub (mz_kh ++ (mz_kc36 ++ mz_kz)) mz_kL := mz_sub_of mz_upL (mz_mem_two mz_khM (mz_mem_two (mz_mem_pc (show mz_kc36 = (mz_kL.drop 1048).take 7 from rfl)) mz_kzM))
noncomputable def mz_kc37 : mz_K := [
  (1477, .aload_n 1, 1, 0, 0, 0, 0),
  (1478, .invokevirtual 170, 3, 3, 104, 0, 5014),
  (1481, .pop, 1, 0, 0, 0, 0),
  (1482, .aload_n 2, 1, 0, 0, 0, 0),
  (1483, .invokevirtual 173, 3, 3, 225, 0, 7022),
  (1486, .pop, 1, 0, 0, 0, 0),
  (1487, .goto 95, 3, 0, 0, 0, 0)]
set_option maxRecDepth 100000 in
theorem mz_ks37 : mz_Sub (mz_kh ++ (mz_kc37 ++ mz_kz)) mz_kL := mz_sub_of mz_upL (mz_mem_two mz_khM (mz_mem_two (mz_mem_pc (show mz_kc37 = (mz_kL.drop 1055).take 7 from rfl)) mz_kzM))
noncomputable def mz_kc38 : mz_K := [
  (1490, .aload_n 1, 1, 0, 0, 0, 0),
  (1491, .aload_n 0, 1, 0, 0, 0, 0),
  (1492, .iload_n 3, 1, 0, 0, 0, 0),
  (1493, .iconst 1, 1, 20, 1, 0, 0),
  (1494, .iadd, 1, 0, 0, 0, 0),
  (1495, .iaload, 1, 0, 0, 0, 0),
  (1496, .invokevirtual 174, 3, 3, 105, 0, 5018),
  (1499, .aload_n 2, 1, 0, 0, 0, 0),
  (1500, .aload_n 0, 1, 0, 0, 0, 0),
  (1501, .iload_n 3, 1, 0, 0, 0, 0),
  (1502, .iconst 1, 1, 20, 1, 0, 0),
  (1503, .iadd, 1, 0, 0, 0, 0),
  (1504, .iaload, 1, 0, 0, 0, 0),
  (1505, .invokevirtual 177, 3, 3, 226, 0, 7026),
  (1508, .if_icmp .eq 74, 3, 0, 0, 0, 0),
  (1511, .iconst 0, 1, 20, 0, 0, 0),
  (1512, .ireturn, 1, 0, 0, 0, 0)]
set_option maxRecDepth 100000 in
theorem mz_ks38 : mz_Sub (mz_kh ++ (mz_kc38 ++ mz_kz)) mz_kL := mz_sub_of mz_upL (mz_mem_two mz_khM (mz_mem_two (mz_mem_pc (show mz_kc38 = (mz_kL.drop 1062).take 17 from rfl)) mz_kzM))
noncomputable def mz_kc39 : mz_K := [
  (1513, .aload_n 1, 1, 0, 0, 0, 0),
  (1514, .aload_n 0, 1, 0, 0, 0, 0),
  (1515, .iload_n 3, 1, 0, 0, 0, 0),
  (1516, .iconst 1, 1, 20, 1, 0, 0),
  (1517, .iadd, 1, 0, 0, 0, 0),
  (1518, .iaload, 1, 0, 0, 0, 0),
  (1519, .invokevirtual 178, 3, 3, 106, 0, 5022),
  (1522, .pop, 1, 0, 0, 0, 0),
  (1523, .aload_n 2, 1, 0, 0, 0, 0),
  (1524, .aload_n 0, 1, 0, 0, 0, 0),
  (1525, .iload_n 3, 1, 0, 0, 0, 0),
  (1526, .iconst 1, 1, 20, 1, 0, 0),
  (1527, .iadd, 1, 0, 0, 0, 0),
  (1528, .iaload, 1, 0, 0, 0, 0),
  (1529, .invokevirtual 181, 3, 3, 227, 0, 7030),
  (1532, .pop, 1, 0, 0, 0, 0),
  (1533, .goto 49, 3, 0, 0, 0, 0)]
set_option maxRecDepth 100000 in
theorem mz_ks39 : mz_Sub (mz_kh ++ (mz_kc39 ++ mz_kz)) mz_kL := mz_sub_of mz_upL (mz_mem_two mz_khM (mz_mem_two (mz_mem_pc (show mz_kc39 = (mz_kL.drop 1079).take 17 from rfl)) mz_kzM))
noncomputable def mz_kc40 : mz_K := [
  (1536, .aload_n 1, 1, 0, 0, 0, 0),
  (1537, .aload_n 0, 1, 0, 0, 0, 0),
  (1538, .iload_n 3, 1, 0, 0, 0, 0),
  (1539, .iconst 1, 1, 20, 1, 0, 0),
  (1540, .iadd, 1, 0, 0, 0, 0),
  (1541, .iaload, 1, 0, 0, 0, 0),
  (1542, .invokevirtual 182, 3, 3, 107, 0, 5026),
  (1545, .pop, 1, 0, 0, 0, 0),
  (1546, .aload_n 2, 1, 0, 0, 0, 0),
  (1547, .aload_n 0, 1, 0, 0, 0, 0),
  (1548, .iload_n 3, 1, 0, 0, 0, 0),
  (1549, .iconst 1, 1, 20, 1, 0, 0),
  (1550, .iadd, 1, 0, 0, 0, 0),
  (1551, .iaload, 1, 0, 0, 0, 0),
  (1552, .invokevirtual 185, 3, 3, 228, 0, 7034),
  (1555, .pop, 1, 0, 0, 0, 0),
  (1556, .goto 26, 3, 0, 0, 0, 0)]
set_option maxRecDepth 100000 in
theorem mz_ks40 : mz_Sub (mz_kh ++ (mz_kc40 ++ mz_kz)) mz_kL := mz_sub_of mz_upL (mz_mem_two mz_khM (mz_mem_two (mz_mem_pc (show mz_kc40 = (mz_kL.drop 1096).take 17 from rfl)) mz_kzM))
noncomputable def mz_kc41 : mz_K := [
  (1559, .aload_n 1, 1, 0, 0, 0, 0),
  (1560, .aload_n 0, 1, 0, 0, 0, 0),
  (1561, .iload_n 3, 1, 0, 0, 0, 0),
  (1562, .iconst 1, 1, 20, 1, 0, 0),
  (1563, .iadd, 1, 0, 0, 0, 0),
  (1564, .iaload, 1, 0, 0, 0, 0),
  (1565, .invokevirtual 186, 3, 3, 108, 0, 5030),
  (1568, .pop, 1, 0, 0, 0, 0),
  (1569, .aload_n 2, 1, 0, 0, 0, 0),
  (1570, .aload_n 0, 1, 0, 0, 0, 0),
  (1571, .iload_n 3, 1, 0, 0, 0, 0),
  (1572, .iconst 1, 1, 20, 1, 0, 0),
  (1573, .iadd, 1, 0, 0, 0, 0),
  (1574, .iaload, 1, 0, 0, 0, 0),
  (1575, .invokevirtual 189, 3, 3, 229, 0, 7038),
  (1578, .pop, 1, 0, 0, 0, 0),
  (1579, .goto 3, 3, 0, 0, 0, 0)]
set_option maxRecDepth 100000 in
theorem mz_ks41 : mz_Sub (mz_kh ++ (mz_kc41 ++ mz_kz)) mz_kL := mz_sub_of mz_upL (mz_mem_two mz_khM (mz_mem_two (mz_mem_pc (show mz_kc41 = (mz_kL.drop 1113).take 17 from rfl)) mz_kzM))
theorem mz_ksz : mz_Sub (mz_kh ++ mz_kz) mz_kL := mz_sub_of mz_upL (mz_mem_two mz_khM mz_kzM)
set_option maxHeartbeats 4000000 in
set_option maxRecDepth 100000 in
theorem lwc_default {xs : Nat → Int32} {L i j : Nat} (hL : L ≤ 384) (hi : i + 6 ≤ L) {m : mz_M} (hj : j < 64) (hI : sm_I j m) (e : (∀ k, m 3000 k = xs k) ∧ (m 3001 0).toNatClampNeg = L) {kk : Int32} (h : xs i &&& 63 = kk) (hk : 41 < kk) (hk0 : ¬ kk < 0) : ∃ m2, sm_I (j + 1) m2 ∧ ((∀ k, m2 3000 k = xs k) ∧ (m2 3001 0).toNatClampNeg = L) ∧ ∀ r, mz_Ex 101 mz_kL (18, [some (.ref 3000), some (.ref 0), some (.ref 65), some (.int ((nI i) + 6))], [], m2) r → mz_Ex 101 mz_kL (18, [some (.ref 3000), some (.ref 0), some (.ref 65), some (.int (nI i))], [], m) r := by
  refine ⟨m, sm_I_scr hj hI (fun _ _ => rfl) rfl rfl, e, fun r hr => ?_⟩
  refine mz_goS mz_ksz 3 (c' := (21, [some (.ref 3000), some (.ref 0), some (.ref 65), some (.int (nI i))], [.int (Int32.ofNat (m 3001 0).toNatClampNeg), .int (nI i)], m)) rfl ?_
  rw [show Int32.ofNat (m 3001 0).toNatClampNeg = nI L from by rw [e.2]; rfl]
  refine mz_goS mz_ksz 3 (c' := (if ((nI L) - 6) < (nI i) then 1588 else 27, [some (.ref 3000), some (.ref 0), some (.ref 65), some (.int (nI i))], [], m)) rfl ?_
  refine mz_ifF (show ¬ (((nI L) - 6) < (nI i)) from (sm_law hL (by omega) (by omega))) ?_
  refine mz_goS mz_ksz 2 (c' := (29, [some (.ref 3000), some (.ref 0), some (.ref 65), some (.int (nI i))], [.int (nI i), .ref 3000], m)) rfl ?_
  refine mz_arrS mz_ksz (c' := (30, [some (.ref 3000), some (.ref 0), some (.ref 65), some (.int (nI i))], [.int (m 3000 ((nI i).toNatClampNeg))], m)) rfl (show mz_in (nI i) (m 3001 0).toNatClampNeg = true from by rw [e.2]; exact sm_inN rfl (show i < L by omega) (by omega)) ?_
  rw [show (nI i : Int32).toNatClampNeg = i from sm_clN rfl (show i < 2 ^ 31 by omega)]
  rw [show m 3000 i = xs i from e.1 _]
  refine mz_goS mz_ksz 2 (c' := (33, [some (.ref 3000), some (.ref 0), some (.ref 65), some (.int (nI i))], [.int ((xs i) &&& 63)], m)) rfl ?_
  rw [h]
  refine mz_swdS mz_ksz (c' := (1582, [some (.ref 3000), some (.ref 0), some (.ref 65), some (.int (nI i))], [], m)) rfl (Or.inr (Int32.lt_iff_toInt_lt.mp hk)) ?_
  refine mz_goS mz_ksz 2 (c' := (18, [some (.ref 3000), some (.ref 0), some (.ref 65), some (.int ((nI i) + 6))], [], m)) rfl ?_
  exact hr
set_option maxHeartbeats 4000000 in
set_option maxRecDepth 100000 in
theorem lwc_magnet {xs : Nat → Int32} {L i j : Nat} (hL : L ≤ 384) (hi : i + 6 ≤ L) {m : mz_M} (hj : j < 64) (hI : sm_I j m) (e : (∀ k, m 3000 k = xs k) ∧ (m 3001 0).toNatClampNeg = L) (h : xs i &&& 63 = 0) : ∃ m2, sm_I (j + 1) m2 ∧ ((∀ k, m2 3000 k = xs k) ∧ (m2 3001 0).toNatClampNeg = L) ∧ ∀ r, mz_Ex 101 mz_kL (18, [some (.ref 3000), some (.ref 0), some (.ref 65), some (.int ((nI i) + 6))], [], m2) r → mz_Ex 101 mz_kL (18, [some (.ref 3000), some (.ref 0), some (.ref 65), some (.int (nI i))], [], m) r := by
  obtain ⟨v1, v2, m1, m2, h1, h2, h3, hv⟩ := sc_magnet hj hI (xs (i + 1)) (xs (i + 2)) (xs (i + 3)) (xs (i + 4))
  have e1 := lw_eL h1 e
  have e2 := lw_eL h2 e1
  refine ⟨m2, h3, e2, fun r hr => ?_⟩
  refine mz_goS mz_ks0 3 (c' := (21, [some (.ref 3000), some (.ref 0), some (.ref 65), some (.int (nI i))], [.int (Int32.ofNat (m 3001 0).toNatClampNeg), .int (nI i)], m)) rfl ?_
  rw [show Int32.ofNat (m 3001 0).toNatClampNeg = nI L from by rw [e.2]; rfl]
  refine mz_goS mz_ks0 3 (c' := (if ((nI L) - 6) < (nI i) then 1588 else 27, [some (.ref 3000), some (.ref 0), some (.ref 65), some (.int (nI i))], [], m)) rfl ?_
  refine mz_ifF (show ¬ (((nI L) - 6) < (nI i)) from (sm_law hL (by omega) (by omega))) ?_
  refine mz_goS mz_ks0 2 (c' := (29, [some (.ref 3000), some (.ref 0), some (.ref 65), some (.int (nI i))], [.int (nI i), .ref 3000], m)) rfl ?_
  refine mz_arrS mz_ks0 (c' := (30, [some (.ref 3000), some (.ref 0), some (.ref 65), some (.int (nI i))], [.int (m 3000 ((nI i).toNatClampNeg))], m)) rfl (show mz_in (nI i) (m 3001 0).toNatClampNeg = true from by rw [e.2]; exact sm_inN rfl (show i < L by omega) (by omega)) ?_
  rw [show (nI i : Int32).toNatClampNeg = i from sm_clN rfl (show i < 2 ^ 31 by omega)]
  rw [show m 3000 i = xs i from e.1 _]
  refine mz_goS mz_ks0 2 (c' := (33, [some (.ref 3000), some (.ref 0), some (.ref 65), some (.int (nI i))], [.int ((xs i) &&& 63)], m)) rfl ?_
  rw [h]
  refine mz_goS mz_ks0 6 (c' := (221, [some (.ref 3000), some (.ref 0), some (.ref 65), some (.int (nI i))], [.int ((nI i) + 1), .ref 3000, .ref 0], m)) rfl ?_
  refine mz_arrS mz_ks0 (c' := (222, [some (.ref 3000), some (.ref 0), some (.ref 65), some (.int (nI i))], [.int (m 3000 (((nI i) + 1).toNatClampNeg)), .ref 0], m)) rfl (show mz_in ((nI i) + 1) (m 3001 0).toNatClampNeg = true from by rw [e.2]; exact sm_inN (sm_addN rfl rfl) (show (i + 1) < L by omega) (by omega)) ?_
  rw [show ((nI i) + 1 : Int32).toNatClampNeg = (i + 1) from sm_clN (sm_addN rfl rfl) (show (i + 1) < 2 ^ 31 by omega)]
  rw [show m 3000 (i + 1) = xs (i + 1) from e.1 _]
  refine mz_goS mz_ks0 4 (c' := (226, [some (.ref 3000), some (.ref 0), some (.ref 65), some (.int (nI i))], [.int ((nI i) + 2), .ref 3000, .int (xs (i + 1)), .ref 0], m)) rfl ?_
  refine mz_arrS mz_ks0 (c' := (227, [some (.ref 3000), some (.ref 0), some (.ref 65), some (.int (nI i))], [.int (m 3000 (((nI i) + 2).toNatClampNeg)), .int (xs (i + 1)), .ref 0], m)) rfl (show mz_in ((nI i) + 2) (m 3001 0).toNatClampNeg = true from by rw [e.2]; exact sm_inN (sm_addN rfl rfl) (show (i + 2) < L by omega) (by omega)) ?_
  rw [show ((nI i) + 2 : Int32).toNatClampNeg = (i + 2) from sm_clN (sm_addN rfl rfl) (show (i + 2) < 2 ^ 31 by omega)]
  rw [show m 3000 (i + 2) = xs (i + 2) from e.1 _]
  refine mz_goS mz_ks0 4 (c' := (231, [some (.ref 3000), some (.ref 0), some (.ref 65), some (.int (nI i))], [.int ((nI i) + 3), .ref 3000, .int (xs (i + 2)), .int (xs (i + 1)), .ref 0], m)) rfl ?_
  refine mz_arrS mz_ks0 (c' := (232, [some (.ref 3000), some (.ref 0), some (.ref 65), some (.int (nI i))], [.int (m 3000 (((nI i) + 3).toNatClampNeg)), .int (xs (i + 2)), .int (xs (i + 1)), .ref 0], m)) rfl (show mz_in ((nI i) + 3) (m 3001 0).toNatClampNeg = true from by rw [e.2]; exact sm_inN (sm_addN rfl rfl) (show (i + 3) < L by omega) (by omega)) ?_
  rw [show ((nI i) + 3 : Int32).toNatClampNeg = (i + 3) from sm_clN (sm_addN rfl rfl) (show (i + 3) < 2 ^ 31 by omega)]
  rw [show m 3000 (i + 3) = xs (i + 3) from e.1 _]
  refine mz_goS mz_ks0 4 (c' := (236, [some (.ref 3000), some (.ref 0), some (.ref 65), some (.int (nI i))], [.int ((nI i) + 4), .ref 3000, .int (xs (i + 3)), .int (xs (i + 2)), .int (xs (i + 1)), .ref 0], m)) rfl ?_
  refine mz_arrS mz_ks0 (c' := (237, [some (.ref 3000), some (.ref 0), some (.ref 65), some (.int (nI i))], [.int (m 3000 (((nI i) + 4).toNatClampNeg)), .int (xs (i + 3)), .int (xs (i + 2)), .int (xs (i + 1)), .ref 0], m)) rfl (show mz_in ((nI i) + 4) (m 3001 0).toNatClampNeg = true from by rw [e.2]; exact sm_inN (sm_addN rfl rfl) (show (i + 4) < L by omega) (by omega)) ?_
  rw [show ((nI i) + 4 : Int32).toNatClampNeg = (i + 4) from sm_clN (sm_addN rfl rfl) (show (i + 4) < 2 ^ 31 by omega)]
  rw [show m 3000 (i + 4) = xs (i + 4) from e.1 _]
  refine mz_doS mz_ks0 (R := mz_r67) (as := [.ref 0, .int (xs (i + 1)), .int (xs (i + 2)), .int (xs (i + 3)), .int (xs (i + 4))]) (rest := []) (r1 := some (.int v1)) (m1 := m1) rfl h1 ?_
  refine mz_goS mz_ks0 6 (c' := (246, [some (.ref 3000), some (.ref 0), some (.ref 65), some (.int (nI i))], [.int ((nI i) + 1), .ref 3000, .ref 65], m1)) rfl ?_
  refine mz_arrS mz_ks0 (c' := (247, [some (.ref 3000), some (.ref 0), some (.ref 65), some (.int (nI i))], [.int (m1 3000 (((nI i) + 1).toNatClampNeg)), .ref 65], m1)) rfl (show mz_in ((nI i) + 1) (m1 3001 0).toNatClampNeg = true from by rw [e1.2]; exact sm_inN (sm_addN rfl rfl) (show (i + 1) < L by omega) (by omega)) ?_
  rw [show ((nI i) + 1 : Int32).toNatClampNeg = (i + 1) from sm_clN (sm_addN rfl rfl) (show (i + 1) < 2 ^ 31 by omega)]
  rw [show m1 3000 (i + 1) = xs (i + 1) from e1.1 _]
  refine mz_goS mz_ks0 4 (c' := (251, [some (.ref 3000), some (.ref 0), some (.ref 65), some (.int (nI i))], [.int ((nI i) + 2), .ref 3000, .int (xs (i + 1)), .ref 65], m1)) rfl ?_
  refine mz_arrS mz_ks0 (c' := (252, [some (.ref 3000), some (.ref 0), some (.ref 65), some (.int (nI i))], [.int (m1 3000 (((nI i) + 2).toNatClampNeg)), .int (xs (i + 1)), .ref 65], m1)) rfl (show mz_in ((nI i) + 2) (m1 3001 0).toNatClampNeg = true from by rw [e1.2]; exact sm_inN (sm_addN rfl rfl) (show (i + 2) < L by omega) (by omega)) ?_
  rw [show ((nI i) + 2 : Int32).toNatClampNeg = (i + 2) from sm_clN (sm_addN rfl rfl) (show (i + 2) < 2 ^ 31 by omega)]
  rw [show m1 3000 (i + 2) = xs (i + 2) from e1.1 _]
  refine mz_goS mz_ks0 4 (c' := (256, [some (.ref 3000), some (.ref 0), some (.ref 65), some (.int (nI i))], [.int ((nI i) + 3), .ref 3000, .int (xs (i + 2)), .int (xs (i + 1)), .ref 65], m1)) rfl ?_
  refine mz_arrS mz_ks0 (c' := (257, [some (.ref 3000), some (.ref 0), some (.ref 65), some (.int (nI i))], [.int (m1 3000 (((nI i) + 3).toNatClampNeg)), .int (xs (i + 2)), .int (xs (i + 1)), .ref 65], m1)) rfl (show mz_in ((nI i) + 3) (m1 3001 0).toNatClampNeg = true from by rw [e1.2]; exact sm_inN (sm_addN rfl rfl) (show (i + 3) < L by omega) (by omega)) ?_
  rw [show ((nI i) + 3 : Int32).toNatClampNeg = (i + 3) from sm_clN (sm_addN rfl rfl) (show (i + 3) < 2 ^ 31 by omega)]
  rw [show m1 3000 (i + 3) = xs (i + 3) from e1.1 _]
  refine mz_goS mz_ks0 4 (c' := (261, [some (.ref 3000), some (.ref 0), some (.ref 65), some (.int (nI i))], [.int ((nI i) + 4), .ref 3000, .int (xs (i + 3)), .int (xs (i + 2)), .int (xs (i + 1)), .ref 65], m1)) rfl ?_
  refine mz_arrS mz_ks0 (c' := (262, [some (.ref 3000), some (.ref 0), some (.ref 65), some (.int (nI i))], [.int (m1 3000 (((nI i) + 4).toNatClampNeg)), .int (xs (i + 3)), .int (xs (i + 2)), .int (xs (i + 1)), .ref 65], m1)) rfl (show mz_in ((nI i) + 4) (m1 3001 0).toNatClampNeg = true from by rw [e1.2]; exact sm_inN (sm_addN rfl rfl) (show (i + 4) < L by omega) (by omega)) ?_
  rw [show ((nI i) + 4 : Int32).toNatClampNeg = (i + 4) from sm_clN (sm_addN rfl rfl) (show (i + 4) < 2 ^ 31 by omega)]
  rw [show m1 3000 (i + 4) = xs (i + 4) from e1.1 _]
  refine mz_doS mz_ks0 (R := mz_r137) (as := [.ref 65, .int (xs (i + 1)), .int (xs (i + 2)), .int (xs (i + 3)), .int (xs (i + 4))]) (rest := []) (r1 := some (.int v2)) (m1 := m2) rfl h2 ?_
  refine mz_goS mz_ks0 4 (c' := (18, [some (.ref 3000), some (.ref 0), some (.ref 65), some (.int ((nI i) + 6))], [], m2)) rfl ?_
  exact hr
set_option maxHeartbeats 4000000 in
set_option maxRecDepth 100000 in
theorem lwc_magnetIs {xs : Nat → Int32} {L i j : Nat} (hL : L ≤ 384) (hi : i + 6 ≤ L) {m : mz_M} (hj : j < 64) (hI : sm_I j m) (e : (∀ k, m 3000 k = xs k) ∧ (m 3001 0).toNatClampNeg = L) (h : xs i &&& 63 = 1) : ∃ m2, sm_I (j + 1) m2 ∧ ((∀ k, m2 3000 k = xs k) ∧ (m2 3001 0).toNatClampNeg = L) ∧ ∀ r, mz_Ex 101 mz_kL (18, [some (.ref 3000), some (.ref 0), some (.ref 65), some (.int ((nI i) + 6))], [], m2) r → mz_Ex 101 mz_kL (18, [some (.ref 3000), some (.ref 0), some (.ref 65), some (.int (nI i))], [], m) r := by
  obtain ⟨v1, v2, m1, m2, h1, h2, h3, hv⟩ := sc_magnetIs hj hI (xs (i + 1)) (xs (i + 2))
  have e1 := lw_eL h1 e
  have e2 := lw_eL h2 e1
  refine ⟨m2, h3, e2, fun r hr => ?_⟩
  refine mz_goS mz_ks1 3 (c' := (21, [some (.ref 3000), some (.ref 0), some (.ref 65), some (.int (nI i))], [.int (Int32.ofNat (m 3001 0).toNatClampNeg), .int (nI i)], m)) rfl ?_
  rw [show Int32.ofNat (m 3001 0).toNatClampNeg = nI L from by rw [e.2]; rfl]
  refine mz_goS mz_ks1 3 (c' := (if ((nI L) - 6) < (nI i) then 1588 else 27, [some (.ref 3000), some (.ref 0), some (.ref 65), some (.int (nI i))], [], m)) rfl ?_
  refine mz_ifF (show ¬ (((nI L) - 6) < (nI i)) from (sm_law hL (by omega) (by omega))) ?_
  refine mz_goS mz_ks1 2 (c' := (29, [some (.ref 3000), some (.ref 0), some (.ref 65), some (.int (nI i))], [.int (nI i), .ref 3000], m)) rfl ?_
  refine mz_arrS mz_ks1 (c' := (30, [some (.ref 3000), some (.ref 0), some (.ref 65), some (.int (nI i))], [.int (m 3000 ((nI i).toNatClampNeg))], m)) rfl (show mz_in (nI i) (m 3001 0).toNatClampNeg = true from by rw [e.2]; exact sm_inN rfl (show i < L by omega) (by omega)) ?_
  rw [show (nI i : Int32).toNatClampNeg = i from sm_clN rfl (show i < 2 ^ 31 by omega)]
  rw [show m 3000 i = xs i from e.1 _]
  refine mz_goS mz_ks1 2 (c' := (33, [some (.ref 3000), some (.ref 0), some (.ref 65), some (.int (nI i))], [.int ((xs i) &&& 63)], m)) rfl ?_
  rw [h]
  refine mz_goS mz_ks1 6 (c' := (274, [some (.ref 3000), some (.ref 0), some (.ref 65), some (.int (nI i))], [.int ((nI i) + 1), .ref 3000, .ref 0], m)) rfl ?_
  refine mz_arrS mz_ks1 (c' := (275, [some (.ref 3000), some (.ref 0), some (.ref 65), some (.int (nI i))], [.int (m 3000 (((nI i) + 1).toNatClampNeg)), .ref 0], m)) rfl (show mz_in ((nI i) + 1) (m 3001 0).toNatClampNeg = true from by rw [e.2]; exact sm_inN (sm_addN rfl rfl) (show (i + 1) < L by omega) (by omega)) ?_
  rw [show ((nI i) + 1 : Int32).toNatClampNeg = (i + 1) from sm_clN (sm_addN rfl rfl) (show (i + 1) < 2 ^ 31 by omega)]
  rw [show m 3000 (i + 1) = xs (i + 1) from e.1 _]
  refine mz_goS mz_ks1 4 (c' := (279, [some (.ref 3000), some (.ref 0), some (.ref 65), some (.int (nI i))], [.int ((nI i) + 2), .ref 3000, .int (xs (i + 1)), .ref 0], m)) rfl ?_
  refine mz_arrS mz_ks1 (c' := (280, [some (.ref 3000), some (.ref 0), some (.ref 65), some (.int (nI i))], [.int (m 3000 (((nI i) + 2).toNatClampNeg)), .int (xs (i + 1)), .ref 0], m)) rfl (show mz_in ((nI i) + 2) (m 3001 0).toNatClampNeg = true from by rw [e.2]; exact sm_inN (sm_addN rfl rfl) (show (i + 2) < L by omega) (by omega)) ?_
  rw [show ((nI i) + 2 : Int32).toNatClampNeg = (i + 2) from sm_clN (sm_addN rfl rfl) (show (i + 2) < 2 ^ 31 by omega)]
  rw [show m 3000 (i + 2) = xs (i + 2) from e.1 _]
  refine mz_doS mz_ks1 (R := mz_r68) (as := [.ref 0, .int (xs (i + 1)), .int (xs (i + 2))]) (rest := []) (r1 := some (.int v1)) (m1 := m1) rfl h1 ?_
  refine mz_goS mz_ks1 6 (c' := (289, [some (.ref 3000), some (.ref 0), some (.ref 65), some (.int (nI i))], [.int ((nI i) + 1), .ref 3000, .ref 65], m1)) rfl ?_
  refine mz_arrS mz_ks1 (c' := (290, [some (.ref 3000), some (.ref 0), some (.ref 65), some (.int (nI i))], [.int (m1 3000 (((nI i) + 1).toNatClampNeg)), .ref 65], m1)) rfl (show mz_in ((nI i) + 1) (m1 3001 0).toNatClampNeg = true from by rw [e1.2]; exact sm_inN (sm_addN rfl rfl) (show (i + 1) < L by omega) (by omega)) ?_
  rw [show ((nI i) + 1 : Int32).toNatClampNeg = (i + 1) from sm_clN (sm_addN rfl rfl) (show (i + 1) < 2 ^ 31 by omega)]
  rw [show m1 3000 (i + 1) = xs (i + 1) from e1.1 _]
  refine mz_goS mz_ks1 4 (c' := (294, [some (.ref 3000), some (.ref 0), some (.ref 65), some (.int (nI i))], [.int ((nI i) + 2), .ref 3000, .int (xs (i + 1)), .ref 65], m1)) rfl ?_
  refine mz_arrS mz_ks1 (c' := (295, [some (.ref 3000), some (.ref 0), some (.ref 65), some (.int (nI i))], [.int (m1 3000 (((nI i) + 2).toNatClampNeg)), .int (xs (i + 1)), .ref 65], m1)) rfl (show mz_in ((nI i) + 2) (m1 3001 0).toNatClampNeg = true from by rw [e1.2]; exact sm_inN (sm_addN rfl rfl) (show (i + 2) < L by omega) (by omega)) ?_
  rw [show ((nI i) + 2 : Int32).toNatClampNeg = (i + 2) from sm_clN (sm_addN rfl rfl) (show (i + 2) < 2 ^ 31 by omega)]
  rw [show m1 3000 (i + 2) = xs (i + 2) from e1.1 _]
  refine mz_doS mz_ks1 (R := mz_r138) (as := [.ref 65, .int (xs (i + 1)), .int (xs (i + 2))]) (rest := []) (r1 := some (.int v2)) (m1 := m2) rfl h2 ?_
  refine mz_goS mz_ks1 4 (c' := (18, [some (.ref 3000), some (.ref 0), some (.ref 65), some (.int ((nI i) + 6))], [], m2)) rfl ?_
  exact hr
set_option maxHeartbeats 4000000 in
set_option maxRecDepth 100000 in
theorem lwc_as {xs : Nat → Int32} {L i j : Nat} (hL : L ≤ 384) (hi : i + 6 ≤ L) {m : mz_M} (hj : j < 64) (hI : sm_I j m) (e : (∀ k, m 3000 k = xs k) ∧ (m 3001 0).toNatClampNeg = L) (h : xs i &&& 63 = 2) : ∃ m2, sm_I (j + 1) m2 ∧ ((∀ k, m2 3000 k = xs k) ∧ (m2 3001 0).toNatClampNeg = L) ∧ ∀ r, mz_Ex 101 mz_kL (18, [some (.ref 3000), some (.ref 0), some (.ref 65), some (.int ((nI i) + 6))], [], m2) r → mz_Ex 101 mz_kL (18, [some (.ref 3000), some (.ref 0), some (.ref 65), some (.int (nI i))], [], m) r := by
  obtain ⟨v1, v2, m1, m2, h1, h2, h3, hv⟩ := sc_as hj hI (xs (i + 1)) (xs (i + 2))
  have e1 := lw_eL h1 e
  have e2 := lw_eL h2 e1
  refine ⟨m2, h3, e2, fun r hr => ?_⟩
  refine mz_goS mz_ks2 3 (c' := (21, [some (.ref 3000), some (.ref 0), some (.ref 65), some (.int (nI i))], [.int (Int32.ofNat (m 3001 0).toNatClampNeg), .int (nI i)], m)) rfl ?_
  rw [show Int32.ofNat (m 3001 0).toNatClampNeg = nI L from by rw [e.2]; rfl]
  refine mz_goS mz_ks2 3 (c' := (if ((nI L) - 6) < (nI i) then 1588 else 27, [some (.ref 3000), some (.ref 0), some (.ref 65), some (.int (nI i))], [], m)) rfl ?_
  refine mz_ifF (show ¬ (((nI L) - 6) < (nI i)) from (sm_law hL (by omega) (by omega))) ?_
  refine mz_goS mz_ks2 2 (c' := (29, [some (.ref 3000), some (.ref 0), some (.ref 65), some (.int (nI i))], [.int (nI i), .ref 3000], m)) rfl ?_
  refine mz_arrS mz_ks2 (c' := (30, [some (.ref 3000), some (.ref 0), some (.ref 65), some (.int (nI i))], [.int (m 3000 ((nI i).toNatClampNeg))], m)) rfl (show mz_in (nI i) (m 3001 0).toNatClampNeg = true from by rw [e.2]; exact sm_inN rfl (show i < L by omega) (by omega)) ?_
  rw [show (nI i : Int32).toNatClampNeg = i from sm_clN rfl (show i < 2 ^ 31 by omega)]
  rw [show m 3000 i = xs i from e.1 _]
  refine mz_goS mz_ks2 2 (c' := (33, [some (.ref 3000), some (.ref 0), some (.ref 65), some (.int (nI i))], [.int ((xs i) &&& 63)], m)) rfl ?_
  rw [h]
  refine mz_goS mz_ks2 6 (c' := (307, [some (.ref 3000), some (.ref 0), some (.ref 65), some (.int (nI i))], [.int ((nI i) + 1), .ref 3000, .ref 0], m)) rfl ?_
  refine mz_arrS mz_ks2 (c' := (308, [some (.ref 3000), some (.ref 0), some (.ref 65), some (.int (nI i))], [.int (m 3000 (((nI i) + 1).toNatClampNeg)), .ref 0], m)) rfl (show mz_in ((nI i) + 1) (m 3001 0).toNatClampNeg = true from by rw [e.2]; exact sm_inN (sm_addN rfl rfl) (show (i + 1) < L by omega) (by omega)) ?_
  rw [show ((nI i) + 1 : Int32).toNatClampNeg = (i + 1) from sm_clN (sm_addN rfl rfl) (show (i + 1) < 2 ^ 31 by omega)]
  rw [show m 3000 (i + 1) = xs (i + 1) from e.1 _]
  refine mz_goS mz_ks2 4 (c' := (312, [some (.ref 3000), some (.ref 0), some (.ref 65), some (.int (nI i))], [.int ((nI i) + 2), .ref 3000, .int (xs (i + 1)), .ref 0], m)) rfl ?_
  refine mz_arrS mz_ks2 (c' := (313, [some (.ref 3000), some (.ref 0), some (.ref 65), some (.int (nI i))], [.int (m 3000 (((nI i) + 2).toNatClampNeg)), .int (xs (i + 1)), .ref 0], m)) rfl (show mz_in ((nI i) + 2) (m 3001 0).toNatClampNeg = true from by rw [e.2]; exact sm_inN (sm_addN rfl rfl) (show (i + 2) < L by omega) (by omega)) ?_
  rw [show ((nI i) + 2 : Int32).toNatClampNeg = (i + 2) from sm_clN (sm_addN rfl rfl) (show (i + 2) < 2 ^ 31 by omega)]
  rw [show m 3000 (i + 2) = xs (i + 2) from e.1 _]
  refine mz_doS mz_ks2 (R := mz_r69) (as := [.ref 0, .int (xs (i + 1)), .int (xs (i + 2))]) (rest := []) (r1 := some (.int v1)) (m1 := m1) rfl h1 ?_
  refine mz_goS mz_ks2 6 (c' := (322, [some (.ref 3000), some (.ref 0), some (.ref 65), some (.int (nI i))], [.int ((nI i) + 1), .ref 3000, .ref 65], m1)) rfl ?_
  refine mz_arrS mz_ks2 (c' := (323, [some (.ref 3000), some (.ref 0), some (.ref 65), some (.int (nI i))], [.int (m1 3000 (((nI i) + 1).toNatClampNeg)), .ref 65], m1)) rfl (show mz_in ((nI i) + 1) (m1 3001 0).toNatClampNeg = true from by rw [e1.2]; exact sm_inN (sm_addN rfl rfl) (show (i + 1) < L by omega) (by omega)) ?_
  rw [show ((nI i) + 1 : Int32).toNatClampNeg = (i + 1) from sm_clN (sm_addN rfl rfl) (show (i + 1) < 2 ^ 31 by omega)]
  rw [show m1 3000 (i + 1) = xs (i + 1) from e1.1 _]
  refine mz_goS mz_ks2 4 (c' := (327, [some (.ref 3000), some (.ref 0), some (.ref 65), some (.int (nI i))], [.int ((nI i) + 2), .ref 3000, .int (xs (i + 1)), .ref 65], m1)) rfl ?_
  refine mz_arrS mz_ks2 (c' := (328, [some (.ref 3000), some (.ref 0), some (.ref 65), some (.int (nI i))], [.int (m1 3000 (((nI i) + 2).toNatClampNeg)), .int (xs (i + 1)), .ref 65], m1)) rfl (show mz_in ((nI i) + 2) (m1 3001 0).toNatClampNeg = true from by rw [e1.2]; exact sm_inN (sm_addN rfl rfl) (show (i + 2) < L by omega) (by omega)) ?_
  rw [show ((nI i) + 2 : Int32).toNatClampNeg = (i + 2) from sm_clN (sm_addN rfl rfl) (show (i + 2) < 2 ^ 31 by omega)]
  rw [show m1 3000 (i + 2) = xs (i + 2) from e1.1 _]
  refine mz_doS mz_ks2 (R := mz_r139) (as := [.ref 65, .int (xs (i + 1)), .int (xs (i + 2))]) (rest := []) (r1 := some (.int v2)) (m1 := m2) rfl h2 ?_
  refine mz_goS mz_ks2 4 (c' := (18, [some (.ref 3000), some (.ref 0), some (.ref 65), some (.int ((nI i) + 6))], [], m2)) rfl ?_
  exact hr
set_option maxHeartbeats 4000000 in
set_option maxRecDepth 100000 in
theorem lwc_shift {xs : Nat → Int32} {L i j : Nat} (hL : L ≤ 384) (hi : i + 6 ≤ L) {m : mz_M} (hj : j < 64) (hI : sm_I j m) (e : (∀ k, m 3000 k = xs k) ∧ (m 3001 0).toNatClampNeg = L) (h : xs i &&& 63 = 3) : ∃ m2, sm_I (j + 1) m2 ∧ ((∀ k, m2 3000 k = xs k) ∧ (m2 3001 0).toNatClampNeg = L) ∧ ∀ r, mz_Ex 101 mz_kL (18, [some (.ref 3000), some (.ref 0), some (.ref 65), some (.int ((nI i) + 6))], [], m2) r → mz_Ex 101 mz_kL (18, [some (.ref 3000), some (.ref 0), some (.ref 65), some (.int (nI i))], [], m) r := by
  obtain ⟨v1, v2, m1, m2, h1, h2, h3, hv⟩ := sc_shift hj hI (xs (i + 1)) (xs (i + 2)) (xs (i + 3)) (xs (i + 4))
  have e1 := lw_eL h1 e
  have e2 := lw_eL h2 e1
  refine ⟨m2, h3, e2, fun r hr => ?_⟩
  refine mz_goS mz_ks3 3 (c' := (21, [some (.ref 3000), some (.ref 0), some (.ref 65), some (.int (nI i))], [.int (Int32.ofNat (m 3001 0).toNatClampNeg), .int (nI i)], m)) rfl ?_
  rw [show Int32.ofNat (m 3001 0).toNatClampNeg = nI L from by rw [e.2]; rfl]
  refine mz_goS mz_ks3 3 (c' := (if ((nI L) - 6) < (nI i) then 1588 else 27, [some (.ref 3000), some (.ref 0), some (.ref 65), some (.int (nI i))], [], m)) rfl ?_
  refine mz_ifF (show ¬ (((nI L) - 6) < (nI i)) from (sm_law hL (by omega) (by omega))) ?_
  refine mz_goS mz_ks3 2 (c' := (29, [some (.ref 3000), some (.ref 0), some (.ref 65), some (.int (nI i))], [.int (nI i), .ref 3000], m)) rfl ?_
  refine mz_arrS mz_ks3 (c' := (30, [some (.ref 3000), some (.ref 0), some (.ref 65), some (.int (nI i))], [.int (m 3000 ((nI i).toNatClampNeg))], m)) rfl (show mz_in (nI i) (m 3001 0).toNatClampNeg = true from by rw [e.2]; exact sm_inN rfl (show i < L by omega) (by omega)) ?_
  rw [show (nI i : Int32).toNatClampNeg = i from sm_clN rfl (show i < 2 ^ 31 by omega)]
  rw [show m 3000 i = xs i from e.1 _]
  refine mz_goS mz_ks3 2 (c' := (33, [some (.ref 3000), some (.ref 0), some (.ref 65), some (.int (nI i))], [.int ((xs i) &&& 63)], m)) rfl ?_
  rw [h]
  refine mz_goS mz_ks3 6 (c' := (340, [some (.ref 3000), some (.ref 0), some (.ref 65), some (.int (nI i))], [.int ((nI i) + 1), .ref 3000, .ref 0], m)) rfl ?_
  refine mz_arrS mz_ks3 (c' := (341, [some (.ref 3000), some (.ref 0), some (.ref 65), some (.int (nI i))], [.int (m 3000 (((nI i) + 1).toNatClampNeg)), .ref 0], m)) rfl (show mz_in ((nI i) + 1) (m 3001 0).toNatClampNeg = true from by rw [e.2]; exact sm_inN (sm_addN rfl rfl) (show (i + 1) < L by omega) (by omega)) ?_
  rw [show ((nI i) + 1 : Int32).toNatClampNeg = (i + 1) from sm_clN (sm_addN rfl rfl) (show (i + 1) < 2 ^ 31 by omega)]
  rw [show m 3000 (i + 1) = xs (i + 1) from e.1 _]
  refine mz_goS mz_ks3 4 (c' := (345, [some (.ref 3000), some (.ref 0), some (.ref 65), some (.int (nI i))], [.int ((nI i) + 2), .ref 3000, .int (xs (i + 1)), .ref 0], m)) rfl ?_
  refine mz_arrS mz_ks3 (c' := (346, [some (.ref 3000), some (.ref 0), some (.ref 65), some (.int (nI i))], [.int (m 3000 (((nI i) + 2).toNatClampNeg)), .int (xs (i + 1)), .ref 0], m)) rfl (show mz_in ((nI i) + 2) (m 3001 0).toNatClampNeg = true from by rw [e.2]; exact sm_inN (sm_addN rfl rfl) (show (i + 2) < L by omega) (by omega)) ?_
  rw [show ((nI i) + 2 : Int32).toNatClampNeg = (i + 2) from sm_clN (sm_addN rfl rfl) (show (i + 2) < 2 ^ 31 by omega)]
  rw [show m 3000 (i + 2) = xs (i + 2) from e.1 _]
  refine mz_goS mz_ks3 4 (c' := (350, [some (.ref 3000), some (.ref 0), some (.ref 65), some (.int (nI i))], [.int ((nI i) + 3), .ref 3000, .int (xs (i + 2)), .int (xs (i + 1)), .ref 0], m)) rfl ?_
  refine mz_arrS mz_ks3 (c' := (351, [some (.ref 3000), some (.ref 0), some (.ref 65), some (.int (nI i))], [.int (m 3000 (((nI i) + 3).toNatClampNeg)), .int (xs (i + 2)), .int (xs (i + 1)), .ref 0], m)) rfl (show mz_in ((nI i) + 3) (m 3001 0).toNatClampNeg = true from by rw [e.2]; exact sm_inN (sm_addN rfl rfl) (show (i + 3) < L by omega) (by omega)) ?_
  rw [show ((nI i) + 3 : Int32).toNatClampNeg = (i + 3) from sm_clN (sm_addN rfl rfl) (show (i + 3) < 2 ^ 31 by omega)]
  rw [show m 3000 (i + 3) = xs (i + 3) from e.1 _]
  refine mz_goS mz_ks3 4 (c' := (355, [some (.ref 3000), some (.ref 0), some (.ref 65), some (.int (nI i))], [.int ((nI i) + 4), .ref 3000, .int (xs (i + 3)), .int (xs (i + 2)), .int (xs (i + 1)), .ref 0], m)) rfl ?_
  refine mz_arrS mz_ks3 (c' := (356, [some (.ref 3000), some (.ref 0), some (.ref 65), some (.int (nI i))], [.int (m 3000 (((nI i) + 4).toNatClampNeg)), .int (xs (i + 3)), .int (xs (i + 2)), .int (xs (i + 1)), .ref 0], m)) rfl (show mz_in ((nI i) + 4) (m 3001 0).toNatClampNeg = true from by rw [e.2]; exact sm_inN (sm_addN rfl rfl) (show (i + 4) < L by omega) (by omega)) ?_
  rw [show ((nI i) + 4 : Int32).toNatClampNeg = (i + 4) from sm_clN (sm_addN rfl rfl) (show (i + 4) < 2 ^ 31 by omega)]
  rw [show m 3000 (i + 4) = xs (i + 4) from e.1 _]
  refine mz_doS mz_ks3 (R := mz_r70) (as := [.ref 0, .int (xs (i + 1)), .int (xs (i + 2)), .int (xs (i + 3)), .int (xs (i + 4))]) (rest := []) (r1 := some (.int v1)) (m1 := m1) rfl h1 ?_
  refine mz_goS mz_ks3 6 (c' := (365, [some (.ref 3000), some (.ref 0), some (.ref 65), some (.int (nI i))], [.int ((nI i) + 1), .ref 3000, .ref 65], m1)) rfl ?_
  refine mz_arrS mz_ks3 (c' := (366, [some (.ref 3000), some (.ref 0), some (.ref 65), some (.int (nI i))], [.int (m1 3000 (((nI i) + 1).toNatClampNeg)), .ref 65], m1)) rfl (show mz_in ((nI i) + 1) (m1 3001 0).toNatClampNeg = true from by rw [e1.2]; exact sm_inN (sm_addN rfl rfl) (show (i + 1) < L by omega) (by omega)) ?_
  rw [show ((nI i) + 1 : Int32).toNatClampNeg = (i + 1) from sm_clN (sm_addN rfl rfl) (show (i + 1) < 2 ^ 31 by omega)]
  rw [show m1 3000 (i + 1) = xs (i + 1) from e1.1 _]
  refine mz_goS mz_ks3 4 (c' := (370, [some (.ref 3000), some (.ref 0), some (.ref 65), some (.int (nI i))], [.int ((nI i) + 2), .ref 3000, .int (xs (i + 1)), .ref 65], m1)) rfl ?_
  refine mz_arrS mz_ks3 (c' := (371, [some (.ref 3000), some (.ref 0), some (.ref 65), some (.int (nI i))], [.int (m1 3000 (((nI i) + 2).toNatClampNeg)), .int (xs (i + 1)), .ref 65], m1)) rfl (show mz_in ((nI i) + 2) (m1 3001 0).toNatClampNeg = true from by rw [e1.2]; exact sm_inN (sm_addN rfl rfl) (show (i + 2) < L by omega) (by omega)) ?_
  rw [show ((nI i) + 2 : Int32).toNatClampNeg = (i + 2) from sm_clN (sm_addN rfl rfl) (show (i + 2) < 2 ^ 31 by omega)]
  rw [show m1 3000 (i + 2) = xs (i + 2) from e1.1 _]
  refine mz_goS mz_ks3 4 (c' := (375, [some (.ref 3000), some (.ref 0), some (.ref 65), some (.int (nI i))], [.int ((nI i) + 3), .ref 3000, .int (xs (i + 2)), .int (xs (i + 1)), .ref 65], m1)) rfl ?_
  refine mz_arrS mz_ks3 (c' := (376, [some (.ref 3000), some (.ref 0), some (.ref 65), some (.int (nI i))], [.int (m1 3000 (((nI i) + 3).toNatClampNeg)), .int (xs (i + 2)), .int (xs (i + 1)), .ref 65], m1)) rfl (show mz_in ((nI i) + 3) (m1 3001 0).toNatClampNeg = true from by rw [e1.2]; exact sm_inN (sm_addN rfl rfl) (show (i + 3) < L by omega) (by omega)) ?_
  rw [show ((nI i) + 3 : Int32).toNatClampNeg = (i + 3) from sm_clN (sm_addN rfl rfl) (show (i + 3) < 2 ^ 31 by omega)]
  rw [show m1 3000 (i + 3) = xs (i + 3) from e1.1 _]
  refine mz_goS mz_ks3 4 (c' := (380, [some (.ref 3000), some (.ref 0), some (.ref 65), some (.int (nI i))], [.int ((nI i) + 4), .ref 3000, .int (xs (i + 3)), .int (xs (i + 2)), .int (xs (i + 1)), .ref 65], m1)) rfl ?_
  refine mz_arrS mz_ks3 (c' := (381, [some (.ref 3000), some (.ref 0), some (.ref 65), some (.int (nI i))], [.int (m1 3000 (((nI i) + 4).toNatClampNeg)), .int (xs (i + 3)), .int (xs (i + 2)), .int (xs (i + 1)), .ref 65], m1)) rfl (show mz_in ((nI i) + 4) (m1 3001 0).toNatClampNeg = true from by rw [e1.2]; exact sm_inN (sm_addN rfl rfl) (show (i + 4) < L by omega) (by omega)) ?_
  rw [show ((nI i) + 4 : Int32).toNatClampNeg = (i + 4) from sm_clN (sm_addN rfl rfl) (show (i + 4) < 2 ^ 31 by omega)]
  rw [show m1 3000 (i + 4) = xs (i + 4) from e1.1 _]
  refine mz_doS mz_ks3 (R := mz_r140) (as := [.ref 65, .int (xs (i + 1)), .int (xs (i + 2)), .int (xs (i + 3)), .int (xs (i + 4))]) (rest := []) (r1 := some (.int v2)) (m1 := m2) rfl h2 ?_
  refine mz_goS mz_ks3 4 (c' := (18, [some (.ref 3000), some (.ref 0), some (.ref 65), some (.int ((nI i) + 6))], [], m2)) rfl ?_
  exact hr
set_option maxHeartbeats 4000000 in
set_option maxRecDepth 100000 in
theorem lwc_takeOff {xs : Nat → Int32} {L i j : Nat} (hL : L ≤ 384) (hi : i + 6 ≤ L) {m : mz_M} (hj : j < 64) (hI : sm_I j m) (e : (∀ k, m 3000 k = xs k) ∧ (m 3001 0).toNatClampNeg = L) (h : xs i &&& 63 = 4) : ∃ m2, sm_I (j + 1) m2 ∧ ((∀ k, m2 3000 k = xs k) ∧ (m2 3001 0).toNatClampNeg = L) ∧ ∀ r, mz_Ex 101 mz_kL (18, [some (.ref 3000), some (.ref 0), some (.ref 65), some (.int ((nI i) + 6))], [], m2) r → mz_Ex 101 mz_kL (18, [some (.ref 3000), some (.ref 0), some (.ref 65), some (.int (nI i))], [], m) r := by
  obtain ⟨v1, v2, m1, m2, h1, h2, h3, hv⟩ := sc_takeOff hj hI 
  have e1 := lw_eL h1 e
  have e2 := lw_eL h2 e1
  refine ⟨m2, h3, e2, fun r hr => ?_⟩
  refine mz_goS mz_ks4 3 (c' := (21, [some (.ref 3000), some (.ref 0), some (.ref 65), some (.int (nI i))], [.int (Int32.ofNat (m 3001 0).toNatClampNeg), .int (nI i)], m)) rfl ?_
  rw [show Int32.ofNat (m 3001 0).toNatClampNeg = nI L from by rw [e.2]; rfl]
  refine mz_goS mz_ks4 3 (c' := (if ((nI L) - 6) < (nI i) then 1588 else 27, [some (.ref 3000), some (.ref 0), some (.ref 65), some (.int (nI i))], [], m)) rfl ?_
  refine mz_ifF (show ¬ (((nI L) - 6) < (nI i)) from (sm_law hL (by omega) (by omega))) ?_
  refine mz_goS mz_ks4 2 (c' := (29, [some (.ref 3000), some (.ref 0), some (.ref 65), some (.int (nI i))], [.int (nI i), .ref 3000], m)) rfl ?_
  refine mz_arrS mz_ks4 (c' := (30, [some (.ref 3000), some (.ref 0), some (.ref 65), some (.int (nI i))], [.int (m 3000 ((nI i).toNatClampNeg))], m)) rfl (show mz_in (nI i) (m 3001 0).toNatClampNeg = true from by rw [e.2]; exact sm_inN rfl (show i < L by omega) (by omega)) ?_
  rw [show (nI i : Int32).toNatClampNeg = i from sm_clN rfl (show i < 2 ^ 31 by omega)]
  rw [show m 3000 i = xs i from e.1 _]
  refine mz_goS mz_ks4 2 (c' := (33, [some (.ref 3000), some (.ref 0), some (.ref 65), some (.int (nI i))], [.int ((xs i) &&& 63)], m)) rfl ?_
  rw [h]
  refine mz_goS mz_ks4 2 (c' := (389, [some (.ref 3000), some (.ref 0), some (.ref 65), some (.int (nI i))], [.ref 0], m)) rfl ?_
  refine mz_doS mz_ks4 (R := mz_r71) (as := [.ref 0]) (rest := []) (r1 := some (.int v1)) (m1 := m1) rfl h1 ?_
  refine mz_goS mz_ks4 2 (c' := (394, [some (.ref 3000), some (.ref 0), some (.ref 65), some (.int (nI i))], [.ref 65], m1)) rfl ?_
  refine mz_doS mz_ks4 (R := mz_r141) (as := [.ref 65]) (rest := []) (r1 := some (.int v2)) (m1 := m2) rfl h2 ?_
  refine mz_goS mz_ks4 4 (c' := (18, [some (.ref 3000), some (.ref 0), some (.ref 65), some (.int ((nI i) + 6))], [], m2)) rfl ?_
  exact hr
set_option maxHeartbeats 4000000 in
set_option maxRecDepth 100000 in
theorem lwc_rule {xs : Nat → Int32} {L i j : Nat} (hL : L ≤ 384) (hi : i + 6 ≤ L) {m : mz_M} (hj : j < 64) (hI : sm_I j m) (e : (∀ k, m 3000 k = xs k) ∧ (m 3001 0).toNatClampNeg = L) (h : xs i &&& 63 = 5) : ∃ m2, sm_I (j + 1) m2 ∧ ((∀ k, m2 3000 k = xs k) ∧ (m2 3001 0).toNatClampNeg = L) ∧ ∀ r, mz_Ex 101 mz_kL (18, [some (.ref 3000), some (.ref 0), some (.ref 65), some (.int ((nI i) + 6))], [], m2) r → mz_Ex 101 mz_kL (18, [some (.ref 3000), some (.ref 0), some (.ref 65), some (.int (nI i))], [], m) r := by
  obtain ⟨v1, v2, m1, m2, h1, h2, h3, hv⟩ := sc_rule hj hI (xs (i + 1)) (xs (i + 2))
  have e1 := lw_eL h1 e
  have e2 := lw_eL h2 e1
  refine ⟨m2, h3, e2, fun r hr => ?_⟩
  refine mz_goS mz_ks5 3 (c' := (21, [some (.ref 3000), some (.ref 0), some (.ref 65), some (.int (nI i))], [.int (Int32.ofNat (m 3001 0).toNatClampNeg), .int (nI i)], m)) rfl ?_
  rw [show Int32.ofNat (m 3001 0).toNatClampNeg = nI L from by rw [e.2]; rfl]
  refine mz_goS mz_ks5 3 (c' := (if ((nI L) - 6) < (nI i) then 1588 else 27, [some (.ref 3000), some (.ref 0), some (.ref 65), some (.int (nI i))], [], m)) rfl ?_
  refine mz_ifF (show ¬ (((nI L) - 6) < (nI i)) from (sm_law hL (by omega) (by omega))) ?_
  refine mz_goS mz_ks5 2 (c' := (29, [some (.ref 3000), some (.ref 0), some (.ref 65), some (.int (nI i))], [.int (nI i), .ref 3000], m)) rfl ?_
  refine mz_arrS mz_ks5 (c' := (30, [some (.ref 3000), some (.ref 0), some (.ref 65), some (.int (nI i))], [.int (m 3000 ((nI i).toNatClampNeg))], m)) rfl (show mz_in (nI i) (m 3001 0).toNatClampNeg = true from by rw [e.2]; exact sm_inN rfl (show i < L by omega) (by omega)) ?_
  rw [show (nI i : Int32).toNatClampNeg = i from sm_clN rfl (show i < 2 ^ 31 by omega)]
  rw [show m 3000 i = xs i from e.1 _]
  refine mz_goS mz_ks5 2 (c' := (33, [some (.ref 3000), some (.ref 0), some (.ref 65), some (.int (nI i))], [.int ((xs i) &&& 63)], m)) rfl ?_
  rw [h]
  refine mz_goS mz_ks5 6 (c' := (406, [some (.ref 3000), some (.ref 0), some (.ref 65), some (.int (nI i))], [.int ((nI i) + 1), .ref 3000, .ref 0], m)) rfl ?_
  refine mz_arrS mz_ks5 (c' := (407, [some (.ref 3000), some (.ref 0), some (.ref 65), some (.int (nI i))], [.int (m 3000 (((nI i) + 1).toNatClampNeg)), .ref 0], m)) rfl (show mz_in ((nI i) + 1) (m 3001 0).toNatClampNeg = true from by rw [e.2]; exact sm_inN (sm_addN rfl rfl) (show (i + 1) < L by omega) (by omega)) ?_
  rw [show ((nI i) + 1 : Int32).toNatClampNeg = (i + 1) from sm_clN (sm_addN rfl rfl) (show (i + 1) < 2 ^ 31 by omega)]
  rw [show m 3000 (i + 1) = xs (i + 1) from e.1 _]
  refine mz_goS mz_ks5 4 (c' := (411, [some (.ref 3000), some (.ref 0), some (.ref 65), some (.int (nI i))], [.int ((nI i) + 2), .ref 3000, .int (xs (i + 1)), .ref 0], m)) rfl ?_
  refine mz_arrS mz_ks5 (c' := (412, [some (.ref 3000), some (.ref 0), some (.ref 65), some (.int (nI i))], [.int (m 3000 (((nI i) + 2).toNatClampNeg)), .int (xs (i + 1)), .ref 0], m)) rfl (show mz_in ((nI i) + 2) (m 3001 0).toNatClampNeg = true from by rw [e.2]; exact sm_inN (sm_addN rfl rfl) (show (i + 2) < L by omega) (by omega)) ?_
  rw [show ((nI i) + 2 : Int32).toNatClampNeg = (i + 2) from sm_clN (sm_addN rfl rfl) (show (i + 2) < 2 ^ 31 by omega)]
  rw [show m 3000 (i + 2) = xs (i + 2) from e.1 _]
  refine mz_doS mz_ks5 (R := mz_r72) (as := [.ref 0, .int (xs (i + 1)), .int (xs (i + 2))]) (rest := []) (r1 := some (.int v1)) (m1 := m1) rfl h1 ?_
  refine mz_goS mz_ks5 6 (c' := (421, [some (.ref 3000), some (.ref 0), some (.ref 65), some (.int (nI i))], [.int ((nI i) + 1), .ref 3000, .ref 65], m1)) rfl ?_
  refine mz_arrS mz_ks5 (c' := (422, [some (.ref 3000), some (.ref 0), some (.ref 65), some (.int (nI i))], [.int (m1 3000 (((nI i) + 1).toNatClampNeg)), .ref 65], m1)) rfl (show mz_in ((nI i) + 1) (m1 3001 0).toNatClampNeg = true from by rw [e1.2]; exact sm_inN (sm_addN rfl rfl) (show (i + 1) < L by omega) (by omega)) ?_
  rw [show ((nI i) + 1 : Int32).toNatClampNeg = (i + 1) from sm_clN (sm_addN rfl rfl) (show (i + 1) < 2 ^ 31 by omega)]
  rw [show m1 3000 (i + 1) = xs (i + 1) from e1.1 _]
  refine mz_goS mz_ks5 4 (c' := (426, [some (.ref 3000), some (.ref 0), some (.ref 65), some (.int (nI i))], [.int ((nI i) + 2), .ref 3000, .int (xs (i + 1)), .ref 65], m1)) rfl ?_
  refine mz_arrS mz_ks5 (c' := (427, [some (.ref 3000), some (.ref 0), some (.ref 65), some (.int (nI i))], [.int (m1 3000 (((nI i) + 2).toNatClampNeg)), .int (xs (i + 1)), .ref 65], m1)) rfl (show mz_in ((nI i) + 2) (m1 3001 0).toNatClampNeg = true from by rw [e1.2]; exact sm_inN (sm_addN rfl rfl) (show (i + 2) < L by omega) (by omega)) ?_
  rw [show ((nI i) + 2 : Int32).toNatClampNeg = (i + 2) from sm_clN (sm_addN rfl rfl) (show (i + 2) < 2 ^ 31 by omega)]
  rw [show m1 3000 (i + 2) = xs (i + 2) from e1.1 _]
  refine mz_doS mz_ks5 (R := mz_r143) (as := [.ref 65, .int (xs (i + 1)), .int (xs (i + 2))]) (rest := []) (r1 := some (.int v2)) (m1 := m2) rfl h2 ?_
  refine mz_goS mz_ks5 4 (c' := (18, [some (.ref 3000), some (.ref 0), some (.ref 65), some (.int ((nI i) + 6))], [], m2)) rfl ?_
  exact hr
set_option maxHeartbeats 4000000 in
set_option maxRecDepth 100000 in
theorem lwc_nearest {xs : Nat → Int32} {L i j : Nat} (hL : L ≤ 384) (hi : i + 6 ≤ L) {m : mz_M} (hj : j < 64) (hI : sm_I j m) (e : (∀ k, m 3000 k = xs k) ∧ (m 3001 0).toNatClampNeg = L) (h : xs i &&& 63 = 6) : ∃ m2, sm_I (j + 1) m2 ∧ ((∀ k, m2 3000 k = xs k) ∧ (m2 3001 0).toNatClampNeg = L) ∧ ∀ r, mz_Ex 101 mz_kL (18, [some (.ref 3000), some (.ref 0), some (.ref 65), some (.int ((nI i) + 6))], [], m2) r → mz_Ex 101 mz_kL (18, [some (.ref 3000), some (.ref 0), some (.ref 65), some (.int (nI i))], [], m) r := by
  obtain ⟨v1, v2, m1, m2, h1, h2, h3, hv⟩ := sc_nearest hj hI (xs (i + 1)) (xs (i + 2)) (xs (i + 3))
  have e1 := lw_eL h1 e
  have e2 := lw_eL h2 e1
  refine ⟨m2, h3, e2, fun r hr => ?_⟩
  refine mz_goS mz_ks6 3 (c' := (21, [some (.ref 3000), some (.ref 0), some (.ref 65), some (.int (nI i))], [.int (Int32.ofNat (m 3001 0).toNatClampNeg), .int (nI i)], m)) rfl ?_
  rw [show Int32.ofNat (m 3001 0).toNatClampNeg = nI L from by rw [e.2]; rfl]
  refine mz_goS mz_ks6 3 (c' := (if ((nI L) - 6) < (nI i) then 1588 else 27, [some (.ref 3000), some (.ref 0), some (.ref 65), some (.int (nI i))], [], m)) rfl ?_
  refine mz_ifF (show ¬ (((nI L) - 6) < (nI i)) from (sm_law hL (by omega) (by omega))) ?_
  refine mz_goS mz_ks6 2 (c' := (29, [some (.ref 3000), some (.ref 0), some (.ref 65), some (.int (nI i))], [.int (nI i), .ref 3000], m)) rfl ?_
  refine mz_arrS mz_ks6 (c' := (30, [some (.ref 3000), some (.ref 0), some (.ref 65), some (.int (nI i))], [.int (m 3000 ((nI i).toNatClampNeg))], m)) rfl (show mz_in (nI i) (m 3001 0).toNatClampNeg = true from by rw [e.2]; exact sm_inN rfl (show i < L by omega) (by omega)) ?_
  rw [show (nI i : Int32).toNatClampNeg = i from sm_clN rfl (show i < 2 ^ 31 by omega)]
  rw [show m 3000 i = xs i from e.1 _]
  refine mz_goS mz_ks6 2 (c' := (33, [some (.ref 3000), some (.ref 0), some (.ref 65), some (.int (nI i))], [.int ((xs i) &&& 63)], m)) rfl ?_
  rw [h]
  refine mz_goS mz_ks6 6 (c' := (439, [some (.ref 3000), some (.ref 0), some (.ref 65), some (.int (nI i))], [.int ((nI i) + 1), .ref 3000, .ref 0], m)) rfl ?_
  refine mz_arrS mz_ks6 (c' := (440, [some (.ref 3000), some (.ref 0), some (.ref 65), some (.int (nI i))], [.int (m 3000 (((nI i) + 1).toNatClampNeg)), .ref 0], m)) rfl (show mz_in ((nI i) + 1) (m 3001 0).toNatClampNeg = true from by rw [e.2]; exact sm_inN (sm_addN rfl rfl) (show (i + 1) < L by omega) (by omega)) ?_
  rw [show ((nI i) + 1 : Int32).toNatClampNeg = (i + 1) from sm_clN (sm_addN rfl rfl) (show (i + 1) < 2 ^ 31 by omega)]
  rw [show m 3000 (i + 1) = xs (i + 1) from e.1 _]
  refine mz_goS mz_ks6 4 (c' := (444, [some (.ref 3000), some (.ref 0), some (.ref 65), some (.int (nI i))], [.int ((nI i) + 2), .ref 3000, .int (xs (i + 1)), .ref 0], m)) rfl ?_
  refine mz_arrS mz_ks6 (c' := (445, [some (.ref 3000), some (.ref 0), some (.ref 65), some (.int (nI i))], [.int (m 3000 (((nI i) + 2).toNatClampNeg)), .int (xs (i + 1)), .ref 0], m)) rfl (show mz_in ((nI i) + 2) (m 3001 0).toNatClampNeg = true from by rw [e.2]; exact sm_inN (sm_addN rfl rfl) (show (i + 2) < L by omega) (by omega)) ?_
  rw [show ((nI i) + 2 : Int32).toNatClampNeg = (i + 2) from sm_clN (sm_addN rfl rfl) (show (i + 2) < 2 ^ 31 by omega)]
  rw [show m 3000 (i + 2) = xs (i + 2) from e.1 _]
  refine mz_goS mz_ks6 4 (c' := (449, [some (.ref 3000), some (.ref 0), some (.ref 65), some (.int (nI i))], [.int ((nI i) + 3), .ref 3000, .int (xs (i + 2)), .int (xs (i + 1)), .ref 0], m)) rfl ?_
  refine mz_arrS mz_ks6 (c' := (450, [some (.ref 3000), some (.ref 0), some (.ref 65), some (.int (nI i))], [.int (m 3000 (((nI i) + 3).toNatClampNeg)), .int (xs (i + 2)), .int (xs (i + 1)), .ref 0], m)) rfl (show mz_in ((nI i) + 3) (m 3001 0).toNatClampNeg = true from by rw [e.2]; exact sm_inN (sm_addN rfl rfl) (show (i + 3) < L by omega) (by omega)) ?_
  rw [show ((nI i) + 3 : Int32).toNatClampNeg = (i + 3) from sm_clN (sm_addN rfl rfl) (show (i + 3) < 2 ^ 31 by omega)]
  rw [show m 3000 (i + 3) = xs (i + 3) from e.1 _]
  refine mz_doS mz_ks6 (R := mz_r73) (as := [.ref 0, .int (xs (i + 1)), .int (xs (i + 2)), .int (xs (i + 3))]) (rest := []) (r1 := some (.int v1)) (m1 := m1) rfl h1 ?_
  refine mz_goS mz_ks6 6 (c' := (459, [some (.ref 3000), some (.ref 0), some (.ref 65), some (.int (nI i))], [.int ((nI i) + 1), .ref 3000, .ref 65], m1)) rfl ?_
  refine mz_arrS mz_ks6 (c' := (460, [some (.ref 3000), some (.ref 0), some (.ref 65), some (.int (nI i))], [.int (m1 3000 (((nI i) + 1).toNatClampNeg)), .ref 65], m1)) rfl (show mz_in ((nI i) + 1) (m1 3001 0).toNatClampNeg = true from by rw [e1.2]; exact sm_inN (sm_addN rfl rfl) (show (i + 1) < L by omega) (by omega)) ?_
  rw [show ((nI i) + 1 : Int32).toNatClampNeg = (i + 1) from sm_clN (sm_addN rfl rfl) (show (i + 1) < 2 ^ 31 by omega)]
  rw [show m1 3000 (i + 1) = xs (i + 1) from e1.1 _]
  refine mz_goS mz_ks6 4 (c' := (464, [some (.ref 3000), some (.ref 0), some (.ref 65), some (.int (nI i))], [.int ((nI i) + 2), .ref 3000, .int (xs (i + 1)), .ref 65], m1)) rfl ?_
  refine mz_arrS mz_ks6 (c' := (465, [some (.ref 3000), some (.ref 0), some (.ref 65), some (.int (nI i))], [.int (m1 3000 (((nI i) + 2).toNatClampNeg)), .int (xs (i + 1)), .ref 65], m1)) rfl (show mz_in ((nI i) + 2) (m1 3001 0).toNatClampNeg = true from by rw [e1.2]; exact sm_inN (sm_addN rfl rfl) (show (i + 2) < L by omega) (by omega)) ?_
  rw [show ((nI i) + 2 : Int32).toNatClampNeg = (i + 2) from sm_clN (sm_addN rfl rfl) (show (i + 2) < 2 ^ 31 by omega)]
  rw [show m1 3000 (i + 2) = xs (i + 2) from e1.1 _]
  refine mz_goS mz_ks6 4 (c' := (469, [some (.ref 3000), some (.ref 0), some (.ref 65), some (.int (nI i))], [.int ((nI i) + 3), .ref 3000, .int (xs (i + 2)), .int (xs (i + 1)), .ref 65], m1)) rfl ?_
  refine mz_arrS mz_ks6 (c' := (470, [some (.ref 3000), some (.ref 0), some (.ref 65), some (.int (nI i))], [.int (m1 3000 (((nI i) + 3).toNatClampNeg)), .int (xs (i + 2)), .int (xs (i + 1)), .ref 65], m1)) rfl (show mz_in ((nI i) + 3) (m1 3001 0).toNatClampNeg = true from by rw [e1.2]; exact sm_inN (sm_addN rfl rfl) (show (i + 3) < L by omega) (by omega)) ?_
  rw [show ((nI i) + 3 : Int32).toNatClampNeg = (i + 3) from sm_clN (sm_addN rfl rfl) (show (i + 3) < 2 ^ 31 by omega)]
  rw [show m1 3000 (i + 3) = xs (i + 3) from e1.1 _]
  refine mz_doS mz_ks6 (R := mz_r157) (as := [.ref 65, .int (xs (i + 1)), .int (xs (i + 2)), .int (xs (i + 3))]) (rest := []) (r1 := some (.int v2)) (m1 := m2) rfl h2 ?_
  refine mz_goS mz_ks6 4 (c' := (18, [some (.ref 3000), some (.ref 0), some (.ref 65), some (.int ((nI i) + 6))], [], m2)) rfl ?_
  exact hr
set_option maxHeartbeats 4000000 in
set_option maxRecDepth 100000 in
theorem lwc_feed {xs : Nat → Int32} {L i j : Nat} (hL : L ≤ 384) (hi : i + 6 ≤ L) {m : mz_M} (hj : j < 64) (hI : sm_I j m) (e : (∀ k, m 3000 k = xs k) ∧ (m 3001 0).toNatClampNeg = L) (h : xs i &&& 63 = 7) : ∃ m2, sm_I (j + 1) m2 ∧ ((∀ k, m2 3000 k = xs k) ∧ (m2 3001 0).toNatClampNeg = L) ∧ ∀ r, mz_Ex 101 mz_kL (18, [some (.ref 3000), some (.ref 0), some (.ref 65), some (.int ((nI i) + 6))], [], m2) r → mz_Ex 101 mz_kL (18, [some (.ref 3000), some (.ref 0), some (.ref 65), some (.int (nI i))], [], m) r := by
  obtain ⟨v1, v2, m1, m2, h1, h2, h3, hv⟩ := sc_feed hj hI ((((xs (i + 1) : Int32).toInt64) <<< ((32 : Int32).toInt64 &&& 63)) ||| (((xs (i + 2) : Int32).toInt64) &&& (Int64.ofNat 4294967295))) (xs (i + 3))
  have e1 := lw_eL h1 e
  have e2 := lw_eL h2 e1
  refine ⟨m2, h3, e2, fun r hr => ?_⟩
  refine mz_goS mz_ks7 3 (c' := (21, [some (.ref 3000), some (.ref 0), some (.ref 65), some (.int (nI i))], [.int (Int32.ofNat (m 3001 0).toNatClampNeg), .int (nI i)], m)) rfl ?_
  rw [show Int32.ofNat (m 3001 0).toNatClampNeg = nI L from by rw [e.2]; rfl]
  refine mz_goS mz_ks7 3 (c' := (if ((nI L) - 6) < (nI i) then 1588 else 27, [some (.ref 3000), some (.ref 0), some (.ref 65), some (.int (nI i))], [], m)) rfl ?_
  refine mz_ifF (show ¬ (((nI L) - 6) < (nI i)) from (sm_law hL (by omega) (by omega))) ?_
  refine mz_goS mz_ks7 2 (c' := (29, [some (.ref 3000), some (.ref 0), some (.ref 65), some (.int (nI i))], [.int (nI i), .ref 3000], m)) rfl ?_
  refine mz_arrS mz_ks7 (c' := (30, [some (.ref 3000), some (.ref 0), some (.ref 65), some (.int (nI i))], [.int (m 3000 ((nI i).toNatClampNeg))], m)) rfl (show mz_in (nI i) (m 3001 0).toNatClampNeg = true from by rw [e.2]; exact sm_inN rfl (show i < L by omega) (by omega)) ?_
  rw [show (nI i : Int32).toNatClampNeg = i from sm_clN rfl (show i < 2 ^ 31 by omega)]
  rw [show m 3000 i = xs i from e.1 _]
  refine mz_goS mz_ks7 2 (c' := (33, [some (.ref 3000), some (.ref 0), some (.ref 65), some (.int (nI i))], [.int ((xs i) &&& 63)], m)) rfl ?_
  rw [h]
  refine mz_goS mz_ks7 6 (c' := (482, [some (.ref 3000), some (.ref 0), some (.ref 65), some (.int (nI i))], [.int ((nI i) + 1), .ref 3000, .ref 0], m)) rfl ?_
  refine mz_arrS mz_ks7 (c' := (483, [some (.ref 3000), some (.ref 0), some (.ref 65), some (.int (nI i))], [.int (m 3000 (((nI i) + 1).toNatClampNeg)), .ref 0], m)) rfl (show mz_in ((nI i) + 1) (m 3001 0).toNatClampNeg = true from by rw [e.2]; exact sm_inN (sm_addN rfl rfl) (show (i + 1) < L by omega) (by omega)) ?_
  rw [show ((nI i) + 1 : Int32).toNatClampNeg = (i + 1) from sm_clN (sm_addN rfl rfl) (show (i + 1) < 2 ^ 31 by omega)]
  rw [show m 3000 (i + 1) = xs (i + 1) from e.1 _]
  refine mz_goS mz_ks7 7 (c' := (491, [some (.ref 3000), some (.ref 0), some (.ref 65), some (.int (nI i))], [.int ((nI i) + 2), .ref 3000, .long (((xs (i + 1) : Int32).toInt64) <<< ((32 : Int32).toInt64 &&& 63)), .ref 0], m)) rfl ?_
  refine mz_arrS mz_ks7 (c' := (492, [some (.ref 3000), some (.ref 0), some (.ref 65), some (.int (nI i))], [.int (m 3000 (((nI i) + 2).toNatClampNeg)), .long (((xs (i + 1) : Int32).toInt64) <<< ((32 : Int32).toInt64 &&& 63)), .ref 0], m)) rfl (show mz_in ((nI i) + 2) (m 3001 0).toNatClampNeg = true from by rw [e.2]; exact sm_inN (sm_addN rfl rfl) (show (i + 2) < L by omega) (by omega)) ?_
  rw [show ((nI i) + 2 : Int32).toNatClampNeg = (i + 2) from sm_clN (sm_addN rfl rfl) (show (i + 2) < 2 ^ 31 by omega)]
  rw [show m 3000 (i + 2) = xs (i + 2) from e.1 _]
  refine mz_goS mz_ks7 8 (c' := (502, [some (.ref 3000), some (.ref 0), some (.ref 65), some (.int (nI i))], [.int ((nI i) + 3), .ref 3000, .long ((((xs (i + 1) : Int32).toInt64) <<< ((32 : Int32).toInt64 &&& 63)) ||| (((xs (i + 2) : Int32).toInt64) &&& (Int64.ofNat 4294967295))), .ref 0], m)) rfl ?_
  refine mz_arrS mz_ks7 (c' := (503, [some (.ref 3000), some (.ref 0), some (.ref 65), some (.int (nI i))], [.int (m 3000 (((nI i) + 3).toNatClampNeg)), .long ((((xs (i + 1) : Int32).toInt64) <<< ((32 : Int32).toInt64 &&& 63)) ||| (((xs (i + 2) : Int32).toInt64) &&& (Int64.ofNat 4294967295))), .ref 0], m)) rfl (show mz_in ((nI i) + 3) (m 3001 0).toNatClampNeg = true from by rw [e.2]; exact sm_inN (sm_addN rfl rfl) (show (i + 3) < L by omega) (by omega)) ?_
  rw [show ((nI i) + 3 : Int32).toNatClampNeg = (i + 3) from sm_clN (sm_addN rfl rfl) (show (i + 3) < 2 ^ 31 by omega)]
  rw [show m 3000 (i + 3) = xs (i + 3) from e.1 _]
  refine mz_doS mz_ks7 (R := mz_r74) (as := [.ref 0, .long ((((xs (i + 1) : Int32).toInt64) <<< ((32 : Int32).toInt64 &&& 63)) ||| (((xs (i + 2) : Int32).toInt64) &&& (Int64.ofNat 4294967295))), .int (xs (i + 3))]) (rest := []) (r1 := some (.int v1)) (m1 := m1) rfl h1 ?_
  refine mz_goS mz_ks7 6 (c' := (512, [some (.ref 3000), some (.ref 0), some (.ref 65), some (.int (nI i))], [.int ((nI i) + 1), .ref 3000, .ref 65], m1)) rfl ?_
  refine mz_arrS mz_ks7 (c' := (513, [some (.ref 3000), some (.ref 0), some (.ref 65), some (.int (nI i))], [.int (m1 3000 (((nI i) + 1).toNatClampNeg)), .ref 65], m1)) rfl (show mz_in ((nI i) + 1) (m1 3001 0).toNatClampNeg = true from by rw [e1.2]; exact sm_inN (sm_addN rfl rfl) (show (i + 1) < L by omega) (by omega)) ?_
  rw [show ((nI i) + 1 : Int32).toNatClampNeg = (i + 1) from sm_clN (sm_addN rfl rfl) (show (i + 1) < 2 ^ 31 by omega)]
  rw [show m1 3000 (i + 1) = xs (i + 1) from e1.1 _]
  refine mz_goS mz_ks7 7 (c' := (521, [some (.ref 3000), some (.ref 0), some (.ref 65), some (.int (nI i))], [.int ((nI i) + 2), .ref 3000, .long (((xs (i + 1) : Int32).toInt64) <<< ((32 : Int32).toInt64 &&& 63)), .ref 65], m1)) rfl ?_
  refine mz_arrS mz_ks7 (c' := (522, [some (.ref 3000), some (.ref 0), some (.ref 65), some (.int (nI i))], [.int (m1 3000 (((nI i) + 2).toNatClampNeg)), .long (((xs (i + 1) : Int32).toInt64) <<< ((32 : Int32).toInt64 &&& 63)), .ref 65], m1)) rfl (show mz_in ((nI i) + 2) (m1 3001 0).toNatClampNeg = true from by rw [e1.2]; exact sm_inN (sm_addN rfl rfl) (show (i + 2) < L by omega) (by omega)) ?_
  rw [show ((nI i) + 2 : Int32).toNatClampNeg = (i + 2) from sm_clN (sm_addN rfl rfl) (show (i + 2) < 2 ^ 31 by omega)]
  rw [show m1 3000 (i + 2) = xs (i + 2) from e1.1 _]
  refine mz_goS mz_ks7 8 (c' := (532, [some (.ref 3000), some (.ref 0), some (.ref 65), some (.int (nI i))], [.int ((nI i) + 3), .ref 3000, .long ((((xs (i + 1) : Int32).toInt64) <<< ((32 : Int32).toInt64 &&& 63)) ||| (((xs (i + 2) : Int32).toInt64) &&& (Int64.ofNat 4294967295))), .ref 65], m1)) rfl ?_
  refine mz_arrS mz_ks7 (c' := (533, [some (.ref 3000), some (.ref 0), some (.ref 65), some (.int (nI i))], [.int (m1 3000 (((nI i) + 3).toNatClampNeg)), .long ((((xs (i + 1) : Int32).toInt64) <<< ((32 : Int32).toInt64 &&& 63)) ||| (((xs (i + 2) : Int32).toInt64) &&& (Int64.ofNat 4294967295))), .ref 65], m1)) rfl (show mz_in ((nI i) + 3) (m1 3001 0).toNatClampNeg = true from by rw [e1.2]; exact sm_inN (sm_addN rfl rfl) (show (i + 3) < L by omega) (by omega)) ?_
  rw [show ((nI i) + 3 : Int32).toNatClampNeg = (i + 3) from sm_clN (sm_addN rfl rfl) (show (i + 3) < 2 ^ 31 by omega)]
  rw [show m1 3000 (i + 3) = xs (i + 3) from e1.1 _]
  refine mz_doS mz_ks7 (R := mz_r158) (as := [.ref 65, .long ((((xs (i + 1) : Int32).toInt64) <<< ((32 : Int32).toInt64 &&& 63)) ||| (((xs (i + 2) : Int32).toInt64) &&& (Int64.ofNat 4294967295))), .int (xs (i + 3))]) (rest := []) (r1 := some (.int v2)) (m1 := m2) rfl h2 ?_
  refine mz_goS mz_ks7 4 (c' := (18, [some (.ref 3000), some (.ref 0), some (.ref 65), some (.int ((nI i) + 6))], [], m2)) rfl ?_
  exact hr
set_option maxHeartbeats 4000000 in
set_option maxRecDepth 100000 in
theorem lwc_text {xs : Nat → Int32} {L i j : Nat} (hL : L ≤ 384) (hi : i + 6 ≤ L) {m : mz_M} (hj : j < 64) (hI : sm_I j m) (e : (∀ k, m 3000 k = xs k) ∧ (m 3001 0).toNatClampNeg = L) (h : xs i &&& 63 = 8) : ∃ m2, sm_I (j + 1) m2 ∧ ((∀ k, m2 3000 k = xs k) ∧ (m2 3001 0).toNatClampNeg = L) ∧ ∀ r, mz_Ex 101 mz_kL (18, [some (.ref 3000), some (.ref 0), some (.ref 65), some (.int ((nI i) + 6))], [], m2) r → mz_Ex 101 mz_kL (18, [some (.ref 3000), some (.ref 0), some (.ref 65), some (.int (nI i))], [], m) r := by
  obtain ⟨v1, v2, m1, m2, h1, h2, h3, hv⟩ := sc_text hj hI (xs (i + 1))
  have e1 := lw_eL h1 e
  have e2 := lw_eL h2 e1
  refine ⟨m2, h3, e2, fun r hr => ?_⟩
  refine mz_goS mz_ks8 3 (c' := (21, [some (.ref 3000), some (.ref 0), some (.ref 65), some (.int (nI i))], [.int (Int32.ofNat (m 3001 0).toNatClampNeg), .int (nI i)], m)) rfl ?_
  rw [show Int32.ofNat (m 3001 0).toNatClampNeg = nI L from by rw [e.2]; rfl]
  refine mz_goS mz_ks8 3 (c' := (if ((nI L) - 6) < (nI i) then 1588 else 27, [some (.ref 3000), some (.ref 0), some (.ref 65), some (.int (nI i))], [], m)) rfl ?_
  refine mz_ifF (show ¬ (((nI L) - 6) < (nI i)) from (sm_law hL (by omega) (by omega))) ?_
  refine mz_goS mz_ks8 2 (c' := (29, [some (.ref 3000), some (.ref 0), some (.ref 65), some (.int (nI i))], [.int (nI i), .ref 3000], m)) rfl ?_
  refine mz_arrS mz_ks8 (c' := (30, [some (.ref 3000), some (.ref 0), some (.ref 65), some (.int (nI i))], [.int (m 3000 ((nI i).toNatClampNeg))], m)) rfl (show mz_in (nI i) (m 3001 0).toNatClampNeg = true from by rw [e.2]; exact sm_inN rfl (show i < L by omega) (by omega)) ?_
  rw [show (nI i : Int32).toNatClampNeg = i from sm_clN rfl (show i < 2 ^ 31 by omega)]
  rw [show m 3000 i = xs i from e.1 _]
  refine mz_goS mz_ks8 2 (c' := (33, [some (.ref 3000), some (.ref 0), some (.ref 65), some (.int (nI i))], [.int ((xs i) &&& 63)], m)) rfl ?_
  rw [h]
  refine mz_goS mz_ks8 6 (c' := (545, [some (.ref 3000), some (.ref 0), some (.ref 65), some (.int (nI i))], [.int ((nI i) + 1), .ref 3000, .ref 0], m)) rfl ?_
  refine mz_arrS mz_ks8 (c' := (546, [some (.ref 3000), some (.ref 0), some (.ref 65), some (.int (nI i))], [.int (m 3000 (((nI i) + 1).toNatClampNeg)), .ref 0], m)) rfl (show mz_in ((nI i) + 1) (m 3001 0).toNatClampNeg = true from by rw [e.2]; exact sm_inN (sm_addN rfl rfl) (show (i + 1) < L by omega) (by omega)) ?_
  rw [show ((nI i) + 1 : Int32).toNatClampNeg = (i + 1) from sm_clN (sm_addN rfl rfl) (show (i + 1) < 2 ^ 31 by omega)]
  rw [show m 3000 (i + 1) = xs (i + 1) from e.1 _]
  refine mz_doS mz_ks8 (R := mz_r75) (as := [.ref 0, .int (xs (i + 1))]) (rest := []) (r1 := some (.int v1)) (m1 := m1) rfl h1 ?_
  refine mz_goS mz_ks8 6 (c' := (555, [some (.ref 3000), some (.ref 0), some (.ref 65), some (.int (nI i))], [.int ((nI i) + 1), .ref 3000, .ref 65], m1)) rfl ?_
  refine mz_arrS mz_ks8 (c' := (556, [some (.ref 3000), some (.ref 0), some (.ref 65), some (.int (nI i))], [.int (m1 3000 (((nI i) + 1).toNatClampNeg)), .ref 65], m1)) rfl (show mz_in ((nI i) + 1) (m1 3001 0).toNatClampNeg = true from by rw [e1.2]; exact sm_inN (sm_addN rfl rfl) (show (i + 1) < L by omega) (by omega)) ?_
  rw [show ((nI i) + 1 : Int32).toNatClampNeg = (i + 1) from sm_clN (sm_addN rfl rfl) (show (i + 1) < 2 ^ 31 by omega)]
  rw [show m1 3000 (i + 1) = xs (i + 1) from e1.1 _]
  refine mz_doS mz_ks8 (R := mz_r170) (as := [.ref 65, .int (xs (i + 1))]) (rest := []) (r1 := some (.int v2)) (m1 := m2) rfl h2 ?_
  refine mz_goS mz_ks8 4 (c' := (18, [some (.ref 3000), some (.ref 0), some (.ref 65), some (.int ((nI i) + 6))], [], m2)) rfl ?_
  exact hr
set_option maxHeartbeats 4000000 in
set_option maxRecDepth 100000 in
theorem lwc_untell {xs : Nat → Int32} {L i j : Nat} (hL : L ≤ 384) (hi : i + 6 ≤ L) {m : mz_M} (hj : j < 64) (hI : sm_I j m) (e : (∀ k, m 3000 k = xs k) ∧ (m 3001 0).toNatClampNeg = L) (h : xs i &&& 63 = 9) : ∃ m2, sm_I (j + 1) m2 ∧ ((∀ k, m2 3000 k = xs k) ∧ (m2 3001 0).toNatClampNeg = L) ∧ ∀ r, mz_Ex 101 mz_kL (18, [some (.ref 3000), some (.ref 0), some (.ref 65), some (.int ((nI i) + 6))], [], m2) r → mz_Ex 101 mz_kL (18, [some (.ref 3000), some (.ref 0), some (.ref 65), some (.int (nI i))], [], m) r := by
  obtain ⟨v1, v2, m1, m2, h1, h2, h3, hv⟩ := sc_untell hj hI (xs (i + 1))
  have e1 := lw_eL h1 e
  have e2 := lw_eL h2 e1
  refine ⟨m2, h3, e2, fun r hr => ?_⟩
  refine mz_goS mz_ks9 3 (c' := (21, [some (.ref 3000), some (.ref 0), some (.ref 65), some (.int (nI i))], [.int (Int32.ofNat (m 3001 0).toNatClampNeg), .int (nI i)], m)) rfl ?_
  rw [show Int32.ofNat (m 3001 0).toNatClampNeg = nI L from by rw [e.2]; rfl]
  refine mz_goS mz_ks9 3 (c' := (if ((nI L) - 6) < (nI i) then 1588 else 27, [some (.ref 3000), some (.ref 0), some (.ref 65), some (.int (nI i))], [], m)) rfl ?_
  refine mz_ifF (show ¬ (((nI L) - 6) < (nI i)) from (sm_law hL (by omega) (by omega))) ?_
  refine mz_goS mz_ks9 2 (c' := (29, [some (.ref 3000), some (.ref 0), some (.ref 65), some (.int (nI i))], [.int (nI i), .ref 3000], m)) rfl ?_
  refine mz_arrS mz_ks9 (c' := (30, [some (.ref 3000), some (.ref 0), some (.ref 65), some (.int (nI i))], [.int (m 3000 ((nI i).toNatClampNeg))], m)) rfl (show mz_in (nI i) (m 3001 0).toNatClampNeg = true from by rw [e.2]; exact sm_inN rfl (show i < L by omega) (by omega)) ?_
  rw [show (nI i : Int32).toNatClampNeg = i from sm_clN rfl (show i < 2 ^ 31 by omega)]
  rw [show m 3000 i = xs i from e.1 _]
  refine mz_goS mz_ks9 2 (c' := (33, [some (.ref 3000), some (.ref 0), some (.ref 65), some (.int (nI i))], [.int ((xs i) &&& 63)], m)) rfl ?_
  rw [h]
  refine mz_goS mz_ks9 6 (c' := (568, [some (.ref 3000), some (.ref 0), some (.ref 65), some (.int (nI i))], [.int ((nI i) + 1), .ref 3000, .ref 0], m)) rfl ?_
  refine mz_arrS mz_ks9 (c' := (569, [some (.ref 3000), some (.ref 0), some (.ref 65), some (.int (nI i))], [.int (m 3000 (((nI i) + 1).toNatClampNeg)), .ref 0], m)) rfl (show mz_in ((nI i) + 1) (m 3001 0).toNatClampNeg = true from by rw [e.2]; exact sm_inN (sm_addN rfl rfl) (show (i + 1) < L by omega) (by omega)) ?_
  rw [show ((nI i) + 1 : Int32).toNatClampNeg = (i + 1) from sm_clN (sm_addN rfl rfl) (show (i + 1) < 2 ^ 31 by omega)]
  rw [show m 3000 (i + 1) = xs (i + 1) from e.1 _]
  refine mz_doS mz_ks9 (R := mz_r76) (as := [.ref 0, .int (xs (i + 1))]) (rest := []) (r1 := some (.int v1)) (m1 := m1) rfl h1 ?_
  refine mz_goS mz_ks9 6 (c' := (578, [some (.ref 3000), some (.ref 0), some (.ref 65), some (.int (nI i))], [.int ((nI i) + 1), .ref 3000, .ref 65], m1)) rfl ?_
  refine mz_arrS mz_ks9 (c' := (579, [some (.ref 3000), some (.ref 0), some (.ref 65), some (.int (nI i))], [.int (m1 3000 (((nI i) + 1).toNatClampNeg)), .ref 65], m1)) rfl (show mz_in ((nI i) + 1) (m1 3001 0).toNatClampNeg = true from by rw [e1.2]; exact sm_inN (sm_addN rfl rfl) (show (i + 1) < L by omega) (by omega)) ?_
  rw [show ((nI i) + 1 : Int32).toNatClampNeg = (i + 1) from sm_clN (sm_addN rfl rfl) (show (i + 1) < 2 ^ 31 by omega)]
  rw [show m1 3000 (i + 1) = xs (i + 1) from e1.1 _]
  refine mz_doS mz_ks9 (R := mz_r171) (as := [.ref 65, .int (xs (i + 1))]) (rest := []) (r1 := some (.int v2)) (m1 := m2) rfl h2 ?_
  refine mz_goS mz_ks9 4 (c' := (18, [some (.ref 3000), some (.ref 0), some (.ref 65), some (.int ((nI i) + 6))], [], m2)) rfl ?_
  exact hr
set_option maxHeartbeats 4000000 in
set_option maxRecDepth 100000 in
theorem lwc_let {xs : Nat → Int32} {L i j : Nat} (hL : L ≤ 384) (hi : i + 6 ≤ L) {m : mz_M} (hj : j < 64) (hI : sm_I j m) (e : (∀ k, m 3000 k = xs k) ∧ (m 3001 0).toNatClampNeg = L) (h : xs i &&& 63 = 10) : ∃ m2, sm_I (j + 1) m2 ∧ ((∀ k, m2 3000 k = xs k) ∧ (m2 3001 0).toNatClampNeg = L) ∧ ∀ r, mz_Ex 101 mz_kL (18, [some (.ref 3000), some (.ref 0), some (.ref 65), some (.int ((nI i) + 6))], [], m2) r → mz_Ex 101 mz_kL (18, [some (.ref 3000), some (.ref 0), some (.ref 65), some (.int (nI i))], [], m) r := by
  obtain ⟨v1, v2, m1, m2, h1, h2, h3, hv⟩ := sc_let hj hI (xs (i + 1)) (xs (i + 2))
  have e1 := lw_eL h1 e
  have e2 := lw_eL h2 e1
  refine ⟨m2, h3, e2, fun r hr => ?_⟩
  refine mz_goS mz_ks10 3 (c' := (21, [some (.ref 3000), some (.ref 0), some (.ref 65), some (.int (nI i))], [.int (Int32.ofNat (m 3001 0).toNatClampNeg), .int (nI i)], m)) rfl ?_
  rw [show Int32.ofNat (m 3001 0).toNatClampNeg = nI L from by rw [e.2]; rfl]
  refine mz_goS mz_ks10 3 (c' := (if ((nI L) - 6) < (nI i) then 1588 else 27, [some (.ref 3000), some (.ref 0), some (.ref 65), some (.int (nI i))], [], m)) rfl ?_
  refine mz_ifF (show ¬ (((nI L) - 6) < (nI i)) from (sm_law hL (by omega) (by omega))) ?_
  refine mz_goS mz_ks10 2 (c' := (29, [some (.ref 3000), some (.ref 0), some (.ref 65), some (.int (nI i))], [.int (nI i), .ref 3000], m)) rfl ?_
  refine mz_arrS mz_ks10 (c' := (30, [some (.ref 3000), some (.ref 0), some (.ref 65), some (.int (nI i))], [.int (m 3000 ((nI i).toNatClampNeg))], m)) rfl (show mz_in (nI i) (m 3001 0).toNatClampNeg = true from by rw [e.2]; exact sm_inN rfl (show i < L by omega) (by omega)) ?_
  rw [show (nI i : Int32).toNatClampNeg = i from sm_clN rfl (show i < 2 ^ 31 by omega)]
  rw [show m 3000 i = xs i from e.1 _]
  refine mz_goS mz_ks10 2 (c' := (33, [some (.ref 3000), some (.ref 0), some (.ref 65), some (.int (nI i))], [.int ((xs i) &&& 63)], m)) rfl ?_
  rw [h]
  refine mz_goS mz_ks10 6 (c' := (591, [some (.ref 3000), some (.ref 0), some (.ref 65), some (.int (nI i))], [.int ((nI i) + 1), .ref 3000, .ref 0], m)) rfl ?_
  refine mz_arrS mz_ks10 (c' := (592, [some (.ref 3000), some (.ref 0), some (.ref 65), some (.int (nI i))], [.int (m 3000 (((nI i) + 1).toNatClampNeg)), .ref 0], m)) rfl (show mz_in ((nI i) + 1) (m 3001 0).toNatClampNeg = true from by rw [e.2]; exact sm_inN (sm_addN rfl rfl) (show (i + 1) < L by omega) (by omega)) ?_
  rw [show ((nI i) + 1 : Int32).toNatClampNeg = (i + 1) from sm_clN (sm_addN rfl rfl) (show (i + 1) < 2 ^ 31 by omega)]
  rw [show m 3000 (i + 1) = xs (i + 1) from e.1 _]
  refine mz_goS mz_ks10 4 (c' := (596, [some (.ref 3000), some (.ref 0), some (.ref 65), some (.int (nI i))], [.int ((nI i) + 2), .ref 3000, .int (xs (i + 1)), .ref 0], m)) rfl ?_
  refine mz_arrS mz_ks10 (c' := (597, [some (.ref 3000), some (.ref 0), some (.ref 65), some (.int (nI i))], [.int (m 3000 (((nI i) + 2).toNatClampNeg)), .int (xs (i + 1)), .ref 0], m)) rfl (show mz_in ((nI i) + 2) (m 3001 0).toNatClampNeg = true from by rw [e.2]; exact sm_inN (sm_addN rfl rfl) (show (i + 2) < L by omega) (by omega)) ?_
  rw [show ((nI i) + 2 : Int32).toNatClampNeg = (i + 2) from sm_clN (sm_addN rfl rfl) (show (i + 2) < 2 ^ 31 by omega)]
  rw [show m 3000 (i + 2) = xs (i + 2) from e.1 _]
  refine mz_doS mz_ks10 (R := mz_r77) (as := [.ref 0, .int (xs (i + 1)), .int (xs (i + 2))]) (rest := []) (r1 := some (.int v1)) (m1 := m1) rfl h1 ?_
  refine mz_goS mz_ks10 6 (c' := (606, [some (.ref 3000), some (.ref 0), some (.ref 65), some (.int (nI i))], [.int ((nI i) + 1), .ref 3000, .ref 65], m1)) rfl ?_
  refine mz_arrS mz_ks10 (c' := (607, [some (.ref 3000), some (.ref 0), some (.ref 65), some (.int (nI i))], [.int (m1 3000 (((nI i) + 1).toNatClampNeg)), .ref 65], m1)) rfl (show mz_in ((nI i) + 1) (m1 3001 0).toNatClampNeg = true from by rw [e1.2]; exact sm_inN (sm_addN rfl rfl) (show (i + 1) < L by omega) (by omega)) ?_
  rw [show ((nI i) + 1 : Int32).toNatClampNeg = (i + 1) from sm_clN (sm_addN rfl rfl) (show (i + 1) < 2 ^ 31 by omega)]
  rw [show m1 3000 (i + 1) = xs (i + 1) from e1.1 _]
  refine mz_goS mz_ks10 4 (c' := (611, [some (.ref 3000), some (.ref 0), some (.ref 65), some (.int (nI i))], [.int ((nI i) + 2), .ref 3000, .int (xs (i + 1)), .ref 65], m1)) rfl ?_
  refine mz_arrS mz_ks10 (c' := (612, [some (.ref 3000), some (.ref 0), some (.ref 65), some (.int (nI i))], [.int (m1 3000 (((nI i) + 2).toNatClampNeg)), .int (xs (i + 1)), .ref 65], m1)) rfl (show mz_in ((nI i) + 2) (m1 3001 0).toNatClampNeg = true from by rw [e1.2]; exact sm_inN (sm_addN rfl rfl) (show (i + 2) < L by omega) (by omega)) ?_
  rw [show ((nI i) + 2 : Int32).toNatClampNeg = (i + 2) from sm_clN (sm_addN rfl rfl) (show (i + 2) < 2 ^ 31 by omega)]
  rw [show m1 3000 (i + 2) = xs (i + 2) from e1.1 _]
  refine mz_doS mz_ks10 (R := mz_r174) (as := [.ref 65, .int (xs (i + 1)), .int (xs (i + 2))]) (rest := []) (r1 := some (.int v2)) (m1 := m2) rfl h2 ?_
  refine mz_goS mz_ks10 4 (c' := (18, [some (.ref 3000), some (.ref 0), some (.ref 65), some (.int ((nI i) + 6))], [], m2)) rfl ?_
  exact hr
set_option maxHeartbeats 4000000 in
set_option maxRecDepth 100000 in
theorem lwc_push {xs : Nat → Int32} {L i j : Nat} (hL : L ≤ 384) (hi : i + 6 ≤ L) {m : mz_M} (hj : j < 64) (hI : sm_I j m) (e : (∀ k, m 3000 k = xs k) ∧ (m 3001 0).toNatClampNeg = L) (h : xs i &&& 63 = 11) : ∃ m2, sm_I (j + 1) m2 ∧ ((∀ k, m2 3000 k = xs k) ∧ (m2 3001 0).toNatClampNeg = L) ∧ ∀ r, mz_Ex 101 mz_kL (18, [some (.ref 3000), some (.ref 0), some (.ref 65), some (.int ((nI i) + 6))], [], m2) r → mz_Ex 101 mz_kL (18, [some (.ref 3000), some (.ref 0), some (.ref 65), some (.int (nI i))], [], m) r := by
  obtain ⟨v1, v2, m1, m2, h1, h2, h3, hv⟩ := sc_push hj hI (xs (i + 1)) (xs (i + 2))
  have e1 := lw_eL h1 e
  have e2 := lw_eL h2 e1
  refine ⟨m2, h3, e2, fun r hr => ?_⟩
  refine mz_goS mz_ks11 3 (c' := (21, [some (.ref 3000), some (.ref 0), some (.ref 65), some (.int (nI i))], [.int (Int32.ofNat (m 3001 0).toNatClampNeg), .int (nI i)], m)) rfl ?_
  rw [show Int32.ofNat (m 3001 0).toNatClampNeg = nI L from by rw [e.2]; rfl]
  refine mz_goS mz_ks11 3 (c' := (if ((nI L) - 6) < (nI i) then 1588 else 27, [some (.ref 3000), some (.ref 0), some (.ref 65), some (.int (nI i))], [], m)) rfl ?_
  refine mz_ifF (show ¬ (((nI L) - 6) < (nI i)) from (sm_law hL (by omega) (by omega))) ?_
  refine mz_goS mz_ks11 2 (c' := (29, [some (.ref 3000), some (.ref 0), some (.ref 65), some (.int (nI i))], [.int (nI i), .ref 3000], m)) rfl ?_
  refine mz_arrS mz_ks11 (c' := (30, [some (.ref 3000), some (.ref 0), some (.ref 65), some (.int (nI i))], [.int (m 3000 ((nI i).toNatClampNeg))], m)) rfl (show mz_in (nI i) (m 3001 0).toNatClampNeg = true from by rw [e.2]; exact sm_inN rfl (show i < L by omega) (by omega)) ?_
  rw [show (nI i : Int32).toNatClampNeg = i from sm_clN rfl (show i < 2 ^ 31 by omega)]
  rw [show m 3000 i = xs i from e.1 _]
  refine mz_goS mz_ks11 2 (c' := (33, [some (.ref 3000), some (.ref 0), some (.ref 65), some (.int (nI i))], [.int ((xs i) &&& 63)], m)) rfl ?_
  rw [h]
  refine mz_goS mz_ks11 6 (c' := (624, [some (.ref 3000), some (.ref 0), some (.ref 65), some (.int (nI i))], [.int ((nI i) + 1), .ref 3000, .ref 0], m)) rfl ?_
  refine mz_arrS mz_ks11 (c' := (625, [some (.ref 3000), some (.ref 0), some (.ref 65), some (.int (nI i))], [.int (m 3000 (((nI i) + 1).toNatClampNeg)), .ref 0], m)) rfl (show mz_in ((nI i) + 1) (m 3001 0).toNatClampNeg = true from by rw [e.2]; exact sm_inN (sm_addN rfl rfl) (show (i + 1) < L by omega) (by omega)) ?_
  rw [show ((nI i) + 1 : Int32).toNatClampNeg = (i + 1) from sm_clN (sm_addN rfl rfl) (show (i + 1) < 2 ^ 31 by omega)]
  rw [show m 3000 (i + 1) = xs (i + 1) from e.1 _]
  refine mz_goS mz_ks11 4 (c' := (629, [some (.ref 3000), some (.ref 0), some (.ref 65), some (.int (nI i))], [.int ((nI i) + 2), .ref 3000, .int (xs (i + 1)), .ref 0], m)) rfl ?_
  refine mz_arrS mz_ks11 (c' := (630, [some (.ref 3000), some (.ref 0), some (.ref 65), some (.int (nI i))], [.int (m 3000 (((nI i) + 2).toNatClampNeg)), .int (xs (i + 1)), .ref 0], m)) rfl (show mz_in ((nI i) + 2) (m 3001 0).toNatClampNeg = true from by rw [e.2]; exact sm_inN (sm_addN rfl rfl) (show (i + 2) < L by omega) (by omega)) ?_
  rw [show ((nI i) + 2 : Int32).toNatClampNeg = (i + 2) from sm_clN (sm_addN rfl rfl) (show (i + 2) < 2 ^ 31 by omega)]
  rw [show m 3000 (i + 2) = xs (i + 2) from e.1 _]
  refine mz_doS mz_ks11 (R := mz_r78) (as := [.ref 0, .int (xs (i + 1)), .int (xs (i + 2))]) (rest := []) (r1 := some (.int v1)) (m1 := m1) rfl h1 ?_
  refine mz_goS mz_ks11 6 (c' := (639, [some (.ref 3000), some (.ref 0), some (.ref 65), some (.int (nI i))], [.int ((nI i) + 1), .ref 3000, .ref 65], m1)) rfl ?_
  refine mz_arrS mz_ks11 (c' := (640, [some (.ref 3000), some (.ref 0), some (.ref 65), some (.int (nI i))], [.int (m1 3000 (((nI i) + 1).toNatClampNeg)), .ref 65], m1)) rfl (show mz_in ((nI i) + 1) (m1 3001 0).toNatClampNeg = true from by rw [e1.2]; exact sm_inN (sm_addN rfl rfl) (show (i + 1) < L by omega) (by omega)) ?_
  rw [show ((nI i) + 1 : Int32).toNatClampNeg = (i + 1) from sm_clN (sm_addN rfl rfl) (show (i + 1) < 2 ^ 31 by omega)]
  rw [show m1 3000 (i + 1) = xs (i + 1) from e1.1 _]
  refine mz_goS mz_ks11 4 (c' := (644, [some (.ref 3000), some (.ref 0), some (.ref 65), some (.int (nI i))], [.int ((nI i) + 2), .ref 3000, .int (xs (i + 1)), .ref 65], m1)) rfl ?_
  refine mz_arrS mz_ks11 (c' := (645, [some (.ref 3000), some (.ref 0), some (.ref 65), some (.int (nI i))], [.int (m1 3000 (((nI i) + 2).toNatClampNeg)), .int (xs (i + 1)), .ref 65], m1)) rfl (show mz_in ((nI i) + 2) (m1 3001 0).toNatClampNeg = true from by rw [e1.2]; exact sm_inN (sm_addN rfl rfl) (show (i + 2) < L by omega) (by omega)) ?_
  rw [show ((nI i) + 2 : Int32).toNatClampNeg = (i + 2) from sm_clN (sm_addN rfl rfl) (show (i + 2) < 2 ^ 31 by omega)]
  rw [show m1 3000 (i + 2) = xs (i + 2) from e1.1 _]
  refine mz_doS mz_ks11 (R := mz_r176) (as := [.ref 65, .int (xs (i + 1)), .int (xs (i + 2))]) (rest := []) (r1 := some (.int v2)) (m1 := m2) rfl h2 ?_
  refine mz_goS mz_ks11 4 (c' := (18, [some (.ref 3000), some (.ref 0), some (.ref 65), some (.int ((nI i) + 6))], [], m2)) rfl ?_
  exact hr
set_option maxHeartbeats 4000000 in
set_option maxRecDepth 100000 in
theorem lwc_tick {xs : Nat → Int32} {L i j : Nat} (hL : L ≤ 384) (hi : i + 6 ≤ L) {m : mz_M} (hj : j < 64) (hI : sm_I j m) (e : (∀ k, m 3000 k = xs k) ∧ (m 3001 0).toNatClampNeg = L) (h : xs i &&& 63 = 12) : ∃ m2, sm_I (j + 1) m2 ∧ ((∀ k, m2 3000 k = xs k) ∧ (m2 3001 0).toNatClampNeg = L) ∧ ∀ r, mz_Ex 101 mz_kL (18, [some (.ref 3000), some (.ref 0), some (.ref 65), some (.int ((nI i) + 6))], [], m2) r → mz_Ex 101 mz_kL (18, [some (.ref 3000), some (.ref 0), some (.ref 65), some (.int (nI i))], [], m) r := by
  obtain ⟨v1, v2, m1, m2, h1, h2, h3, hv⟩ := sc_tick hj hI (xs (i + 1))
  have e1 := lw_eL h1 e
  have e2 := lw_eL h2 e1
  refine ⟨m2, h3, e2, fun r hr => ?_⟩
  refine mz_goS mz_ks12 3 (c' := (21, [some (.ref 3000), some (.ref 0), some (.ref 65), some (.int (nI i))], [.int (Int32.ofNat (m 3001 0).toNatClampNeg), .int (nI i)], m)) rfl ?_
  rw [show Int32.ofNat (m 3001 0).toNatClampNeg = nI L from by rw [e.2]; rfl]
  refine mz_goS mz_ks12 3 (c' := (if ((nI L) - 6) < (nI i) then 1588 else 27, [some (.ref 3000), some (.ref 0), some (.ref 65), some (.int (nI i))], [], m)) rfl ?_
  refine mz_ifF (show ¬ (((nI L) - 6) < (nI i)) from (sm_law hL (by omega) (by omega))) ?_
  refine mz_goS mz_ks12 2 (c' := (29, [some (.ref 3000), some (.ref 0), some (.ref 65), some (.int (nI i))], [.int (nI i), .ref 3000], m)) rfl ?_
  refine mz_arrS mz_ks12 (c' := (30, [some (.ref 3000), some (.ref 0), some (.ref 65), some (.int (nI i))], [.int (m 3000 ((nI i).toNatClampNeg))], m)) rfl (show mz_in (nI i) (m 3001 0).toNatClampNeg = true from by rw [e.2]; exact sm_inN rfl (show i < L by omega) (by omega)) ?_
  rw [show (nI i : Int32).toNatClampNeg = i from sm_clN rfl (show i < 2 ^ 31 by omega)]
  rw [show m 3000 i = xs i from e.1 _]
  refine mz_goS mz_ks12 2 (c' := (33, [some (.ref 3000), some (.ref 0), some (.ref 65), some (.int (nI i))], [.int ((xs i) &&& 63)], m)) rfl ?_
  rw [h]
  refine mz_goS mz_ks12 6 (c' := (657, [some (.ref 3000), some (.ref 0), some (.ref 65), some (.int (nI i))], [.int ((nI i) + 1), .ref 3000, .ref 0], m)) rfl ?_
  refine mz_arrS mz_ks12 (c' := (658, [some (.ref 3000), some (.ref 0), some (.ref 65), some (.int (nI i))], [.int (m 3000 (((nI i) + 1).toNatClampNeg)), .ref 0], m)) rfl (show mz_in ((nI i) + 1) (m 3001 0).toNatClampNeg = true from by rw [e.2]; exact sm_inN (sm_addN rfl rfl) (show (i + 1) < L by omega) (by omega)) ?_
  rw [show ((nI i) + 1 : Int32).toNatClampNeg = (i + 1) from sm_clN (sm_addN rfl rfl) (show (i + 1) < 2 ^ 31 by omega)]
  rw [show m 3000 (i + 1) = xs (i + 1) from e.1 _]
  refine mz_doS mz_ks12 (R := mz_r79) (as := [.ref 0, .int (xs (i + 1))]) (rest := []) (r1 := some (.int v1)) (m1 := m1) rfl h1 ?_
  refine mz_goS mz_ks12 6 (c' := (667, [some (.ref 3000), some (.ref 0), some (.ref 65), some (.int (nI i))], [.int ((nI i) + 1), .ref 3000, .ref 65], m1)) rfl ?_
  refine mz_arrS mz_ks12 (c' := (668, [some (.ref 3000), some (.ref 0), some (.ref 65), some (.int (nI i))], [.int (m1 3000 (((nI i) + 1).toNatClampNeg)), .ref 65], m1)) rfl (show mz_in ((nI i) + 1) (m1 3001 0).toNatClampNeg = true from by rw [e1.2]; exact sm_inN (sm_addN rfl rfl) (show (i + 1) < L by omega) (by omega)) ?_
  rw [show ((nI i) + 1 : Int32).toNatClampNeg = (i + 1) from sm_clN (sm_addN rfl rfl) (show (i + 1) < 2 ^ 31 by omega)]
  rw [show m1 3000 (i + 1) = xs (i + 1) from e1.1 _]
  refine mz_doS mz_ks12 (R := mz_r177) (as := [.ref 65, .int (xs (i + 1))]) (rest := []) (r1 := some (.int v2)) (m1 := m2) rfl h2 ?_
  refine mz_goS mz_ks12 4 (c' := (18, [some (.ref 3000), some (.ref 0), some (.ref 65), some (.int ((nI i) + 6))], [], m2)) rfl ?_
  exact hr
set_option maxHeartbeats 4000000 in
set_option maxRecDepth 100000 in
theorem lwc_bob {xs : Nat → Int32} {L i j : Nat} (hL : L ≤ 384) (hi : i + 6 ≤ L) {m : mz_M} (hj : j < 64) (hI : sm_I j m) (e : (∀ k, m 3000 k = xs k) ∧ (m 3001 0).toNatClampNeg = L) (h : xs i &&& 63 = 13) : ∃ m2, sm_I (j + 1) m2 ∧ ((∀ k, m2 3000 k = xs k) ∧ (m2 3001 0).toNatClampNeg = L) ∧ ∀ r, mz_Ex 101 mz_kL (18, [some (.ref 3000), some (.ref 0), some (.ref 65), some (.int ((nI i) + 6))], [], m2) r → mz_Ex 101 mz_kL (18, [some (.ref 3000), some (.ref 0), some (.ref 65), some (.int (nI i))], [], m) r := by
  obtain ⟨v1, v2, m1, m2, h1, h2, h3, hv⟩ := sc_bob hj hI (xs (i + 1))
  have e1 := lw_eL h1 e
  have e2 := lw_eL h2 e1
  refine ⟨m2, h3, e2, fun r hr => ?_⟩
  refine mz_goS mz_ks13 3 (c' := (21, [some (.ref 3000), some (.ref 0), some (.ref 65), some (.int (nI i))], [.int (Int32.ofNat (m 3001 0).toNatClampNeg), .int (nI i)], m)) rfl ?_
  rw [show Int32.ofNat (m 3001 0).toNatClampNeg = nI L from by rw [e.2]; rfl]
  refine mz_goS mz_ks13 3 (c' := (if ((nI L) - 6) < (nI i) then 1588 else 27, [some (.ref 3000), some (.ref 0), some (.ref 65), some (.int (nI i))], [], m)) rfl ?_
  refine mz_ifF (show ¬ (((nI L) - 6) < (nI i)) from (sm_law hL (by omega) (by omega))) ?_
  refine mz_goS mz_ks13 2 (c' := (29, [some (.ref 3000), some (.ref 0), some (.ref 65), some (.int (nI i))], [.int (nI i), .ref 3000], m)) rfl ?_
  refine mz_arrS mz_ks13 (c' := (30, [some (.ref 3000), some (.ref 0), some (.ref 65), some (.int (nI i))], [.int (m 3000 ((nI i).toNatClampNeg))], m)) rfl (show mz_in (nI i) (m 3001 0).toNatClampNeg = true from by rw [e.2]; exact sm_inN rfl (show i < L by omega) (by omega)) ?_
  rw [show (nI i : Int32).toNatClampNeg = i from sm_clN rfl (show i < 2 ^ 31 by omega)]
  rw [show m 3000 i = xs i from e.1 _]
  refine mz_goS mz_ks13 2 (c' := (33, [some (.ref 3000), some (.ref 0), some (.ref 65), some (.int (nI i))], [.int ((xs i) &&& 63)], m)) rfl ?_
  rw [h]
  refine mz_goS mz_ks13 6 (c' := (680, [some (.ref 3000), some (.ref 0), some (.ref 65), some (.int (nI i))], [.int ((nI i) + 1), .ref 3000, .ref 0], m)) rfl ?_
  refine mz_arrS mz_ks13 (c' := (681, [some (.ref 3000), some (.ref 0), some (.ref 65), some (.int (nI i))], [.int (m 3000 (((nI i) + 1).toNatClampNeg)), .ref 0], m)) rfl (show mz_in ((nI i) + 1) (m 3001 0).toNatClampNeg = true from by rw [e.2]; exact sm_inN (sm_addN rfl rfl) (show (i + 1) < L by omega) (by omega)) ?_
  rw [show ((nI i) + 1 : Int32).toNatClampNeg = (i + 1) from sm_clN (sm_addN rfl rfl) (show (i + 1) < 2 ^ 31 by omega)]
  rw [show m 3000 (i + 1) = xs (i + 1) from e.1 _]
  refine mz_doS mz_ks13 (R := mz_r80) (as := [.ref 0, .int (xs (i + 1))]) (rest := []) (r1 := some (.int v1)) (m1 := m1) rfl h1 ?_
  refine mz_goS mz_ks13 6 (c' := (690, [some (.ref 3000), some (.ref 0), some (.ref 65), some (.int (nI i))], [.int ((nI i) + 1), .ref 3000, .ref 65], m1)) rfl ?_
  refine mz_arrS mz_ks13 (c' := (691, [some (.ref 3000), some (.ref 0), some (.ref 65), some (.int (nI i))], [.int (m1 3000 (((nI i) + 1).toNatClampNeg)), .ref 65], m1)) rfl (show mz_in ((nI i) + 1) (m1 3001 0).toNatClampNeg = true from by rw [e1.2]; exact sm_inN (sm_addN rfl rfl) (show (i + 1) < L by omega) (by omega)) ?_
  rw [show ((nI i) + 1 : Int32).toNatClampNeg = (i + 1) from sm_clN (sm_addN rfl rfl) (show (i + 1) < 2 ^ 31 by omega)]
  rw [show m1 3000 (i + 1) = xs (i + 1) from e1.1 _]
  refine mz_doS mz_ks13 (R := mz_r178) (as := [.ref 65, .int (xs (i + 1))]) (rest := []) (r1 := some (.int v2)) (m1 := m2) rfl h2 ?_
  refine mz_goS mz_ks13 4 (c' := (18, [some (.ref 3000), some (.ref 0), some (.ref 65), some (.int ((nI i) + 6))], [], m2)) rfl ?_
  exact hr
set_option maxHeartbeats 4000000 in
set_option maxRecDepth 100000 in
theorem lwc_ends {xs : Nat → Int32} {L i j : Nat} (hL : L ≤ 384) (hi : i + 6 ≤ L) {m : mz_M} (hj : j < 64) (hI : sm_I j m) (e : (∀ k, m 3000 k = xs k) ∧ (m 3001 0).toNatClampNeg = L) (h : xs i &&& 63 = 14) : ∃ m2, sm_I (j + 1) m2 ∧ ((∀ k, m2 3000 k = xs k) ∧ (m2 3001 0).toNatClampNeg = L) ∧ ∀ r, mz_Ex 101 mz_kL (18, [some (.ref 3000), some (.ref 0), some (.ref 65), some (.int ((nI i) + 6))], [], m2) r → mz_Ex 101 mz_kL (18, [some (.ref 3000), some (.ref 0), some (.ref 65), some (.int (nI i))], [], m) r := by
  obtain ⟨v1, v2, m1, m2, h1, h2, h3, hv⟩ := sc_ends hj hI (xs (i + 1)) (xs (i + 2)) (xs (i + 3)) (xs (i + 4))
  have e1 := lw_eL h1 e
  have e2 := lw_eL h2 e1
  refine ⟨m2, h3, e2, fun r hr => ?_⟩
  refine mz_goS mz_ks14 3 (c' := (21, [some (.ref 3000), some (.ref 0), some (.ref 65), some (.int (nI i))], [.int (Int32.ofNat (m 3001 0).toNatClampNeg), .int (nI i)], m)) rfl ?_
  rw [show Int32.ofNat (m 3001 0).toNatClampNeg = nI L from by rw [e.2]; rfl]
  refine mz_goS mz_ks14 3 (c' := (if ((nI L) - 6) < (nI i) then 1588 else 27, [some (.ref 3000), some (.ref 0), some (.ref 65), some (.int (nI i))], [], m)) rfl ?_
  refine mz_ifF (show ¬ (((nI L) - 6) < (nI i)) from (sm_law hL (by omega) (by omega))) ?_
  refine mz_goS mz_ks14 2 (c' := (29, [some (.ref 3000), some (.ref 0), some (.ref 65), some (.int (nI i))], [.int (nI i), .ref 3000], m)) rfl ?_
  refine mz_arrS mz_ks14 (c' := (30, [some (.ref 3000), some (.ref 0), some (.ref 65), some (.int (nI i))], [.int (m 3000 ((nI i).toNatClampNeg))], m)) rfl (show mz_in (nI i) (m 3001 0).toNatClampNeg = true from by rw [e.2]; exact sm_inN rfl (show i < L by omega) (by omega)) ?_
  rw [show (nI i : Int32).toNatClampNeg = i from sm_clN rfl (show i < 2 ^ 31 by omega)]
  rw [show m 3000 i = xs i from e.1 _]
  refine mz_goS mz_ks14 2 (c' := (33, [some (.ref 3000), some (.ref 0), some (.ref 65), some (.int (nI i))], [.int ((xs i) &&& 63)], m)) rfl ?_
  rw [h]
  refine mz_goS mz_ks14 6 (c' := (703, [some (.ref 3000), some (.ref 0), some (.ref 65), some (.int (nI i))], [.int ((nI i) + 1), .ref 3000, .ref 0], m)) rfl ?_
  refine mz_arrS mz_ks14 (c' := (704, [some (.ref 3000), some (.ref 0), some (.ref 65), some (.int (nI i))], [.int (m 3000 (((nI i) + 1).toNatClampNeg)), .ref 0], m)) rfl (show mz_in ((nI i) + 1) (m 3001 0).toNatClampNeg = true from by rw [e.2]; exact sm_inN (sm_addN rfl rfl) (show (i + 1) < L by omega) (by omega)) ?_
  rw [show ((nI i) + 1 : Int32).toNatClampNeg = (i + 1) from sm_clN (sm_addN rfl rfl) (show (i + 1) < 2 ^ 31 by omega)]
  rw [show m 3000 (i + 1) = xs (i + 1) from e.1 _]
  refine mz_goS mz_ks14 4 (c' := (708, [some (.ref 3000), some (.ref 0), some (.ref 65), some (.int (nI i))], [.int ((nI i) + 2), .ref 3000, .int (xs (i + 1)), .ref 0], m)) rfl ?_
  refine mz_arrS mz_ks14 (c' := (709, [some (.ref 3000), some (.ref 0), some (.ref 65), some (.int (nI i))], [.int (m 3000 (((nI i) + 2).toNatClampNeg)), .int (xs (i + 1)), .ref 0], m)) rfl (show mz_in ((nI i) + 2) (m 3001 0).toNatClampNeg = true from by rw [e.2]; exact sm_inN (sm_addN rfl rfl) (show (i + 2) < L by omega) (by omega)) ?_
  rw [show ((nI i) + 2 : Int32).toNatClampNeg = (i + 2) from sm_clN (sm_addN rfl rfl) (show (i + 2) < 2 ^ 31 by omega)]
  rw [show m 3000 (i + 2) = xs (i + 2) from e.1 _]
  refine mz_goS mz_ks14 4 (c' := (713, [some (.ref 3000), some (.ref 0), some (.ref 65), some (.int (nI i))], [.int ((nI i) + 3), .ref 3000, .int (xs (i + 2)), .int (xs (i + 1)), .ref 0], m)) rfl ?_
  refine mz_arrS mz_ks14 (c' := (714, [some (.ref 3000), some (.ref 0), some (.ref 65), some (.int (nI i))], [.int (m 3000 (((nI i) + 3).toNatClampNeg)), .int (xs (i + 2)), .int (xs (i + 1)), .ref 0], m)) rfl (show mz_in ((nI i) + 3) (m 3001 0).toNatClampNeg = true from by rw [e.2]; exact sm_inN (sm_addN rfl rfl) (show (i + 3) < L by omega) (by omega)) ?_
  rw [show ((nI i) + 3 : Int32).toNatClampNeg = (i + 3) from sm_clN (sm_addN rfl rfl) (show (i + 3) < 2 ^ 31 by omega)]
  rw [show m 3000 (i + 3) = xs (i + 3) from e.1 _]
  refine mz_goS mz_ks14 4 (c' := (718, [some (.ref 3000), some (.ref 0), some (.ref 65), some (.int (nI i))], [.int ((nI i) + 4), .ref 3000, .int (xs (i + 3)), .int (xs (i + 2)), .int (xs (i + 1)), .ref 0], m)) rfl ?_
  refine mz_arrS mz_ks14 (c' := (719, [some (.ref 3000), some (.ref 0), some (.ref 65), some (.int (nI i))], [.int (m 3000 (((nI i) + 4).toNatClampNeg)), .int (xs (i + 3)), .int (xs (i + 2)), .int (xs (i + 1)), .ref 0], m)) rfl (show mz_in ((nI i) + 4) (m 3001 0).toNatClampNeg = true from by rw [e.2]; exact sm_inN (sm_addN rfl rfl) (show (i + 4) < L by omega) (by omega)) ?_
  rw [show ((nI i) + 4 : Int32).toNatClampNeg = (i + 4) from sm_clN (sm_addN rfl rfl) (show (i + 4) < 2 ^ 31 by omega)]
  rw [show m 3000 (i + 4) = xs (i + 4) from e.1 _]
  refine mz_doS mz_ks14 (R := mz_r81) (as := [.ref 0, .int (xs (i + 1)), .int (xs (i + 2)), .int (xs (i + 3)), .int (xs (i + 4))]) (rest := []) (r1 := some (.int v1)) (m1 := m1) rfl h1 ?_
  refine mz_goS mz_ks14 6 (c' := (728, [some (.ref 3000), some (.ref 0), some (.ref 65), some (.int (nI i))], [.int ((nI i) + 1), .ref 3000, .ref 65], m1)) rfl ?_
  refine mz_arrS mz_ks14 (c' := (729, [some (.ref 3000), some (.ref 0), some (.ref 65), some (.int (nI i))], [.int (m1 3000 (((nI i) + 1).toNatClampNeg)), .ref 65], m1)) rfl (show mz_in ((nI i) + 1) (m1 3001 0).toNatClampNeg = true from by rw [e1.2]; exact sm_inN (sm_addN rfl rfl) (show (i + 1) < L by omega) (by omega)) ?_
  rw [show ((nI i) + 1 : Int32).toNatClampNeg = (i + 1) from sm_clN (sm_addN rfl rfl) (show (i + 1) < 2 ^ 31 by omega)]
  rw [show m1 3000 (i + 1) = xs (i + 1) from e1.1 _]
  refine mz_goS mz_ks14 4 (c' := (733, [some (.ref 3000), some (.ref 0), some (.ref 65), some (.int (nI i))], [.int ((nI i) + 2), .ref 3000, .int (xs (i + 1)), .ref 65], m1)) rfl ?_
  refine mz_arrS mz_ks14 (c' := (734, [some (.ref 3000), some (.ref 0), some (.ref 65), some (.int (nI i))], [.int (m1 3000 (((nI i) + 2).toNatClampNeg)), .int (xs (i + 1)), .ref 65], m1)) rfl (show mz_in ((nI i) + 2) (m1 3001 0).toNatClampNeg = true from by rw [e1.2]; exact sm_inN (sm_addN rfl rfl) (show (i + 2) < L by omega) (by omega)) ?_
  rw [show ((nI i) + 2 : Int32).toNatClampNeg = (i + 2) from sm_clN (sm_addN rfl rfl) (show (i + 2) < 2 ^ 31 by omega)]
  rw [show m1 3000 (i + 2) = xs (i + 2) from e1.1 _]
  refine mz_goS mz_ks14 4 (c' := (738, [some (.ref 3000), some (.ref 0), some (.ref 65), some (.int (nI i))], [.int ((nI i) + 3), .ref 3000, .int (xs (i + 2)), .int (xs (i + 1)), .ref 65], m1)) rfl ?_
  refine mz_arrS mz_ks14 (c' := (739, [some (.ref 3000), some (.ref 0), some (.ref 65), some (.int (nI i))], [.int (m1 3000 (((nI i) + 3).toNatClampNeg)), .int (xs (i + 2)), .int (xs (i + 1)), .ref 65], m1)) rfl (show mz_in ((nI i) + 3) (m1 3001 0).toNatClampNeg = true from by rw [e1.2]; exact sm_inN (sm_addN rfl rfl) (show (i + 3) < L by omega) (by omega)) ?_
  rw [show ((nI i) + 3 : Int32).toNatClampNeg = (i + 3) from sm_clN (sm_addN rfl rfl) (show (i + 3) < 2 ^ 31 by omega)]
  rw [show m1 3000 (i + 3) = xs (i + 3) from e1.1 _]
  refine mz_goS mz_ks14 4 (c' := (743, [some (.ref 3000), some (.ref 0), some (.ref 65), some (.int (nI i))], [.int ((nI i) + 4), .ref 3000, .int (xs (i + 3)), .int (xs (i + 2)), .int (xs (i + 1)), .ref 65], m1)) rfl ?_
  refine mz_arrS mz_ks14 (c' := (744, [some (.ref 3000), some (.ref 0), some (.ref 65), some (.int (nI i))], [.int (m1 3000 (((nI i) + 4).toNatClampNeg)), .int (xs (i + 3)), .int (xs (i + 2)), .int (xs (i + 1)), .ref 65], m1)) rfl (show mz_in ((nI i) + 4) (m1 3001 0).toNatClampNeg = true from by rw [e1.2]; exact sm_inN (sm_addN rfl rfl) (show (i + 4) < L by omega) (by omega)) ?_
  rw [show ((nI i) + 4 : Int32).toNatClampNeg = (i + 4) from sm_clN (sm_addN rfl rfl) (show (i + 4) < 2 ^ 31 by omega)]
  rw [show m1 3000 (i + 4) = xs (i + 4) from e1.1 _]
  refine mz_doS mz_ks14 (R := mz_r179) (as := [.ref 65, .int (xs (i + 1)), .int (xs (i + 2)), .int (xs (i + 3)), .int (xs (i + 4))]) (rest := []) (r1 := some (.int v2)) (m1 := m2) rfl h2 ?_
  refine mz_goS mz_ks14 4 (c' := (18, [some (.ref 3000), some (.ref 0), some (.ref 65), some (.int ((nI i) + 6))], [], m2)) rfl ?_
  exact hr
set_option maxHeartbeats 4000000 in
set_option maxRecDepth 100000 in
theorem lwc_length {xs : Nat → Int32} {L i j : Nat} (hL : L ≤ 384) (hi : i + 6 ≤ L) {m : mz_M} (hj : j < 64) (hI : sm_I j m) (e : (∀ k, m 3000 k = xs k) ∧ (m 3001 0).toNatClampNeg = L) (h : xs i &&& 63 = 15) : ∃ m2, sm_I (j + 1) m2 ∧ ((∀ k, m2 3000 k = xs k) ∧ (m2 3001 0).toNatClampNeg = L) ∧ ∀ r, mz_Ex 101 mz_kL (18, [some (.ref 3000), some (.ref 0), some (.ref 65), some (.int ((nI i) + 6))], [], m2) r → mz_Ex 101 mz_kL (18, [some (.ref 3000), some (.ref 0), some (.ref 65), some (.int (nI i))], [], m) r := by
  obtain ⟨v1, v2, m1, m2, h1, h2, h3, hv⟩ := sc_length hj hI (xs (i + 1)) (xs (i + 2))
  have e1 := lw_eL h1 e
  have e2 := lw_eL h2 e1
  refine ⟨m2, h3, e2, fun r hr => ?_⟩
  refine mz_goS mz_ks15 3 (c' := (21, [some (.ref 3000), some (.ref 0), some (.ref 65), some (.int (nI i))], [.int (Int32.ofNat (m 3001 0).toNatClampNeg), .int (nI i)], m)) rfl ?_
  rw [show Int32.ofNat (m 3001 0).toNatClampNeg = nI L from by rw [e.2]; rfl]
  refine mz_goS mz_ks15 3 (c' := (if ((nI L) - 6) < (nI i) then 1588 else 27, [some (.ref 3000), some (.ref 0), some (.ref 65), some (.int (nI i))], [], m)) rfl ?_
  refine mz_ifF (show ¬ (((nI L) - 6) < (nI i)) from (sm_law hL (by omega) (by omega))) ?_
  refine mz_goS mz_ks15 2 (c' := (29, [some (.ref 3000), some (.ref 0), some (.ref 65), some (.int (nI i))], [.int (nI i), .ref 3000], m)) rfl ?_
  refine mz_arrS mz_ks15 (c' := (30, [some (.ref 3000), some (.ref 0), some (.ref 65), some (.int (nI i))], [.int (m 3000 ((nI i).toNatClampNeg))], m)) rfl (show mz_in (nI i) (m 3001 0).toNatClampNeg = true from by rw [e.2]; exact sm_inN rfl (show i < L by omega) (by omega)) ?_
  rw [show (nI i : Int32).toNatClampNeg = i from sm_clN rfl (show i < 2 ^ 31 by omega)]
  rw [show m 3000 i = xs i from e.1 _]
  refine mz_goS mz_ks15 2 (c' := (33, [some (.ref 3000), some (.ref 0), some (.ref 65), some (.int (nI i))], [.int ((xs i) &&& 63)], m)) rfl ?_
  rw [h]
  refine mz_goS mz_ks15 6 (c' := (756, [some (.ref 3000), some (.ref 0), some (.ref 65), some (.int (nI i))], [.int ((nI i) + 1), .ref 3000, .ref 0], m)) rfl ?_
  refine mz_arrS mz_ks15 (c' := (757, [some (.ref 3000), some (.ref 0), some (.ref 65), some (.int (nI i))], [.int (m 3000 (((nI i) + 1).toNatClampNeg)), .ref 0], m)) rfl (show mz_in ((nI i) + 1) (m 3001 0).toNatClampNeg = true from by rw [e.2]; exact sm_inN (sm_addN rfl rfl) (show (i + 1) < L by omega) (by omega)) ?_
  rw [show ((nI i) + 1 : Int32).toNatClampNeg = (i + 1) from sm_clN (sm_addN rfl rfl) (show (i + 1) < 2 ^ 31 by omega)]
  rw [show m 3000 (i + 1) = xs (i + 1) from e.1 _]
  refine mz_goS mz_ks15 4 (c' := (761, [some (.ref 3000), some (.ref 0), some (.ref 65), some (.int (nI i))], [.int ((nI i) + 2), .ref 3000, .int (xs (i + 1)), .ref 0], m)) rfl ?_
  refine mz_arrS mz_ks15 (c' := (762, [some (.ref 3000), some (.ref 0), some (.ref 65), some (.int (nI i))], [.int (m 3000 (((nI i) + 2).toNatClampNeg)), .int (xs (i + 1)), .ref 0], m)) rfl (show mz_in ((nI i) + 2) (m 3001 0).toNatClampNeg = true from by rw [e.2]; exact sm_inN (sm_addN rfl rfl) (show (i + 2) < L by omega) (by omega)) ?_
  rw [show ((nI i) + 2 : Int32).toNatClampNeg = (i + 2) from sm_clN (sm_addN rfl rfl) (show (i + 2) < 2 ^ 31 by omega)]
  rw [show m 3000 (i + 2) = xs (i + 2) from e.1 _]
  refine mz_doS mz_ks15 (R := mz_r82) (as := [.ref 0, .int (xs (i + 1)), .int (xs (i + 2))]) (rest := []) (r1 := some (.int v1)) (m1 := m1) rfl h1 ?_
  refine mz_goS mz_ks15 6 (c' := (771, [some (.ref 3000), some (.ref 0), some (.ref 65), some (.int (nI i))], [.int ((nI i) + 1), .ref 3000, .ref 65], m1)) rfl ?_
  refine mz_arrS mz_ks15 (c' := (772, [some (.ref 3000), some (.ref 0), some (.ref 65), some (.int (nI i))], [.int (m1 3000 (((nI i) + 1).toNatClampNeg)), .ref 65], m1)) rfl (show mz_in ((nI i) + 1) (m1 3001 0).toNatClampNeg = true from by rw [e1.2]; exact sm_inN (sm_addN rfl rfl) (show (i + 1) < L by omega) (by omega)) ?_
  rw [show ((nI i) + 1 : Int32).toNatClampNeg = (i + 1) from sm_clN (sm_addN rfl rfl) (show (i + 1) < 2 ^ 31 by omega)]
  rw [show m1 3000 (i + 1) = xs (i + 1) from e1.1 _]
  refine mz_goS mz_ks15 4 (c' := (776, [some (.ref 3000), some (.ref 0), some (.ref 65), some (.int (nI i))], [.int ((nI i) + 2), .ref 3000, .int (xs (i + 1)), .ref 65], m1)) rfl ?_
  refine mz_arrS mz_ks15 (c' := (777, [some (.ref 3000), some (.ref 0), some (.ref 65), some (.int (nI i))], [.int (m1 3000 (((nI i) + 2).toNatClampNeg)), .int (xs (i + 1)), .ref 65], m1)) rfl (show mz_in ((nI i) + 2) (m1 3001 0).toNatClampNeg = true from by rw [e1.2]; exact sm_inN (sm_addN rfl rfl) (show (i + 2) < L by omega) (by omega)) ?_
  rw [show ((nI i) + 2 : Int32).toNatClampNeg = (i + 2) from sm_clN (sm_addN rfl rfl) (show (i + 2) < 2 ^ 31 by omega)]
  rw [show m1 3000 (i + 2) = xs (i + 2) from e1.1 _]
  refine mz_doS mz_ks15 (R := mz_r180) (as := [.ref 65, .int (xs (i + 1)), .int (xs (i + 2))]) (rest := []) (r1 := some (.int v2)) (m1 := m2) rfl h2 ?_
  refine mz_goS mz_ks15 4 (c' := (18, [some (.ref 3000), some (.ref 0), some (.ref 65), some (.int ((nI i) + 6))], [], m2)) rfl ?_
  exact hr
set_option maxHeartbeats 4000000 in
set_option maxRecDepth 100000 in
theorem lwc_doubt {xs : Nat → Int32} {L i j : Nat} (hL : L ≤ 384) (hi : i + 6 ≤ L) {m : mz_M} (hj : j < 64) (hI : sm_I j m) (e : (∀ k, m 3000 k = xs k) ∧ (m 3001 0).toNatClampNeg = L) (h : xs i &&& 63 = 16) : ∃ m2, sm_I (j + 1) m2 ∧ ((∀ k, m2 3000 k = xs k) ∧ (m2 3001 0).toNatClampNeg = L) ∧ ∀ r, mz_Ex 101 mz_kL (18, [some (.ref 3000), some (.ref 0), some (.ref 65), some (.int ((nI i) + 6))], [], m2) r → mz_Ex 101 mz_kL (18, [some (.ref 3000), some (.ref 0), some (.ref 65), some (.int (nI i))], [], m) r := by
  obtain ⟨v1, v2, m1, m2, h1, h2, h3, hv⟩ := sc_doubt hj hI (xs (i + 1)) (xs (i + 2))
  have e1 := lw_eL h1 e
  have e2 := lw_eL h2 e1
  refine ⟨m2, h3, e2, fun r hr => ?_⟩
  refine mz_goS mz_ks16 3 (c' := (21, [some (.ref 3000), some (.ref 0), some (.ref 65), some (.int (nI i))], [.int (Int32.ofNat (m 3001 0).toNatClampNeg), .int (nI i)], m)) rfl ?_
  rw [show Int32.ofNat (m 3001 0).toNatClampNeg = nI L from by rw [e.2]; rfl]
  refine mz_goS mz_ks16 3 (c' := (if ((nI L) - 6) < (nI i) then 1588 else 27, [some (.ref 3000), some (.ref 0), some (.ref 65), some (.int (nI i))], [], m)) rfl ?_
  refine mz_ifF (show ¬ (((nI L) - 6) < (nI i)) from (sm_law hL (by omega) (by omega))) ?_
  refine mz_goS mz_ks16 2 (c' := (29, [some (.ref 3000), some (.ref 0), some (.ref 65), some (.int (nI i))], [.int (nI i), .ref 3000], m)) rfl ?_
  refine mz_arrS mz_ks16 (c' := (30, [some (.ref 3000), some (.ref 0), some (.ref 65), some (.int (nI i))], [.int (m 3000 ((nI i).toNatClampNeg))], m)) rfl (show mz_in (nI i) (m 3001 0).toNatClampNeg = true from by rw [e.2]; exact sm_inN rfl (show i < L by omega) (by omega)) ?_
  rw [show (nI i : Int32).toNatClampNeg = i from sm_clN rfl (show i < 2 ^ 31 by omega)]
  rw [show m 3000 i = xs i from e.1 _]
  refine mz_goS mz_ks16 2 (c' := (33, [some (.ref 3000), some (.ref 0), some (.ref 65), some (.int (nI i))], [.int ((xs i) &&& 63)], m)) rfl ?_
  rw [h]
  refine mz_goS mz_ks16 6 (c' := (789, [some (.ref 3000), some (.ref 0), some (.ref 65), some (.int (nI i))], [.int ((nI i) + 1), .ref 3000, .ref 0], m)) rfl ?_
  refine mz_arrS mz_ks16 (c' := (790, [some (.ref 3000), some (.ref 0), some (.ref 65), some (.int (nI i))], [.int (m 3000 (((nI i) + 1).toNatClampNeg)), .ref 0], m)) rfl (show mz_in ((nI i) + 1) (m 3001 0).toNatClampNeg = true from by rw [e.2]; exact sm_inN (sm_addN rfl rfl) (show (i + 1) < L by omega) (by omega)) ?_
  rw [show ((nI i) + 1 : Int32).toNatClampNeg = (i + 1) from sm_clN (sm_addN rfl rfl) (show (i + 1) < 2 ^ 31 by omega)]
  rw [show m 3000 (i + 1) = xs (i + 1) from e.1 _]
  refine mz_goS mz_ks16 4 (c' := (794, [some (.ref 3000), some (.ref 0), some (.ref 65), some (.int (nI i))], [.int ((nI i) + 2), .ref 3000, .int (xs (i + 1)), .ref 0], m)) rfl ?_
  refine mz_arrS mz_ks16 (c' := (795, [some (.ref 3000), some (.ref 0), some (.ref 65), some (.int (nI i))], [.int (m 3000 (((nI i) + 2).toNatClampNeg)), .int (xs (i + 1)), .ref 0], m)) rfl (show mz_in ((nI i) + 2) (m 3001 0).toNatClampNeg = true from by rw [e.2]; exact sm_inN (sm_addN rfl rfl) (show (i + 2) < L by omega) (by omega)) ?_
  rw [show ((nI i) + 2 : Int32).toNatClampNeg = (i + 2) from sm_clN (sm_addN rfl rfl) (show (i + 2) < 2 ^ 31 by omega)]
  rw [show m 3000 (i + 2) = xs (i + 2) from e.1 _]
  refine mz_doS mz_ks16 (R := mz_r83) (as := [.ref 0, .int (xs (i + 1)), .int (xs (i + 2))]) (rest := []) (r1 := some (.int v1)) (m1 := m1) rfl h1 ?_
  refine mz_goS mz_ks16 6 (c' := (804, [some (.ref 3000), some (.ref 0), some (.ref 65), some (.int (nI i))], [.int ((nI i) + 1), .ref 3000, .ref 65], m1)) rfl ?_
  refine mz_arrS mz_ks16 (c' := (805, [some (.ref 3000), some (.ref 0), some (.ref 65), some (.int (nI i))], [.int (m1 3000 (((nI i) + 1).toNatClampNeg)), .ref 65], m1)) rfl (show mz_in ((nI i) + 1) (m1 3001 0).toNatClampNeg = true from by rw [e1.2]; exact sm_inN (sm_addN rfl rfl) (show (i + 1) < L by omega) (by omega)) ?_
  rw [show ((nI i) + 1 : Int32).toNatClampNeg = (i + 1) from sm_clN (sm_addN rfl rfl) (show (i + 1) < 2 ^ 31 by omega)]
  rw [show m1 3000 (i + 1) = xs (i + 1) from e1.1 _]
  refine mz_goS mz_ks16 4 (c' := (809, [some (.ref 3000), some (.ref 0), some (.ref 65), some (.int (nI i))], [.int ((nI i) + 2), .ref 3000, .int (xs (i + 1)), .ref 65], m1)) rfl ?_
  refine mz_arrS mz_ks16 (c' := (810, [some (.ref 3000), some (.ref 0), some (.ref 65), some (.int (nI i))], [.int (m1 3000 (((nI i) + 2).toNatClampNeg)), .int (xs (i + 1)), .ref 65], m1)) rfl (show mz_in ((nI i) + 2) (m1 3001 0).toNatClampNeg = true from by rw [e1.2]; exact sm_inN (sm_addN rfl rfl) (show (i + 2) < L by omega) (by omega)) ?_
  rw [show ((nI i) + 2 : Int32).toNatClampNeg = (i + 2) from sm_clN (sm_addN rfl rfl) (show (i + 2) < 2 ^ 31 by omega)]
  rw [show m1 3000 (i + 2) = xs (i + 2) from e1.1 _]
  refine mz_doS mz_ks16 (R := mz_r181) (as := [.ref 65, .int (xs (i + 1)), .int (xs (i + 2))]) (rest := []) (r1 := some (.int v2)) (m1 := m2) rfl h2 ?_
  refine mz_goS mz_ks16 4 (c' := (18, [some (.ref 3000), some (.ref 0), some (.ref 65), some (.int ((nI i) + 6))], [], m2)) rfl ?_
  exact hr
set_option maxHeartbeats 4000000 in
set_option maxRecDepth 100000 in
theorem lwc_holds {xs : Nat → Int32} {L i j : Nat} (hL : L ≤ 384) (hi : i + 6 ≤ L) {m : mz_M} (hj : j < 64) (hI : sm_I j m) (e : (∀ k, m 3000 k = xs k) ∧ (m 3001 0).toNatClampNeg = L) (h : xs i &&& 63 = 17) : ∃ m2, sm_I (j + 1) m2 ∧ ((∀ k, m2 3000 k = xs k) ∧ (m2 3001 0).toNatClampNeg = L) ∧ ∀ r, mz_Ex 101 mz_kL (18, [some (.ref 3000), some (.ref 0), some (.ref 65), some (.int ((nI i) + 6))], [], m2) r → mz_Ex 101 mz_kL (18, [some (.ref 3000), some (.ref 0), some (.ref 65), some (.int (nI i))], [], m) r := by
  obtain ⟨v1, v2, m1, m2, h1, h2, h3, hv⟩ := sc_holds hj hI (xs (i + 1)) (xs (i + 2))
  have e1 := lw_eL h1 e
  have e2 := lw_eL h2 e1
  refine ⟨m2, h3, e2, fun r hr => ?_⟩
  refine mz_goS mz_ks17 3 (c' := (21, [some (.ref 3000), some (.ref 0), some (.ref 65), some (.int (nI i))], [.int (Int32.ofNat (m 3001 0).toNatClampNeg), .int (nI i)], m)) rfl ?_
  rw [show Int32.ofNat (m 3001 0).toNatClampNeg = nI L from by rw [e.2]; rfl]
  refine mz_goS mz_ks17 3 (c' := (if ((nI L) - 6) < (nI i) then 1588 else 27, [some (.ref 3000), some (.ref 0), some (.ref 65), some (.int (nI i))], [], m)) rfl ?_
  refine mz_ifF (show ¬ (((nI L) - 6) < (nI i)) from (sm_law hL (by omega) (by omega))) ?_
  refine mz_goS mz_ks17 2 (c' := (29, [some (.ref 3000), some (.ref 0), some (.ref 65), some (.int (nI i))], [.int (nI i), .ref 3000], m)) rfl ?_
  refine mz_arrS mz_ks17 (c' := (30, [some (.ref 3000), some (.ref 0), some (.ref 65), some (.int (nI i))], [.int (m 3000 ((nI i).toNatClampNeg))], m)) rfl (show mz_in (nI i) (m 3001 0).toNatClampNeg = true from by rw [e.2]; exact sm_inN rfl (show i < L by omega) (by omega)) ?_
  rw [show (nI i : Int32).toNatClampNeg = i from sm_clN rfl (show i < 2 ^ 31 by omega)]
  rw [show m 3000 i = xs i from e.1 _]
  refine mz_goS mz_ks17 2 (c' := (33, [some (.ref 3000), some (.ref 0), some (.ref 65), some (.int (nI i))], [.int ((xs i) &&& 63)], m)) rfl ?_
  rw [h]
  refine mz_goS mz_ks17 6 (c' := (822, [some (.ref 3000), some (.ref 0), some (.ref 65), some (.int (nI i))], [.int ((nI i) + 1), .ref 3000, .ref 0], m)) rfl ?_
  refine mz_arrS mz_ks17 (c' := (823, [some (.ref 3000), some (.ref 0), some (.ref 65), some (.int (nI i))], [.int (m 3000 (((nI i) + 1).toNatClampNeg)), .ref 0], m)) rfl (show mz_in ((nI i) + 1) (m 3001 0).toNatClampNeg = true from by rw [e.2]; exact sm_inN (sm_addN rfl rfl) (show (i + 1) < L by omega) (by omega)) ?_
  rw [show ((nI i) + 1 : Int32).toNatClampNeg = (i + 1) from sm_clN (sm_addN rfl rfl) (show (i + 1) < 2 ^ 31 by omega)]
  rw [show m 3000 (i + 1) = xs (i + 1) from e.1 _]
  refine mz_goS mz_ks17 4 (c' := (827, [some (.ref 3000), some (.ref 0), some (.ref 65), some (.int (nI i))], [.int ((nI i) + 2), .ref 3000, .int (xs (i + 1)), .ref 0], m)) rfl ?_
  refine mz_arrS mz_ks17 (c' := (828, [some (.ref 3000), some (.ref 0), some (.ref 65), some (.int (nI i))], [.int (m 3000 (((nI i) + 2).toNatClampNeg)), .int (xs (i + 1)), .ref 0], m)) rfl (show mz_in ((nI i) + 2) (m 3001 0).toNatClampNeg = true from by rw [e.2]; exact sm_inN (sm_addN rfl rfl) (show (i + 2) < L by omega) (by omega)) ?_
  rw [show ((nI i) + 2 : Int32).toNatClampNeg = (i + 2) from sm_clN (sm_addN rfl rfl) (show (i + 2) < 2 ^ 31 by omega)]
  rw [show m 3000 (i + 2) = xs (i + 2) from e.1 _]
  refine mz_doS mz_ks17 (R := mz_r84) (as := [.ref 0, .int (xs (i + 1)), .int (xs (i + 2))]) (rest := []) (r1 := some (.int v1)) (m1 := m1) rfl h1 ?_
  refine mz_goS mz_ks17 6 (c' := (837, [some (.ref 3000), some (.ref 0), some (.ref 65), some (.int (nI i))], [.int ((nI i) + 1), .ref 3000, .ref 65], m1)) rfl ?_
  refine mz_arrS mz_ks17 (c' := (838, [some (.ref 3000), some (.ref 0), some (.ref 65), some (.int (nI i))], [.int (m1 3000 (((nI i) + 1).toNatClampNeg)), .ref 65], m1)) rfl (show mz_in ((nI i) + 1) (m1 3001 0).toNatClampNeg = true from by rw [e1.2]; exact sm_inN (sm_addN rfl rfl) (show (i + 1) < L by omega) (by omega)) ?_
  rw [show ((nI i) + 1 : Int32).toNatClampNeg = (i + 1) from sm_clN (sm_addN rfl rfl) (show (i + 1) < 2 ^ 31 by omega)]
  rw [show m1 3000 (i + 1) = xs (i + 1) from e1.1 _]
  refine mz_goS mz_ks17 4 (c' := (842, [some (.ref 3000), some (.ref 0), some (.ref 65), some (.int (nI i))], [.int ((nI i) + 2), .ref 3000, .int (xs (i + 1)), .ref 65], m1)) rfl ?_
  refine mz_arrS mz_ks17 (c' := (843, [some (.ref 3000), some (.ref 0), some (.ref 65), some (.int (nI i))], [.int (m1 3000 (((nI i) + 2).toNatClampNeg)), .int (xs (i + 1)), .ref 65], m1)) rfl (show mz_in ((nI i) + 2) (m1 3001 0).toNatClampNeg = true from by rw [e1.2]; exact sm_inN (sm_addN rfl rfl) (show (i + 2) < L by omega) (by omega)) ?_
  rw [show ((nI i) + 2 : Int32).toNatClampNeg = (i + 2) from sm_clN (sm_addN rfl rfl) (show (i + 2) < 2 ^ 31 by omega)]
  rw [show m1 3000 (i + 2) = xs (i + 2) from e1.1 _]
  refine mz_doS mz_ks17 (R := mz_r182) (as := [.ref 65, .int (xs (i + 1)), .int (xs (i + 2))]) (rest := []) (r1 := some (.int v2)) (m1 := m2) rfl h2 ?_
  refine mz_goS mz_ks17 4 (c' := (18, [some (.ref 3000), some (.ref 0), some (.ref 65), some (.int ((nI i) + 6))], [], m2)) rfl ?_
  exact hr
set_option maxHeartbeats 4000000 in
set_option maxRecDepth 100000 in
theorem lwc_picture {xs : Nat → Int32} {L i j : Nat} (hL : L ≤ 384) (hi : i + 6 ≤ L) {m : mz_M} (hj : j < 64) (hI : sm_I j m) (e : (∀ k, m 3000 k = xs k) ∧ (m 3001 0).toNatClampNeg = L) (h : xs i &&& 63 = 18) : ∃ m2, sm_I (j + 1) m2 ∧ ((∀ k, m2 3000 k = xs k) ∧ (m2 3001 0).toNatClampNeg = L) ∧ ∀ r, mz_Ex 101 mz_kL (18, [some (.ref 3000), some (.ref 0), some (.ref 65), some (.int ((nI i) + 6))], [], m2) r → mz_Ex 101 mz_kL (18, [some (.ref 3000), some (.ref 0), some (.ref 65), some (.int (nI i))], [], m) r := by
  obtain ⟨v1, v2, m1, m2, h1, h2, h3⟩ := sc_picture hj hI (xs (i + 1)) (xs (i + 2)) (xs (i + 3)) (xs (i + 4))
  have e1 := lw_eL h1 e
  have e2 := lw_eL h2 e1
  refine ⟨m2, h3, e2, fun r hr => ?_⟩
  refine mz_goS mz_ks18 3 (c' := (21, [some (.ref 3000), some (.ref 0), some (.ref 65), some (.int (nI i))], [.int (Int32.ofNat (m 3001 0).toNatClampNeg), .int (nI i)], m)) rfl ?_
  rw [show Int32.ofNat (m 3001 0).toNatClampNeg = nI L from by rw [e.2]; rfl]
  refine mz_goS mz_ks18 3 (c' := (if ((nI L) - 6) < (nI i) then 1588 else 27, [some (.ref 3000), some (.ref 0), some (.ref 65), some (.int (nI i))], [], m)) rfl ?_
  refine mz_ifF (show ¬ (((nI L) - 6) < (nI i)) from (sm_law hL (by omega) (by omega))) ?_
  refine mz_goS mz_ks18 2 (c' := (29, [some (.ref 3000), some (.ref 0), some (.ref 65), some (.int (nI i))], [.int (nI i), .ref 3000], m)) rfl ?_
  refine mz_arrS mz_ks18 (c' := (30, [some (.ref 3000), some (.ref 0), some (.ref 65), some (.int (nI i))], [.int (m 3000 ((nI i).toNatClampNeg))], m)) rfl (show mz_in (nI i) (m 3001 0).toNatClampNeg = true from by rw [e.2]; exact sm_inN rfl (show i < L by omega) (by omega)) ?_
  rw [show (nI i : Int32).toNatClampNeg = i from sm_clN rfl (show i < 2 ^ 31 by omega)]
  rw [show m 3000 i = xs i from e.1 _]
  refine mz_goS mz_ks18 2 (c' := (33, [some (.ref 3000), some (.ref 0), some (.ref 65), some (.int (nI i))], [.int ((xs i) &&& 63)], m)) rfl ?_
  rw [h]
  refine mz_goS mz_ks18 6 (c' := (855, [some (.ref 3000), some (.ref 0), some (.ref 65), some (.int (nI i))], [.int ((nI i) + 1), .ref 3000, .ref 0], m)) rfl ?_
  refine mz_arrS mz_ks18 (c' := (856, [some (.ref 3000), some (.ref 0), some (.ref 65), some (.int (nI i))], [.int (m 3000 (((nI i) + 1).toNatClampNeg)), .ref 0], m)) rfl (show mz_in ((nI i) + 1) (m 3001 0).toNatClampNeg = true from by rw [e.2]; exact sm_inN (sm_addN rfl rfl) (show (i + 1) < L by omega) (by omega)) ?_
  rw [show ((nI i) + 1 : Int32).toNatClampNeg = (i + 1) from sm_clN (sm_addN rfl rfl) (show (i + 1) < 2 ^ 31 by omega)]
  rw [show m 3000 (i + 1) = xs (i + 1) from e.1 _]
  refine mz_goS mz_ks18 4 (c' := (860, [some (.ref 3000), some (.ref 0), some (.ref 65), some (.int (nI i))], [.int ((nI i) + 2), .ref 3000, .int (xs (i + 1)), .ref 0], m)) rfl ?_
  refine mz_arrS mz_ks18 (c' := (861, [some (.ref 3000), some (.ref 0), some (.ref 65), some (.int (nI i))], [.int (m 3000 (((nI i) + 2).toNatClampNeg)), .int (xs (i + 1)), .ref 0], m)) rfl (show mz_in ((nI i) + 2) (m 3001 0).toNatClampNeg = true from by rw [e.2]; exact sm_inN (sm_addN rfl rfl) (show (i + 2) < L by omega) (by omega)) ?_
  rw [show ((nI i) + 2 : Int32).toNatClampNeg = (i + 2) from sm_clN (sm_addN rfl rfl) (show (i + 2) < 2 ^ 31 by omega)]
  rw [show m 3000 (i + 2) = xs (i + 2) from e.1 _]
  refine mz_goS mz_ks18 4 (c' := (865, [some (.ref 3000), some (.ref 0), some (.ref 65), some (.int (nI i))], [.int ((nI i) + 3), .ref 3000, .int (xs (i + 2)), .int (xs (i + 1)), .ref 0], m)) rfl ?_
  refine mz_arrS mz_ks18 (c' := (866, [some (.ref 3000), some (.ref 0), some (.ref 65), some (.int (nI i))], [.int (m 3000 (((nI i) + 3).toNatClampNeg)), .int (xs (i + 2)), .int (xs (i + 1)), .ref 0], m)) rfl (show mz_in ((nI i) + 3) (m 3001 0).toNatClampNeg = true from by rw [e.2]; exact sm_inN (sm_addN rfl rfl) (show (i + 3) < L by omega) (by omega)) ?_
  rw [show ((nI i) + 3 : Int32).toNatClampNeg = (i + 3) from sm_clN (sm_addN rfl rfl) (show (i + 3) < 2 ^ 31 by omega)]
  rw [show m 3000 (i + 3) = xs (i + 3) from e.1 _]
  refine mz_goS mz_ks18 4 (c' := (870, [some (.ref 3000), some (.ref 0), some (.ref 65), some (.int (nI i))], [.int ((nI i) + 4), .ref 3000, .int (xs (i + 3)), .int (xs (i + 2)), .int (xs (i + 1)), .ref 0], m)) rfl ?_
  refine mz_arrS mz_ks18 (c' := (871, [some (.ref 3000), some (.ref 0), some (.ref 65), some (.int (nI i))], [.int (m 3000 (((nI i) + 4).toNatClampNeg)), .int (xs (i + 3)), .int (xs (i + 2)), .int (xs (i + 1)), .ref 0], m)) rfl (show mz_in ((nI i) + 4) (m 3001 0).toNatClampNeg = true from by rw [e.2]; exact sm_inN (sm_addN rfl rfl) (show (i + 4) < L by omega) (by omega)) ?_
  rw [show ((nI i) + 4 : Int32).toNatClampNeg = (i + 4) from sm_clN (sm_addN rfl rfl) (show (i + 4) < 2 ^ 31 by omega)]
  rw [show m 3000 (i + 4) = xs (i + 4) from e.1 _]
  refine mz_doS mz_ks18 (R := mz_r85) (as := [.ref 0, .int (xs (i + 1)), .int (xs (i + 2)), .int (xs (i + 3)), .int (xs (i + 4))]) (rest := []) (r1 := some (.int v1)) (m1 := m1) rfl h1 ?_
  refine mz_goS mz_ks18 6 (c' := (880, [some (.ref 3000), some (.ref 0), some (.ref 65), some (.int (nI i))], [.int ((nI i) + 1), .ref 3000, .ref 65], m1)) rfl ?_
  refine mz_arrS mz_ks18 (c' := (881, [some (.ref 3000), some (.ref 0), some (.ref 65), some (.int (nI i))], [.int (m1 3000 (((nI i) + 1).toNatClampNeg)), .ref 65], m1)) rfl (show mz_in ((nI i) + 1) (m1 3001 0).toNatClampNeg = true from by rw [e1.2]; exact sm_inN (sm_addN rfl rfl) (show (i + 1) < L by omega) (by omega)) ?_
  rw [show ((nI i) + 1 : Int32).toNatClampNeg = (i + 1) from sm_clN (sm_addN rfl rfl) (show (i + 1) < 2 ^ 31 by omega)]
  rw [show m1 3000 (i + 1) = xs (i + 1) from e1.1 _]
  refine mz_goS mz_ks18 4 (c' := (885, [some (.ref 3000), some (.ref 0), some (.ref 65), some (.int (nI i))], [.int ((nI i) + 2), .ref 3000, .int (xs (i + 1)), .ref 65], m1)) rfl ?_
  refine mz_arrS mz_ks18 (c' := (886, [some (.ref 3000), some (.ref 0), some (.ref 65), some (.int (nI i))], [.int (m1 3000 (((nI i) + 2).toNatClampNeg)), .int (xs (i + 1)), .ref 65], m1)) rfl (show mz_in ((nI i) + 2) (m1 3001 0).toNatClampNeg = true from by rw [e1.2]; exact sm_inN (sm_addN rfl rfl) (show (i + 2) < L by omega) (by omega)) ?_
  rw [show ((nI i) + 2 : Int32).toNatClampNeg = (i + 2) from sm_clN (sm_addN rfl rfl) (show (i + 2) < 2 ^ 31 by omega)]
  rw [show m1 3000 (i + 2) = xs (i + 2) from e1.1 _]
  refine mz_goS mz_ks18 4 (c' := (890, [some (.ref 3000), some (.ref 0), some (.ref 65), some (.int (nI i))], [.int ((nI i) + 3), .ref 3000, .int (xs (i + 2)), .int (xs (i + 1)), .ref 65], m1)) rfl ?_
  refine mz_arrS mz_ks18 (c' := (891, [some (.ref 3000), some (.ref 0), some (.ref 65), some (.int (nI i))], [.int (m1 3000 (((nI i) + 3).toNatClampNeg)), .int (xs (i + 2)), .int (xs (i + 1)), .ref 65], m1)) rfl (show mz_in ((nI i) + 3) (m1 3001 0).toNatClampNeg = true from by rw [e1.2]; exact sm_inN (sm_addN rfl rfl) (show (i + 3) < L by omega) (by omega)) ?_
  rw [show ((nI i) + 3 : Int32).toNatClampNeg = (i + 3) from sm_clN (sm_addN rfl rfl) (show (i + 3) < 2 ^ 31 by omega)]
  rw [show m1 3000 (i + 3) = xs (i + 3) from e1.1 _]
  refine mz_goS mz_ks18 4 (c' := (895, [some (.ref 3000), some (.ref 0), some (.ref 65), some (.int (nI i))], [.int ((nI i) + 4), .ref 3000, .int (xs (i + 3)), .int (xs (i + 2)), .int (xs (i + 1)), .ref 65], m1)) rfl ?_
  refine mz_arrS mz_ks18 (c' := (896, [some (.ref 3000), some (.ref 0), some (.ref 65), some (.int (nI i))], [.int (m1 3000 (((nI i) + 4).toNatClampNeg)), .int (xs (i + 3)), .int (xs (i + 2)), .int (xs (i + 1)), .ref 65], m1)) rfl (show mz_in ((nI i) + 4) (m1 3001 0).toNatClampNeg = true from by rw [e1.2]; exact sm_inN (sm_addN rfl rfl) (show (i + 4) < L by omega) (by omega)) ?_
  rw [show ((nI i) + 4 : Int32).toNatClampNeg = (i + 4) from sm_clN (sm_addN rfl rfl) (show (i + 4) < 2 ^ 31 by omega)]
  rw [show m1 3000 (i + 4) = xs (i + 4) from e1.1 _]
  refine mz_doS mz_ks18 (R := mz_r190) (as := [.ref 65, .int (xs (i + 1)), .int (xs (i + 2)), .int (xs (i + 3)), .int (xs (i + 4))]) (rest := []) (r1 := some (.int v2)) (m1 := m2) rfl h2 ?_
  refine mz_goS mz_ks18 4 (c' := (18, [some (.ref 3000), some (.ref 0), some (.ref 65), some (.int ((nI i) + 6))], [], m2)) rfl ?_
  exact hr
set_option maxHeartbeats 4000000 in
set_option maxRecDepth 100000 in
theorem lwc_cell {xs : Nat → Int32} {L i j : Nat} (hL : L ≤ 384) (hi : i + 6 ≤ L) {m : mz_M} (hj : j < 64) (hI : sm_I j m) (e : (∀ k, m 3000 k = xs k) ∧ (m 3001 0).toNatClampNeg = L) (h : xs i &&& 63 = 19) : ∃ m2, sm_I (j + 1) m2 ∧ ((∀ k, m2 3000 k = xs k) ∧ (m2 3001 0).toNatClampNeg = L) ∧ ∀ r, mz_Ex 101 mz_kL (18, [some (.ref 3000), some (.ref 0), some (.ref 65), some (.int ((nI i) + 6))], [], m2) r → mz_Ex 101 mz_kL (18, [some (.ref 3000), some (.ref 0), some (.ref 65), some (.int (nI i))], [], m) r := by
  obtain ⟨v1, v2, m1, m2, h1, h2, h3, hv⟩ := sc_cell hj hI (xs (i + 1)) (xs (i + 2))
  have e1 := lw_eL h1 e
  have e2 := lw_eL h2 e1
  refine ⟨m2, h3, e2, fun r hr => ?_⟩
  refine mz_goS mz_ks19 3 (c' := (21, [some (.ref 3000), some (.ref 0), some (.ref 65), some (.int (nI i))], [.int (Int32.ofNat (m 3001 0).toNatClampNeg), .int (nI i)], m)) rfl ?_
  rw [show Int32.ofNat (m 3001 0).toNatClampNeg = nI L from by rw [e.2]; rfl]
  refine mz_goS mz_ks19 3 (c' := (if ((nI L) - 6) < (nI i) then 1588 else 27, [some (.ref 3000), some (.ref 0), some (.ref 65), some (.int (nI i))], [], m)) rfl ?_
  refine mz_ifF (show ¬ (((nI L) - 6) < (nI i)) from (sm_law hL (by omega) (by omega))) ?_
  refine mz_goS mz_ks19 2 (c' := (29, [some (.ref 3000), some (.ref 0), some (.ref 65), some (.int (nI i))], [.int (nI i), .ref 3000], m)) rfl ?_
  refine mz_arrS mz_ks19 (c' := (30, [some (.ref 3000), some (.ref 0), some (.ref 65), some (.int (nI i))], [.int (m 3000 ((nI i).toNatClampNeg))], m)) rfl (show mz_in (nI i) (m 3001 0).toNatClampNeg = true from by rw [e.2]; exact sm_inN rfl (show i < L by omega) (by omega)) ?_
  rw [show (nI i : Int32).toNatClampNeg = i from sm_clN rfl (show i < 2 ^ 31 by omega)]
  rw [show m 3000 i = xs i from e.1 _]
  refine mz_goS mz_ks19 2 (c' := (33, [some (.ref 3000), some (.ref 0), some (.ref 65), some (.int (nI i))], [.int ((xs i) &&& 63)], m)) rfl ?_
  rw [h]
  refine mz_goS mz_ks19 6 (c' := (908, [some (.ref 3000), some (.ref 0), some (.ref 65), some (.int (nI i))], [.int ((nI i) + 1), .ref 3000, .ref 0], m)) rfl ?_
  refine mz_arrS mz_ks19 (c' := (909, [some (.ref 3000), some (.ref 0), some (.ref 65), some (.int (nI i))], [.int (m 3000 (((nI i) + 1).toNatClampNeg)), .ref 0], m)) rfl (show mz_in ((nI i) + 1) (m 3001 0).toNatClampNeg = true from by rw [e.2]; exact sm_inN (sm_addN rfl rfl) (show (i + 1) < L by omega) (by omega)) ?_
  rw [show ((nI i) + 1 : Int32).toNatClampNeg = (i + 1) from sm_clN (sm_addN rfl rfl) (show (i + 1) < 2 ^ 31 by omega)]
  rw [show m 3000 (i + 1) = xs (i + 1) from e.1 _]
  refine mz_goS mz_ks19 4 (c' := (913, [some (.ref 3000), some (.ref 0), some (.ref 65), some (.int (nI i))], [.int ((nI i) + 2), .ref 3000, .int (xs (i + 1)), .ref 0], m)) rfl ?_
  refine mz_arrS mz_ks19 (c' := (914, [some (.ref 3000), some (.ref 0), some (.ref 65), some (.int (nI i))], [.int (m 3000 (((nI i) + 2).toNatClampNeg)), .int (xs (i + 1)), .ref 0], m)) rfl (show mz_in ((nI i) + 2) (m 3001 0).toNatClampNeg = true from by rw [e.2]; exact sm_inN (sm_addN rfl rfl) (show (i + 2) < L by omega) (by omega)) ?_
  rw [show ((nI i) + 2 : Int32).toNatClampNeg = (i + 2) from sm_clN (sm_addN rfl rfl) (show (i + 2) < 2 ^ 31 by omega)]
  rw [show m 3000 (i + 2) = xs (i + 2) from e.1 _]
  refine mz_doS mz_ks19 (R := mz_r86) (as := [.ref 0, .int (xs (i + 1)), .int (xs (i + 2))]) (rest := []) (r1 := some (.int v1)) (m1 := m1) rfl h1 ?_
  refine mz_goS mz_ks19 6 (c' := (923, [some (.ref 3000), some (.ref 0), some (.ref 65), some (.int (nI i))], [.int ((nI i) + 1), .ref 3000, .ref 65], m1)) rfl ?_
  refine mz_arrS mz_ks19 (c' := (924, [some (.ref 3000), some (.ref 0), some (.ref 65), some (.int (nI i))], [.int (m1 3000 (((nI i) + 1).toNatClampNeg)), .ref 65], m1)) rfl (show mz_in ((nI i) + 1) (m1 3001 0).toNatClampNeg = true from by rw [e1.2]; exact sm_inN (sm_addN rfl rfl) (show (i + 1) < L by omega) (by omega)) ?_
  rw [show ((nI i) + 1 : Int32).toNatClampNeg = (i + 1) from sm_clN (sm_addN rfl rfl) (show (i + 1) < 2 ^ 31 by omega)]
  rw [show m1 3000 (i + 1) = xs (i + 1) from e1.1 _]
  refine mz_goS mz_ks19 4 (c' := (928, [some (.ref 3000), some (.ref 0), some (.ref 65), some (.int (nI i))], [.int ((nI i) + 2), .ref 3000, .int (xs (i + 1)), .ref 65], m1)) rfl ?_
  refine mz_arrS mz_ks19 (c' := (929, [some (.ref 3000), some (.ref 0), some (.ref 65), some (.int (nI i))], [.int (m1 3000 (((nI i) + 2).toNatClampNeg)), .int (xs (i + 1)), .ref 65], m1)) rfl (show mz_in ((nI i) + 2) (m1 3001 0).toNatClampNeg = true from by rw [e1.2]; exact sm_inN (sm_addN rfl rfl) (show (i + 2) < L by omega) (by omega)) ?_
  rw [show ((nI i) + 2 : Int32).toNatClampNeg = (i + 2) from sm_clN (sm_addN rfl rfl) (show (i + 2) < 2 ^ 31 by omega)]
  rw [show m1 3000 (i + 2) = xs (i + 2) from e1.1 _]
  refine mz_doS mz_ks19 (R := mz_r191) (as := [.ref 65, .int (xs (i + 1)), .int (xs (i + 2))]) (rest := []) (r1 := some (.int v2)) (m1 := m2) rfl h2 ?_
  refine mz_goS mz_ks19 4 (c' := (18, [some (.ref 3000), some (.ref 0), some (.ref 65), some (.int ((nI i) + 6))], [], m2)) rfl ?_
  exact hr
set_option maxHeartbeats 4000000 in
set_option maxRecDepth 100000 in
theorem lwc_share {xs : Nat → Int32} {L i j : Nat} (hL : L ≤ 384) (hi : i + 6 ≤ L) {m : mz_M} (hj : j < 64) (hI : sm_I j m) (e : (∀ k, m 3000 k = xs k) ∧ (m 3001 0).toNatClampNeg = L) (h : xs i &&& 63 = 20) : ∃ m2, sm_I (j + 1) m2 ∧ ((∀ k, m2 3000 k = xs k) ∧ (m2 3001 0).toNatClampNeg = L) ∧ ∀ r, mz_Ex 101 mz_kL (18, [some (.ref 3000), some (.ref 0), some (.ref 65), some (.int ((nI i) + 6))], [], m2) r → mz_Ex 101 mz_kL (18, [some (.ref 3000), some (.ref 0), some (.ref 65), some (.int (nI i))], [], m) r := by
  obtain ⟨v1, v2, m1, m2, h1, h2, h3⟩ := sc_share hj hI (xs (i + 1))
  have e1 := lw_eL h1 e
  have e2 := lw_eL h2 e1
  refine ⟨m2, h3, e2, fun r hr => ?_⟩
  refine mz_goS mz_ks20 3 (c' := (21, [some (.ref 3000), some (.ref 0), some (.ref 65), some (.int (nI i))], [.int (Int32.ofNat (m 3001 0).toNatClampNeg), .int (nI i)], m)) rfl ?_
  rw [show Int32.ofNat (m 3001 0).toNatClampNeg = nI L from by rw [e.2]; rfl]
  refine mz_goS mz_ks20 3 (c' := (if ((nI L) - 6) < (nI i) then 1588 else 27, [some (.ref 3000), some (.ref 0), some (.ref 65), some (.int (nI i))], [], m)) rfl ?_
  refine mz_ifF (show ¬ (((nI L) - 6) < (nI i)) from (sm_law hL (by omega) (by omega))) ?_
  refine mz_goS mz_ks20 2 (c' := (29, [some (.ref 3000), some (.ref 0), some (.ref 65), some (.int (nI i))], [.int (nI i), .ref 3000], m)) rfl ?_
  refine mz_arrS mz_ks20 (c' := (30, [some (.ref 3000), some (.ref 0), some (.ref 65), some (.int (nI i))], [.int (m 3000 ((nI i).toNatClampNeg))], m)) rfl (show mz_in (nI i) (m 3001 0).toNatClampNeg = true from by rw [e.2]; exact sm_inN rfl (show i < L by omega) (by omega)) ?_
  rw [show (nI i : Int32).toNatClampNeg = i from sm_clN rfl (show i < 2 ^ 31 by omega)]
  rw [show m 3000 i = xs i from e.1 _]
  refine mz_goS mz_ks20 2 (c' := (33, [some (.ref 3000), some (.ref 0), some (.ref 65), some (.int (nI i))], [.int ((xs i) &&& 63)], m)) rfl ?_
  rw [h]
  refine mz_goS mz_ks20 6 (c' := (941, [some (.ref 3000), some (.ref 0), some (.ref 65), some (.int (nI i))], [.int ((nI i) + 1), .ref 3000, .ref 0], m)) rfl ?_
  refine mz_arrS mz_ks20 (c' := (942, [some (.ref 3000), some (.ref 0), some (.ref 65), some (.int (nI i))], [.int (m 3000 (((nI i) + 1).toNatClampNeg)), .ref 0], m)) rfl (show mz_in ((nI i) + 1) (m 3001 0).toNatClampNeg = true from by rw [e.2]; exact sm_inN (sm_addN rfl rfl) (show (i + 1) < L by omega) (by omega)) ?_
  rw [show ((nI i) + 1 : Int32).toNatClampNeg = (i + 1) from sm_clN (sm_addN rfl rfl) (show (i + 1) < 2 ^ 31 by omega)]
  rw [show m 3000 (i + 1) = xs (i + 1) from e.1 _]
  refine mz_doS mz_ks20 (R := mz_r87) (as := [.ref 0, .int (xs (i + 1))]) (rest := []) (r1 := some (.int v1)) (m1 := m1) rfl h1 ?_
  refine mz_goS mz_ks20 6 (c' := (951, [some (.ref 3000), some (.ref 0), some (.ref 65), some (.int (nI i))], [.int ((nI i) + 1), .ref 3000, .ref 65], m1)) rfl ?_
  refine mz_arrS mz_ks20 (c' := (952, [some (.ref 3000), some (.ref 0), some (.ref 65), some (.int (nI i))], [.int (m1 3000 (((nI i) + 1).toNatClampNeg)), .ref 65], m1)) rfl (show mz_in ((nI i) + 1) (m1 3001 0).toNatClampNeg = true from by rw [e1.2]; exact sm_inN (sm_addN rfl rfl) (show (i + 1) < L by omega) (by omega)) ?_
  rw [show ((nI i) + 1 : Int32).toNatClampNeg = (i + 1) from sm_clN (sm_addN rfl rfl) (show (i + 1) < 2 ^ 31 by omega)]
  rw [show m1 3000 (i + 1) = xs (i + 1) from e1.1 _]
  refine mz_doS mz_ks20 (R := mz_r194) (as := [.ref 65, .int (xs (i + 1))]) (rest := []) (r1 := some (.int v2)) (m1 := m2) rfl h2 ?_
  refine mz_goS mz_ks20 4 (c' := (18, [some (.ref 3000), some (.ref 0), some (.ref 65), some (.int ((nI i) + 6))], [], m2)) rfl ?_
  exact hr
set_option maxHeartbeats 4000000 in
set_option maxRecDepth 100000 in
theorem lwc_edge {xs : Nat → Int32} {L i j : Nat} (hL : L ≤ 384) (hi : i + 6 ≤ L) {m : mz_M} (hj : j < 64) (hI : sm_I j m) (e : (∀ k, m 3000 k = xs k) ∧ (m 3001 0).toNatClampNeg = L) (h : xs i &&& 63 = 21) : ∃ m2, sm_I (j + 1) m2 ∧ ((∀ k, m2 3000 k = xs k) ∧ (m2 3001 0).toNatClampNeg = L) ∧ ∀ r, mz_Ex 101 mz_kL (18, [some (.ref 3000), some (.ref 0), some (.ref 65), some (.int ((nI i) + 6))], [], m2) r → mz_Ex 101 mz_kL (18, [some (.ref 3000), some (.ref 0), some (.ref 65), some (.int (nI i))], [], m) r := by
  obtain ⟨v1, v2, m1, m2, h1, h2, h3⟩ := sc_edge hj hI (xs (i + 1)) (xs (i + 2))
  have e1 := lw_eL h1 e
  have e2 := lw_eL h2 e1
  refine ⟨m2, h3, e2, fun r hr => ?_⟩
  refine mz_goS mz_ks21 3 (c' := (21, [some (.ref 3000), some (.ref 0), some (.ref 65), some (.int (nI i))], [.int (Int32.ofNat (m 3001 0).toNatClampNeg), .int (nI i)], m)) rfl ?_
  rw [show Int32.ofNat (m 3001 0).toNatClampNeg = nI L from by rw [e.2]; rfl]
  refine mz_goS mz_ks21 3 (c' := (if ((nI L) - 6) < (nI i) then 1588 else 27, [some (.ref 3000), some (.ref 0), some (.ref 65), some (.int (nI i))], [], m)) rfl ?_
  refine mz_ifF (show ¬ (((nI L) - 6) < (nI i)) from (sm_law hL (by omega) (by omega))) ?_
  refine mz_goS mz_ks21 2 (c' := (29, [some (.ref 3000), some (.ref 0), some (.ref 65), some (.int (nI i))], [.int (nI i), .ref 3000], m)) rfl ?_
  refine mz_arrS mz_ks21 (c' := (30, [some (.ref 3000), some (.ref 0), some (.ref 65), some (.int (nI i))], [.int (m 3000 ((nI i).toNatClampNeg))], m)) rfl (show mz_in (nI i) (m 3001 0).toNatClampNeg = true from by rw [e.2]; exact sm_inN rfl (show i < L by omega) (by omega)) ?_
  rw [show (nI i : Int32).toNatClampNeg = i from sm_clN rfl (show i < 2 ^ 31 by omega)]
  rw [show m 3000 i = xs i from e.1 _]
  refine mz_goS mz_ks21 2 (c' := (33, [some (.ref 3000), some (.ref 0), some (.ref 65), some (.int (nI i))], [.int ((xs i) &&& 63)], m)) rfl ?_
  rw [h]
  refine mz_goS mz_ks21 6 (c' := (964, [some (.ref 3000), some (.ref 0), some (.ref 65), some (.int (nI i))], [.int ((nI i) + 1), .ref 3000, .ref 0], m)) rfl ?_
  refine mz_arrS mz_ks21 (c' := (965, [some (.ref 3000), some (.ref 0), some (.ref 65), some (.int (nI i))], [.int (m 3000 (((nI i) + 1).toNatClampNeg)), .ref 0], m)) rfl (show mz_in ((nI i) + 1) (m 3001 0).toNatClampNeg = true from by rw [e.2]; exact sm_inN (sm_addN rfl rfl) (show (i + 1) < L by omega) (by omega)) ?_
  rw [show ((nI i) + 1 : Int32).toNatClampNeg = (i + 1) from sm_clN (sm_addN rfl rfl) (show (i + 1) < 2 ^ 31 by omega)]
  rw [show m 3000 (i + 1) = xs (i + 1) from e.1 _]
  refine mz_goS mz_ks21 4 (c' := (969, [some (.ref 3000), some (.ref 0), some (.ref 65), some (.int (nI i))], [.int ((nI i) + 2), .ref 3000, .int (xs (i + 1)), .ref 0], m)) rfl ?_
  refine mz_arrS mz_ks21 (c' := (970, [some (.ref 3000), some (.ref 0), some (.ref 65), some (.int (nI i))], [.int (m 3000 (((nI i) + 2).toNatClampNeg)), .int (xs (i + 1)), .ref 0], m)) rfl (show mz_in ((nI i) + 2) (m 3001 0).toNatClampNeg = true from by rw [e.2]; exact sm_inN (sm_addN rfl rfl) (show (i + 2) < L by omega) (by omega)) ?_
  rw [show ((nI i) + 2 : Int32).toNatClampNeg = (i + 2) from sm_clN (sm_addN rfl rfl) (show (i + 2) < 2 ^ 31 by omega)]
  rw [show m 3000 (i + 2) = xs (i + 2) from e.1 _]
  refine mz_doS mz_ks21 (R := mz_r88) (as := [.ref 0, .int (xs (i + 1)), .int (xs (i + 2))]) (rest := []) (r1 := some (.int v1)) (m1 := m1) rfl h1 ?_
  refine mz_goS mz_ks21 6 (c' := (979, [some (.ref 3000), some (.ref 0), some (.ref 65), some (.int (nI i))], [.int ((nI i) + 1), .ref 3000, .ref 65], m1)) rfl ?_
  refine mz_arrS mz_ks21 (c' := (980, [some (.ref 3000), some (.ref 0), some (.ref 65), some (.int (nI i))], [.int (m1 3000 (((nI i) + 1).toNatClampNeg)), .ref 65], m1)) rfl (show mz_in ((nI i) + 1) (m1 3001 0).toNatClampNeg = true from by rw [e1.2]; exact sm_inN (sm_addN rfl rfl) (show (i + 1) < L by omega) (by omega)) ?_
  rw [show ((nI i) + 1 : Int32).toNatClampNeg = (i + 1) from sm_clN (sm_addN rfl rfl) (show (i + 1) < 2 ^ 31 by omega)]
  rw [show m1 3000 (i + 1) = xs (i + 1) from e1.1 _]
  refine mz_goS mz_ks21 4 (c' := (984, [some (.ref 3000), some (.ref 0), some (.ref 65), some (.int (nI i))], [.int ((nI i) + 2), .ref 3000, .int (xs (i + 1)), .ref 65], m1)) rfl ?_
  refine mz_arrS mz_ks21 (c' := (985, [some (.ref 3000), some (.ref 0), some (.ref 65), some (.int (nI i))], [.int (m1 3000 (((nI i) + 2).toNatClampNeg)), .int (xs (i + 1)), .ref 65], m1)) rfl (show mz_in ((nI i) + 2) (m1 3001 0).toNatClampNeg = true from by rw [e1.2]; exact sm_inN (sm_addN rfl rfl) (show (i + 2) < L by omega) (by omega)) ?_
  rw [show ((nI i) + 2 : Int32).toNatClampNeg = (i + 2) from sm_clN (sm_addN rfl rfl) (show (i + 2) < 2 ^ 31 by omega)]
  rw [show m1 3000 (i + 2) = xs (i + 2) from e1.1 _]
  refine mz_doS mz_ks21 (R := mz_r197) (as := [.ref 65, .int (xs (i + 1)), .int (xs (i + 2))]) (rest := []) (r1 := some (.int v2)) (m1 := m2) rfl h2 ?_
  refine mz_goS mz_ks21 4 (c' := (18, [some (.ref 3000), some (.ref 0), some (.ref 65), some (.int ((nI i) + 6))], [], m2)) rfl ?_
  exact hr
set_option maxHeartbeats 4000000 in
set_option maxRecDepth 100000 in
theorem lwc_seen {xs : Nat → Int32} {L i j : Nat} (hL : L ≤ 384) (hi : i + 6 ≤ L) {m : mz_M} (hj : j < 64) (hI : sm_I j m) (e : (∀ k, m 3000 k = xs k) ∧ (m 3001 0).toNatClampNeg = L) (h : xs i &&& 63 = 22) : ∃ m2, sm_I (j + 1) m2 ∧ ((∀ k, m2 3000 k = xs k) ∧ (m2 3001 0).toNatClampNeg = L) ∧ ∀ r, mz_Ex 101 mz_kL (18, [some (.ref 3000), some (.ref 0), some (.ref 65), some (.int ((nI i) + 6))], [], m2) r → mz_Ex 101 mz_kL (18, [some (.ref 3000), some (.ref 0), some (.ref 65), some (.int (nI i))], [], m) r := by
  obtain ⟨v1, v2, m1, m2, h1, h2, h3⟩ := sc_seen hj hI (xs (i + 1))
  have e1 := lw_eL h1 e
  have e2 := lw_eL h2 e1
  refine ⟨m2, h3, e2, fun r hr => ?_⟩
  refine mz_goS mz_ks22 3 (c' := (21, [some (.ref 3000), some (.ref 0), some (.ref 65), some (.int (nI i))], [.int (Int32.ofNat (m 3001 0).toNatClampNeg), .int (nI i)], m)) rfl ?_
  rw [show Int32.ofNat (m 3001 0).toNatClampNeg = nI L from by rw [e.2]; rfl]
  refine mz_goS mz_ks22 3 (c' := (if ((nI L) - 6) < (nI i) then 1588 else 27, [some (.ref 3000), some (.ref 0), some (.ref 65), some (.int (nI i))], [], m)) rfl ?_
  refine mz_ifF (show ¬ (((nI L) - 6) < (nI i)) from (sm_law hL (by omega) (by omega))) ?_
  refine mz_goS mz_ks22 2 (c' := (29, [some (.ref 3000), some (.ref 0), some (.ref 65), some (.int (nI i))], [.int (nI i), .ref 3000], m)) rfl ?_
  refine mz_arrS mz_ks22 (c' := (30, [some (.ref 3000), some (.ref 0), some (.ref 65), some (.int (nI i))], [.int (m 3000 ((nI i).toNatClampNeg))], m)) rfl (show mz_in (nI i) (m 3001 0).toNatClampNeg = true from by rw [e.2]; exact sm_inN rfl (show i < L by omega) (by omega)) ?_
  rw [show (nI i : Int32).toNatClampNeg = i from sm_clN rfl (show i < 2 ^ 31 by omega)]
  rw [show m 3000 i = xs i from e.1 _]
  refine mz_goS mz_ks22 2 (c' := (33, [some (.ref 3000), some (.ref 0), some (.ref 65), some (.int (nI i))], [.int ((xs i) &&& 63)], m)) rfl ?_
  rw [h]
  refine mz_goS mz_ks22 6 (c' := (997, [some (.ref 3000), some (.ref 0), some (.ref 65), some (.int (nI i))], [.int ((nI i) + 1), .ref 3000, .ref 0], m)) rfl ?_
  refine mz_arrS mz_ks22 (c' := (998, [some (.ref 3000), some (.ref 0), some (.ref 65), some (.int (nI i))], [.int (m 3000 (((nI i) + 1).toNatClampNeg)), .ref 0], m)) rfl (show mz_in ((nI i) + 1) (m 3001 0).toNatClampNeg = true from by rw [e.2]; exact sm_inN (sm_addN rfl rfl) (show (i + 1) < L by omega) (by omega)) ?_
  rw [show ((nI i) + 1 : Int32).toNatClampNeg = (i + 1) from sm_clN (sm_addN rfl rfl) (show (i + 1) < 2 ^ 31 by omega)]
  rw [show m 3000 (i + 1) = xs (i + 1) from e.1 _]
  refine mz_doS mz_ks22 (R := mz_r89) (as := [.ref 0, .int (xs (i + 1))]) (rest := []) (r1 := some (.int v1)) (m1 := m1) rfl h1 ?_
  refine mz_goS mz_ks22 6 (c' := (1007, [some (.ref 3000), some (.ref 0), some (.ref 65), some (.int (nI i))], [.int ((nI i) + 1), .ref 3000, .ref 65], m1)) rfl ?_
  refine mz_arrS mz_ks22 (c' := (1008, [some (.ref 3000), some (.ref 0), some (.ref 65), some (.int (nI i))], [.int (m1 3000 (((nI i) + 1).toNatClampNeg)), .ref 65], m1)) rfl (show mz_in ((nI i) + 1) (m1 3001 0).toNatClampNeg = true from by rw [e1.2]; exact sm_inN (sm_addN rfl rfl) (show (i + 1) < L by omega) (by omega)) ?_
  rw [show ((nI i) + 1 : Int32).toNatClampNeg = (i + 1) from sm_clN (sm_addN rfl rfl) (show (i + 1) < 2 ^ 31 by omega)]
  rw [show m1 3000 (i + 1) = xs (i + 1) from e1.1 _]
  refine mz_doS mz_ks22 (R := mz_r199) (as := [.ref 65, .int (xs (i + 1))]) (rest := []) (r1 := some (.int v2)) (m1 := m2) rfl h2 ?_
  refine mz_goS mz_ks22 4 (c' := (18, [some (.ref 3000), some (.ref 0), some (.ref 65), some (.int ((nI i) + 6))], [], m2)) rfl ?_
  exact hr
set_option maxHeartbeats 4000000 in
set_option maxRecDepth 100000 in
theorem lwc_sure {xs : Nat → Int32} {L i j : Nat} (hL : L ≤ 384) (hi : i + 6 ≤ L) {m : mz_M} (hj : j < 64) (hI : sm_I j m) (e : (∀ k, m 3000 k = xs k) ∧ (m 3001 0).toNatClampNeg = L) (h : xs i &&& 63 = 23) : ∃ m2, sm_I (j + 1) m2 ∧ ((∀ k, m2 3000 k = xs k) ∧ (m2 3001 0).toNatClampNeg = L) ∧ ∀ r, mz_Ex 101 mz_kL (18, [some (.ref 3000), some (.ref 0), some (.ref 65), some (.int ((nI i) + 6))], [], m2) r → mz_Ex 101 mz_kL (18, [some (.ref 3000), some (.ref 0), some (.ref 65), some (.int (nI i))], [], m) r := by
  obtain ⟨v1, v2, m1, m2, h1, h2, h3⟩ := sc_sure hj hI (xs (i + 1)) (xs (i + 2)) (xs (i + 3))
  have e1 := lw_eL h1 e
  have e2 := lw_eL h2 e1
  refine ⟨m2, h3, e2, fun r hr => ?_⟩
  refine mz_goS mz_ks23 3 (c' := (21, [some (.ref 3000), some (.ref 0), some (.ref 65), some (.int (nI i))], [.int (Int32.ofNat (m 3001 0).toNatClampNeg), .int (nI i)], m)) rfl ?_
  rw [show Int32.ofNat (m 3001 0).toNatClampNeg = nI L from by rw [e.2]; rfl]
  refine mz_goS mz_ks23 3 (c' := (if ((nI L) - 6) < (nI i) then 1588 else 27, [some (.ref 3000), some (.ref 0), some (.ref 65), some (.int (nI i))], [], m)) rfl ?_
  refine mz_ifF (show ¬ (((nI L) - 6) < (nI i)) from (sm_law hL (by omega) (by omega))) ?_
  refine mz_goS mz_ks23 2 (c' := (29, [some (.ref 3000), some (.ref 0), some (.ref 65), some (.int (nI i))], [.int (nI i), .ref 3000], m)) rfl ?_
  refine mz_arrS mz_ks23 (c' := (30, [some (.ref 3000), some (.ref 0), some (.ref 65), some (.int (nI i))], [.int (m 3000 ((nI i).toNatClampNeg))], m)) rfl (show mz_in (nI i) (m 3001 0).toNatClampNeg = true from by rw [e.2]; exact sm_inN rfl (show i < L by omega) (by omega)) ?_
  rw [show (nI i : Int32).toNatClampNeg = i from sm_clN rfl (show i < 2 ^ 31 by omega)]
  rw [show m 3000 i = xs i from e.1 _]
  refine mz_goS mz_ks23 2 (c' := (33, [some (.ref 3000), some (.ref 0), some (.ref 65), some (.int (nI i))], [.int ((xs i) &&& 63)], m)) rfl ?_
  rw [h]
  refine mz_goS mz_ks23 6 (c' := (1020, [some (.ref 3000), some (.ref 0), some (.ref 65), some (.int (nI i))], [.int ((nI i) + 1), .ref 3000, .ref 0], m)) rfl ?_
  refine mz_arrS mz_ks23 (c' := (1021, [some (.ref 3000), some (.ref 0), some (.ref 65), some (.int (nI i))], [.int (m 3000 (((nI i) + 1).toNatClampNeg)), .ref 0], m)) rfl (show mz_in ((nI i) + 1) (m 3001 0).toNatClampNeg = true from by rw [e.2]; exact sm_inN (sm_addN rfl rfl) (show (i + 1) < L by omega) (by omega)) ?_
  rw [show ((nI i) + 1 : Int32).toNatClampNeg = (i + 1) from sm_clN (sm_addN rfl rfl) (show (i + 1) < 2 ^ 31 by omega)]
  rw [show m 3000 (i + 1) = xs (i + 1) from e.1 _]
  refine mz_goS mz_ks23 4 (c' := (1025, [some (.ref 3000), some (.ref 0), some (.ref 65), some (.int (nI i))], [.int ((nI i) + 2), .ref 3000, .int (xs (i + 1)), .ref 0], m)) rfl ?_
  refine mz_arrS mz_ks23 (c' := (1026, [some (.ref 3000), some (.ref 0), some (.ref 65), some (.int (nI i))], [.int (m 3000 (((nI i) + 2).toNatClampNeg)), .int (xs (i + 1)), .ref 0], m)) rfl (show mz_in ((nI i) + 2) (m 3001 0).toNatClampNeg = true from by rw [e.2]; exact sm_inN (sm_addN rfl rfl) (show (i + 2) < L by omega) (by omega)) ?_
  rw [show ((nI i) + 2 : Int32).toNatClampNeg = (i + 2) from sm_clN (sm_addN rfl rfl) (show (i + 2) < 2 ^ 31 by omega)]
  rw [show m 3000 (i + 2) = xs (i + 2) from e.1 _]
  refine mz_goS mz_ks23 4 (c' := (1030, [some (.ref 3000), some (.ref 0), some (.ref 65), some (.int (nI i))], [.int ((nI i) + 3), .ref 3000, .int (xs (i + 2)), .int (xs (i + 1)), .ref 0], m)) rfl ?_
  refine mz_arrS mz_ks23 (c' := (1031, [some (.ref 3000), some (.ref 0), some (.ref 65), some (.int (nI i))], [.int (m 3000 (((nI i) + 3).toNatClampNeg)), .int (xs (i + 2)), .int (xs (i + 1)), .ref 0], m)) rfl (show mz_in ((nI i) + 3) (m 3001 0).toNatClampNeg = true from by rw [e.2]; exact sm_inN (sm_addN rfl rfl) (show (i + 3) < L by omega) (by omega)) ?_
  rw [show ((nI i) + 3 : Int32).toNatClampNeg = (i + 3) from sm_clN (sm_addN rfl rfl) (show (i + 3) < 2 ^ 31 by omega)]
  rw [show m 3000 (i + 3) = xs (i + 3) from e.1 _]
  refine mz_doS mz_ks23 (R := mz_r90) (as := [.ref 0, .int (xs (i + 1)), .int (xs (i + 2)), .int (xs (i + 3))]) (rest := []) (r1 := some (.int v1)) (m1 := m1) rfl h1 ?_
  refine mz_goS mz_ks23 6 (c' := (1040, [some (.ref 3000), some (.ref 0), some (.ref 65), some (.int (nI i))], [.int ((nI i) + 1), .ref 3000, .ref 65], m1)) rfl ?_
  refine mz_arrS mz_ks23 (c' := (1041, [some (.ref 3000), some (.ref 0), some (.ref 65), some (.int (nI i))], [.int (m1 3000 (((nI i) + 1).toNatClampNeg)), .ref 65], m1)) rfl (show mz_in ((nI i) + 1) (m1 3001 0).toNatClampNeg = true from by rw [e1.2]; exact sm_inN (sm_addN rfl rfl) (show (i + 1) < L by omega) (by omega)) ?_
  rw [show ((nI i) + 1 : Int32).toNatClampNeg = (i + 1) from sm_clN (sm_addN rfl rfl) (show (i + 1) < 2 ^ 31 by omega)]
  rw [show m1 3000 (i + 1) = xs (i + 1) from e1.1 _]
  refine mz_goS mz_ks23 4 (c' := (1045, [some (.ref 3000), some (.ref 0), some (.ref 65), some (.int (nI i))], [.int ((nI i) + 2), .ref 3000, .int (xs (i + 1)), .ref 65], m1)) rfl ?_
  refine mz_arrS mz_ks23 (c' := (1046, [some (.ref 3000), some (.ref 0), some (.ref 65), some (.int (nI i))], [.int (m1 3000 (((nI i) + 2).toNatClampNeg)), .int (xs (i + 1)), .ref 65], m1)) rfl (show mz_in ((nI i) + 2) (m1 3001 0).toNatClampNeg = true from by rw [e1.2]; exact sm_inN (sm_addN rfl rfl) (show (i + 2) < L by omega) (by omega)) ?_
  rw [show ((nI i) + 2 : Int32).toNatClampNeg = (i + 2) from sm_clN (sm_addN rfl rfl) (show (i + 2) < 2 ^ 31 by omega)]
  rw [show m1 3000 (i + 2) = xs (i + 2) from e1.1 _]
  refine mz_goS mz_ks23 4 (c' := (1050, [some (.ref 3000), some (.ref 0), some (.ref 65), some (.int (nI i))], [.int ((nI i) + 3), .ref 3000, .int (xs (i + 2)), .int (xs (i + 1)), .ref 65], m1)) rfl ?_
  refine mz_arrS mz_ks23 (c' := (1051, [some (.ref 3000), some (.ref 0), some (.ref 65), some (.int (nI i))], [.int (m1 3000 (((nI i) + 3).toNatClampNeg)), .int (xs (i + 2)), .int (xs (i + 1)), .ref 65], m1)) rfl (show mz_in ((nI i) + 3) (m1 3001 0).toNatClampNeg = true from by rw [e1.2]; exact sm_inN (sm_addN rfl rfl) (show (i + 3) < L by omega) (by omega)) ?_
  rw [show ((nI i) + 3 : Int32).toNatClampNeg = (i + 3) from sm_clN (sm_addN rfl rfl) (show (i + 3) < 2 ^ 31 by omega)]
  rw [show m1 3000 (i + 3) = xs (i + 3) from e1.1 _]
  refine mz_doS mz_ks23 (R := mz_r200) (as := [.ref 65, .int (xs (i + 1)), .int (xs (i + 2)), .int (xs (i + 3))]) (rest := []) (r1 := some (.int v2)) (m1 := m2) rfl h2 ?_
  refine mz_goS mz_ks23 4 (c' := (18, [some (.ref 3000), some (.ref 0), some (.ref 65), some (.int ((nI i) + 6))], [], m2)) rfl ?_
  exact hr
set_option maxHeartbeats 4000000 in
set_option maxRecDepth 100000 in
theorem lwc_turned {xs : Nat → Int32} {L i j : Nat} (hL : L ≤ 384) (hi : i + 6 ≤ L) {m : mz_M} (hj : j < 64) (hI : sm_I j m) (e : (∀ k, m 3000 k = xs k) ∧ (m 3001 0).toNatClampNeg = L) (h : xs i &&& 63 = 24) : ∃ m2, sm_I (j + 1) m2 ∧ ((∀ k, m2 3000 k = xs k) ∧ (m2 3001 0).toNatClampNeg = L) ∧ ∀ r, mz_Ex 101 mz_kL (18, [some (.ref 3000), some (.ref 0), some (.ref 65), some (.int ((nI i) + 6))], [], m2) r → mz_Ex 101 mz_kL (18, [some (.ref 3000), some (.ref 0), some (.ref 65), some (.int (nI i))], [], m) r := by
  obtain ⟨v1, v2, m1, m2, h1, h2, h3⟩ := sc_turned hj hI (xs (i + 1))
  have e1 := lw_eL h1 e
  have e2 := lw_eL h2 e1
  refine ⟨m2, h3, e2, fun r hr => ?_⟩
  refine mz_goS mz_ks24 3 (c' := (21, [some (.ref 3000), some (.ref 0), some (.ref 65), some (.int (nI i))], [.int (Int32.ofNat (m 3001 0).toNatClampNeg), .int (nI i)], m)) rfl ?_
  rw [show Int32.ofNat (m 3001 0).toNatClampNeg = nI L from by rw [e.2]; rfl]
  refine mz_goS mz_ks24 3 (c' := (if ((nI L) - 6) < (nI i) then 1588 else 27, [some (.ref 3000), some (.ref 0), some (.ref 65), some (.int (nI i))], [], m)) rfl ?_
  refine mz_ifF (show ¬ (((nI L) - 6) < (nI i)) from (sm_law hL (by omega) (by omega))) ?_
  refine mz_goS mz_ks24 2 (c' := (29, [some (.ref 3000), some (.ref 0), some (.ref 65), some (.int (nI i))], [.int (nI i), .ref 3000], m)) rfl ?_
  refine mz_arrS mz_ks24 (c' := (30, [some (.ref 3000), some (.ref 0), some (.ref 65), some (.int (nI i))], [.int (m 3000 ((nI i).toNatClampNeg))], m)) rfl (show mz_in (nI i) (m 3001 0).toNatClampNeg = true from by rw [e.2]; exact sm_inN rfl (show i < L by omega) (by omega)) ?_
  rw [show (nI i : Int32).toNatClampNeg = i from sm_clN rfl (show i < 2 ^ 31 by omega)]
  rw [show m 3000 i = xs i from e.1 _]
  refine mz_goS mz_ks24 2 (c' := (33, [some (.ref 3000), some (.ref 0), some (.ref 65), some (.int (nI i))], [.int ((xs i) &&& 63)], m)) rfl ?_
  rw [h]
  refine mz_goS mz_ks24 6 (c' := (1063, [some (.ref 3000), some (.ref 0), some (.ref 65), some (.int (nI i))], [.int ((nI i) + 1), .ref 3000, .ref 0], m)) rfl ?_
  refine mz_arrS mz_ks24 (c' := (1064, [some (.ref 3000), some (.ref 0), some (.ref 65), some (.int (nI i))], [.int (m 3000 (((nI i) + 1).toNatClampNeg)), .ref 0], m)) rfl (show mz_in ((nI i) + 1) (m 3001 0).toNatClampNeg = true from by rw [e.2]; exact sm_inN (sm_addN rfl rfl) (show (i + 1) < L by omega) (by omega)) ?_
  rw [show ((nI i) + 1 : Int32).toNatClampNeg = (i + 1) from sm_clN (sm_addN rfl rfl) (show (i + 1) < 2 ^ 31 by omega)]
  rw [show m 3000 (i + 1) = xs (i + 1) from e.1 _]
  refine mz_doS mz_ks24 (R := mz_r91) (as := [.ref 0, .int (xs (i + 1))]) (rest := []) (r1 := some (.int v1)) (m1 := m1) rfl h1 ?_
  refine mz_goS mz_ks24 6 (c' := (1073, [some (.ref 3000), some (.ref 0), some (.ref 65), some (.int (nI i))], [.int ((nI i) + 1), .ref 3000, .ref 65], m1)) rfl ?_
  refine mz_arrS mz_ks24 (c' := (1074, [some (.ref 3000), some (.ref 0), some (.ref 65), some (.int (nI i))], [.int (m1 3000 (((nI i) + 1).toNatClampNeg)), .ref 65], m1)) rfl (show mz_in ((nI i) + 1) (m1 3001 0).toNatClampNeg = true from by rw [e1.2]; exact sm_inN (sm_addN rfl rfl) (show (i + 1) < L by omega) (by omega)) ?_
  rw [show ((nI i) + 1 : Int32).toNatClampNeg = (i + 1) from sm_clN (sm_addN rfl rfl) (show (i + 1) < 2 ^ 31 by omega)]
  rw [show m1 3000 (i + 1) = xs (i + 1) from e1.1 _]
  refine mz_doS mz_ks24 (R := mz_r201) (as := [.ref 65, .int (xs (i + 1))]) (rest := []) (r1 := some (.int v2)) (m1 := m2) rfl h2 ?_
  refine mz_goS mz_ks24 4 (c' := (18, [some (.ref 3000), some (.ref 0), some (.ref 65), some (.int ((nI i) + 6))], [], m2)) rfl ?_
  exact hr
set_option maxHeartbeats 4000000 in
set_option maxRecDepth 100000 in
theorem lwc_fair {xs : Nat → Int32} {L i j : Nat} (hL : L ≤ 384) (hi : i + 6 ≤ L) {m : mz_M} (hj : j < 64) (hI : sm_I j m) (e : (∀ k, m 3000 k = xs k) ∧ (m 3001 0).toNatClampNeg = L) (h : xs i &&& 63 = 25) : ∃ m2, sm_I (j + 1) m2 ∧ ((∀ k, m2 3000 k = xs k) ∧ (m2 3001 0).toNatClampNeg = L) ∧ ∀ r, mz_Ex 101 mz_kL (18, [some (.ref 3000), some (.ref 0), some (.ref 65), some (.int ((nI i) + 6))], [], m2) r → mz_Ex 101 mz_kL (18, [some (.ref 3000), some (.ref 0), some (.ref 65), some (.int (nI i))], [], m) r := by
  obtain ⟨v1, v2, m1, m2, h1, h2, h3⟩ := sc_fair hj hI (xs (i + 1))
  have e1 := lw_eL h1 e
  have e2 := lw_eL h2 e1
  refine ⟨m2, h3, e2, fun r hr => ?_⟩
  refine mz_goS mz_ks25 3 (c' := (21, [some (.ref 3000), some (.ref 0), some (.ref 65), some (.int (nI i))], [.int (Int32.ofNat (m 3001 0).toNatClampNeg), .int (nI i)], m)) rfl ?_
  rw [show Int32.ofNat (m 3001 0).toNatClampNeg = nI L from by rw [e.2]; rfl]
  refine mz_goS mz_ks25 3 (c' := (if ((nI L) - 6) < (nI i) then 1588 else 27, [some (.ref 3000), some (.ref 0), some (.ref 65), some (.int (nI i))], [], m)) rfl ?_
  refine mz_ifF (show ¬ (((nI L) - 6) < (nI i)) from (sm_law hL (by omega) (by omega))) ?_
  refine mz_goS mz_ks25 2 (c' := (29, [some (.ref 3000), some (.ref 0), some (.ref 65), some (.int (nI i))], [.int (nI i), .ref 3000], m)) rfl ?_
  refine mz_arrS mz_ks25 (c' := (30, [some (.ref 3000), some (.ref 0), some (.ref 65), some (.int (nI i))], [.int (m 3000 ((nI i).toNatClampNeg))], m)) rfl (show mz_in (nI i) (m 3001 0).toNatClampNeg = true from by rw [e.2]; exact sm_inN rfl (show i < L by omega) (by omega)) ?_
  rw [show (nI i : Int32).toNatClampNeg = i from sm_clN rfl (show i < 2 ^ 31 by omega)]
  rw [show m 3000 i = xs i from e.1 _]
  refine mz_goS mz_ks25 2 (c' := (33, [some (.ref 3000), some (.ref 0), some (.ref 65), some (.int (nI i))], [.int ((xs i) &&& 63)], m)) rfl ?_
  rw [h]
  refine mz_goS mz_ks25 6 (c' := (1086, [some (.ref 3000), some (.ref 0), some (.ref 65), some (.int (nI i))], [.int ((nI i) + 1), .ref 3000, .ref 0], m)) rfl ?_
  refine mz_arrS mz_ks25 (c' := (1087, [some (.ref 3000), some (.ref 0), some (.ref 65), some (.int (nI i))], [.int (m 3000 (((nI i) + 1).toNatClampNeg)), .ref 0], m)) rfl (show mz_in ((nI i) + 1) (m 3001 0).toNatClampNeg = true from by rw [e.2]; exact sm_inN (sm_addN rfl rfl) (show (i + 1) < L by omega) (by omega)) ?_
  rw [show ((nI i) + 1 : Int32).toNatClampNeg = (i + 1) from sm_clN (sm_addN rfl rfl) (show (i + 1) < 2 ^ 31 by omega)]
  rw [show m 3000 (i + 1) = xs (i + 1) from e.1 _]
  refine mz_doS mz_ks25 (R := mz_r92) (as := [.ref 0, .int (xs (i + 1))]) (rest := []) (r1 := some (.int v1)) (m1 := m1) rfl h1 ?_
  refine mz_goS mz_ks25 6 (c' := (1096, [some (.ref 3000), some (.ref 0), some (.ref 65), some (.int (nI i))], [.int ((nI i) + 1), .ref 3000, .ref 65], m1)) rfl ?_
  refine mz_arrS mz_ks25 (c' := (1097, [some (.ref 3000), some (.ref 0), some (.ref 65), some (.int (nI i))], [.int (m1 3000 (((nI i) + 1).toNatClampNeg)), .ref 65], m1)) rfl (show mz_in ((nI i) + 1) (m1 3001 0).toNatClampNeg = true from by rw [e1.2]; exact sm_inN (sm_addN rfl rfl) (show (i + 1) < L by omega) (by omega)) ?_
  rw [show ((nI i) + 1 : Int32).toNatClampNeg = (i + 1) from sm_clN (sm_addN rfl rfl) (show (i + 1) < 2 ^ 31 by omega)]
  rw [show m1 3000 (i + 1) = xs (i + 1) from e1.1 _]
  refine mz_doS mz_ks25 (R := mz_r202) (as := [.ref 65, .int (xs (i + 1))]) (rest := []) (r1 := some (.int v2)) (m1 := m2) rfl h2 ?_
  refine mz_goS mz_ks25 4 (c' := (18, [some (.ref 3000), some (.ref 0), some (.ref 65), some (.int ((nI i) + 6))], [], m2)) rfl ?_
  exact hr
set_option maxHeartbeats 4000000 in
set_option maxRecDepth 100000 in
theorem lwc_want {xs : Nat → Int32} {L i j : Nat} (hL : L ≤ 384) (hi : i + 6 ≤ L) {m : mz_M} (hj : j < 64) (hI : sm_I j m) (e : (∀ k, m 3000 k = xs k) ∧ (m 3001 0).toNatClampNeg = L) (h : xs i &&& 63 = 26) : ∃ m2, sm_I (j + 1) m2 ∧ ((∀ k, m2 3000 k = xs k) ∧ (m2 3001 0).toNatClampNeg = L) ∧ ∀ r, mz_Ex 101 mz_kL (18, [some (.ref 3000), some (.ref 0), some (.ref 65), some (.int ((nI i) + 6))], [], m2) r → mz_Ex 101 mz_kL (18, [some (.ref 3000), some (.ref 0), some (.ref 65), some (.int (nI i))], [], m) r := by
  obtain ⟨v1, v2, m1, m2, h1, h2, h3⟩ := sc_want hj hI (xs (i + 1))
  have e1 := lw_eL h1 e
  have e2 := lw_eL h2 e1
  refine ⟨m2, h3, e2, fun r hr => ?_⟩
  refine mz_goS mz_ks26 3 (c' := (21, [some (.ref 3000), some (.ref 0), some (.ref 65), some (.int (nI i))], [.int (Int32.ofNat (m 3001 0).toNatClampNeg), .int (nI i)], m)) rfl ?_
  rw [show Int32.ofNat (m 3001 0).toNatClampNeg = nI L from by rw [e.2]; rfl]
  refine mz_goS mz_ks26 3 (c' := (if ((nI L) - 6) < (nI i) then 1588 else 27, [some (.ref 3000), some (.ref 0), some (.ref 65), some (.int (nI i))], [], m)) rfl ?_
  refine mz_ifF (show ¬ (((nI L) - 6) < (nI i)) from (sm_law hL (by omega) (by omega))) ?_
  refine mz_goS mz_ks26 2 (c' := (29, [some (.ref 3000), some (.ref 0), some (.ref 65), some (.int (nI i))], [.int (nI i), .ref 3000], m)) rfl ?_
  refine mz_arrS mz_ks26 (c' := (30, [some (.ref 3000), some (.ref 0), some (.ref 65), some (.int (nI i))], [.int (m 3000 ((nI i).toNatClampNeg))], m)) rfl (show mz_in (nI i) (m 3001 0).toNatClampNeg = true from by rw [e.2]; exact sm_inN rfl (show i < L by omega) (by omega)) ?_
  rw [show (nI i : Int32).toNatClampNeg = i from sm_clN rfl (show i < 2 ^ 31 by omega)]
  rw [show m 3000 i = xs i from e.1 _]
  refine mz_goS mz_ks26 2 (c' := (33, [some (.ref 3000), some (.ref 0), some (.ref 65), some (.int (nI i))], [.int ((xs i) &&& 63)], m)) rfl ?_
  rw [h]
  refine mz_goS mz_ks26 6 (c' := (1109, [some (.ref 3000), some (.ref 0), some (.ref 65), some (.int (nI i))], [.int ((nI i) + 1), .ref 3000, .ref 0], m)) rfl ?_
  refine mz_arrS mz_ks26 (c' := (1110, [some (.ref 3000), some (.ref 0), some (.ref 65), some (.int (nI i))], [.int (m 3000 (((nI i) + 1).toNatClampNeg)), .ref 0], m)) rfl (show mz_in ((nI i) + 1) (m 3001 0).toNatClampNeg = true from by rw [e.2]; exact sm_inN (sm_addN rfl rfl) (show (i + 1) < L by omega) (by omega)) ?_
  rw [show ((nI i) + 1 : Int32).toNatClampNeg = (i + 1) from sm_clN (sm_addN rfl rfl) (show (i + 1) < 2 ^ 31 by omega)]
  rw [show m 3000 (i + 1) = xs (i + 1) from e.1 _]
  refine mz_doS mz_ks26 (R := mz_r93) (as := [.ref 0, .int (xs (i + 1))]) (rest := []) (r1 := some (.int v1)) (m1 := m1) rfl h1 ?_
  refine mz_goS mz_ks26 6 (c' := (1119, [some (.ref 3000), some (.ref 0), some (.ref 65), some (.int (nI i))], [.int ((nI i) + 1), .ref 3000, .ref 65], m1)) rfl ?_
  refine mz_arrS mz_ks26 (c' := (1120, [some (.ref 3000), some (.ref 0), some (.ref 65), some (.int (nI i))], [.int (m1 3000 (((nI i) + 1).toNatClampNeg)), .ref 65], m1)) rfl (show mz_in ((nI i) + 1) (m1 3001 0).toNatClampNeg = true from by rw [e1.2]; exact sm_inN (sm_addN rfl rfl) (show (i + 1) < L by omega) (by omega)) ?_
  rw [show ((nI i) + 1 : Int32).toNatClampNeg = (i + 1) from sm_clN (sm_addN rfl rfl) (show (i + 1) < 2 ^ 31 by omega)]
  rw [show m1 3000 (i + 1) = xs (i + 1) from e1.1 _]
  refine mz_doS mz_ks26 (R := mz_r204) (as := [.ref 65, .int (xs (i + 1))]) (rest := []) (r1 := some (.int v2)) (m1 := m2) rfl h2 ?_
  refine mz_goS mz_ks26 4 (c' := (18, [some (.ref 3000), some (.ref 0), some (.ref 65), some (.int ((nI i) + 6))], [], m2)) rfl ?_
  exact hr
set_option maxHeartbeats 4000000 in
set_option maxRecDepth 100000 in
theorem lwc_throwsOf {xs : Nat → Int32} {L i j : Nat} (hL : L ≤ 384) (hi : i + 6 ≤ L) {m : mz_M} (hj : j < 64) (hI : sm_I j m) (e : (∀ k, m 3000 k = xs k) ∧ (m 3001 0).toNatClampNeg = L) (h : xs i &&& 63 = 27) : ∃ m2, sm_I (j + 1) m2 ∧ ((∀ k, m2 3000 k = xs k) ∧ (m2 3001 0).toNatClampNeg = L) ∧ ∀ r, mz_Ex 101 mz_kL (18, [some (.ref 3000), some (.ref 0), some (.ref 65), some (.int ((nI i) + 6))], [], m2) r → mz_Ex 101 mz_kL (18, [some (.ref 3000), some (.ref 0), some (.ref 65), some (.int (nI i))], [], m) r := by
  obtain ⟨v1, v2, m1, m2, h1, h2, h3⟩ := sc_throwsOf hj hI (xs (i + 1)) (xs (i + 2)) (xs (i + 3)) (xs (i + 4))
  have e1 := lw_eL h1 e
  have e2 := lw_eL h2 e1
  refine ⟨m2, h3, e2, fun r hr => ?_⟩
  refine mz_goS mz_ks27 3 (c' := (21, [some (.ref 3000), some (.ref 0), some (.ref 65), some (.int (nI i))], [.int (Int32.ofNat (m 3001 0).toNatClampNeg), .int (nI i)], m)) rfl ?_
  rw [show Int32.ofNat (m 3001 0).toNatClampNeg = nI L from by rw [e.2]; rfl]
  refine mz_goS mz_ks27 3 (c' := (if ((nI L) - 6) < (nI i) then 1588 else 27, [some (.ref 3000), some (.ref 0), some (.ref 65), some (.int (nI i))], [], m)) rfl ?_
  refine mz_ifF (show ¬ (((nI L) - 6) < (nI i)) from (sm_law hL (by omega) (by omega))) ?_
  refine mz_goS mz_ks27 2 (c' := (29, [some (.ref 3000), some (.ref 0), some (.ref 65), some (.int (nI i))], [.int (nI i), .ref 3000], m)) rfl ?_
  refine mz_arrS mz_ks27 (c' := (30, [some (.ref 3000), some (.ref 0), some (.ref 65), some (.int (nI i))], [.int (m 3000 ((nI i).toNatClampNeg))], m)) rfl (show mz_in (nI i) (m 3001 0).toNatClampNeg = true from by rw [e.2]; exact sm_inN rfl (show i < L by omega) (by omega)) ?_
  rw [show (nI i : Int32).toNatClampNeg = i from sm_clN rfl (show i < 2 ^ 31 by omega)]
  rw [show m 3000 i = xs i from e.1 _]
  refine mz_goS mz_ks27 2 (c' := (33, [some (.ref 3000), some (.ref 0), some (.ref 65), some (.int (nI i))], [.int ((xs i) &&& 63)], m)) rfl ?_
  rw [h]
  refine mz_goS mz_ks27 6 (c' := (1132, [some (.ref 3000), some (.ref 0), some (.ref 65), some (.int (nI i))], [.int ((nI i) + 1), .ref 3000, .ref 0], m)) rfl ?_
  refine mz_arrS mz_ks27 (c' := (1133, [some (.ref 3000), some (.ref 0), some (.ref 65), some (.int (nI i))], [.int (m 3000 (((nI i) + 1).toNatClampNeg)), .ref 0], m)) rfl (show mz_in ((nI i) + 1) (m 3001 0).toNatClampNeg = true from by rw [e.2]; exact sm_inN (sm_addN rfl rfl) (show (i + 1) < L by omega) (by omega)) ?_
  rw [show ((nI i) + 1 : Int32).toNatClampNeg = (i + 1) from sm_clN (sm_addN rfl rfl) (show (i + 1) < 2 ^ 31 by omega)]
  rw [show m 3000 (i + 1) = xs (i + 1) from e.1 _]
  refine mz_goS mz_ks27 4 (c' := (1137, [some (.ref 3000), some (.ref 0), some (.ref 65), some (.int (nI i))], [.int ((nI i) + 2), .ref 3000, .int (xs (i + 1)), .ref 0], m)) rfl ?_
  refine mz_arrS mz_ks27 (c' := (1138, [some (.ref 3000), some (.ref 0), some (.ref 65), some (.int (nI i))], [.int (m 3000 (((nI i) + 2).toNatClampNeg)), .int (xs (i + 1)), .ref 0], m)) rfl (show mz_in ((nI i) + 2) (m 3001 0).toNatClampNeg = true from by rw [e.2]; exact sm_inN (sm_addN rfl rfl) (show (i + 2) < L by omega) (by omega)) ?_
  rw [show ((nI i) + 2 : Int32).toNatClampNeg = (i + 2) from sm_clN (sm_addN rfl rfl) (show (i + 2) < 2 ^ 31 by omega)]
  rw [show m 3000 (i + 2) = xs (i + 2) from e.1 _]
  refine mz_goS mz_ks27 4 (c' := (1142, [some (.ref 3000), some (.ref 0), some (.ref 65), some (.int (nI i))], [.int ((nI i) + 3), .ref 3000, .int (xs (i + 2)), .int (xs (i + 1)), .ref 0], m)) rfl ?_
  refine mz_arrS mz_ks27 (c' := (1143, [some (.ref 3000), some (.ref 0), some (.ref 65), some (.int (nI i))], [.int (m 3000 (((nI i) + 3).toNatClampNeg)), .int (xs (i + 2)), .int (xs (i + 1)), .ref 0], m)) rfl (show mz_in ((nI i) + 3) (m 3001 0).toNatClampNeg = true from by rw [e.2]; exact sm_inN (sm_addN rfl rfl) (show (i + 3) < L by omega) (by omega)) ?_
  rw [show ((nI i) + 3 : Int32).toNatClampNeg = (i + 3) from sm_clN (sm_addN rfl rfl) (show (i + 3) < 2 ^ 31 by omega)]
  rw [show m 3000 (i + 3) = xs (i + 3) from e.1 _]
  refine mz_goS mz_ks27 4 (c' := (1147, [some (.ref 3000), some (.ref 0), some (.ref 65), some (.int (nI i))], [.int ((nI i) + 4), .ref 3000, .int (xs (i + 3)), .int (xs (i + 2)), .int (xs (i + 1)), .ref 0], m)) rfl ?_
  refine mz_arrS mz_ks27 (c' := (1148, [some (.ref 3000), some (.ref 0), some (.ref 65), some (.int (nI i))], [.int (m 3000 (((nI i) + 4).toNatClampNeg)), .int (xs (i + 3)), .int (xs (i + 2)), .int (xs (i + 1)), .ref 0], m)) rfl (show mz_in ((nI i) + 4) (m 3001 0).toNatClampNeg = true from by rw [e.2]; exact sm_inN (sm_addN rfl rfl) (show (i + 4) < L by omega) (by omega)) ?_
  rw [show ((nI i) + 4 : Int32).toNatClampNeg = (i + 4) from sm_clN (sm_addN rfl rfl) (show (i + 4) < 2 ^ 31 by omega)]
  rw [show m 3000 (i + 4) = xs (i + 4) from e.1 _]
  refine mz_doS mz_ks27 (R := mz_r94) (as := [.ref 0, .int (xs (i + 1)), .int (xs (i + 2)), .int (xs (i + 3)), .int (xs (i + 4))]) (rest := []) (r1 := some (.int v1)) (m1 := m1) rfl h1 ?_
  refine mz_goS mz_ks27 6 (c' := (1157, [some (.ref 3000), some (.ref 0), some (.ref 65), some (.int (nI i))], [.int ((nI i) + 1), .ref 3000, .ref 65], m1)) rfl ?_
  refine mz_arrS mz_ks27 (c' := (1158, [some (.ref 3000), some (.ref 0), some (.ref 65), some (.int (nI i))], [.int (m1 3000 (((nI i) + 1).toNatClampNeg)), .ref 65], m1)) rfl (show mz_in ((nI i) + 1) (m1 3001 0).toNatClampNeg = true from by rw [e1.2]; exact sm_inN (sm_addN rfl rfl) (show (i + 1) < L by omega) (by omega)) ?_
  rw [show ((nI i) + 1 : Int32).toNatClampNeg = (i + 1) from sm_clN (sm_addN rfl rfl) (show (i + 1) < 2 ^ 31 by omega)]
  rw [show m1 3000 (i + 1) = xs (i + 1) from e1.1 _]
  refine mz_goS mz_ks27 4 (c' := (1162, [some (.ref 3000), some (.ref 0), some (.ref 65), some (.int (nI i))], [.int ((nI i) + 2), .ref 3000, .int (xs (i + 1)), .ref 65], m1)) rfl ?_
  refine mz_arrS mz_ks27 (c' := (1163, [some (.ref 3000), some (.ref 0), some (.ref 65), some (.int (nI i))], [.int (m1 3000 (((nI i) + 2).toNatClampNeg)), .int (xs (i + 1)), .ref 65], m1)) rfl (show mz_in ((nI i) + 2) (m1 3001 0).toNatClampNeg = true from by rw [e1.2]; exact sm_inN (sm_addN rfl rfl) (show (i + 2) < L by omega) (by omega)) ?_
  rw [show ((nI i) + 2 : Int32).toNatClampNeg = (i + 2) from sm_clN (sm_addN rfl rfl) (show (i + 2) < 2 ^ 31 by omega)]
  rw [show m1 3000 (i + 2) = xs (i + 2) from e1.1 _]
  refine mz_goS mz_ks27 4 (c' := (1167, [some (.ref 3000), some (.ref 0), some (.ref 65), some (.int (nI i))], [.int ((nI i) + 3), .ref 3000, .int (xs (i + 2)), .int (xs (i + 1)), .ref 65], m1)) rfl ?_
  refine mz_arrS mz_ks27 (c' := (1168, [some (.ref 3000), some (.ref 0), some (.ref 65), some (.int (nI i))], [.int (m1 3000 (((nI i) + 3).toNatClampNeg)), .int (xs (i + 2)), .int (xs (i + 1)), .ref 65], m1)) rfl (show mz_in ((nI i) + 3) (m1 3001 0).toNatClampNeg = true from by rw [e1.2]; exact sm_inN (sm_addN rfl rfl) (show (i + 3) < L by omega) (by omega)) ?_
  rw [show ((nI i) + 3 : Int32).toNatClampNeg = (i + 3) from sm_clN (sm_addN rfl rfl) (show (i + 3) < 2 ^ 31 by omega)]
  rw [show m1 3000 (i + 3) = xs (i + 3) from e1.1 _]
  refine mz_goS mz_ks27 4 (c' := (1172, [some (.ref 3000), some (.ref 0), some (.ref 65), some (.int (nI i))], [.int ((nI i) + 4), .ref 3000, .int (xs (i + 3)), .int (xs (i + 2)), .int (xs (i + 1)), .ref 65], m1)) rfl ?_
  refine mz_arrS mz_ks27 (c' := (1173, [some (.ref 3000), some (.ref 0), some (.ref 65), some (.int (nI i))], [.int (m1 3000 (((nI i) + 4).toNatClampNeg)), .int (xs (i + 3)), .int (xs (i + 2)), .int (xs (i + 1)), .ref 65], m1)) rfl (show mz_in ((nI i) + 4) (m1 3001 0).toNatClampNeg = true from by rw [e1.2]; exact sm_inN (sm_addN rfl rfl) (show (i + 4) < L by omega) (by omega)) ?_
  rw [show ((nI i) + 4 : Int32).toNatClampNeg = (i + 4) from sm_clN (sm_addN rfl rfl) (show (i + 4) < 2 ^ 31 by omega)]
  rw [show m1 3000 (i + 4) = xs (i + 4) from e1.1 _]
  refine mz_doS mz_ks27 (R := mz_r206) (as := [.ref 65, .int (xs (i + 1)), .int (xs (i + 2)), .int (xs (i + 3)), .int (xs (i + 4))]) (rest := []) (r1 := some (.int v2)) (m1 := m2) rfl h2 ?_
  refine mz_goS mz_ks27 4 (c' := (18, [some (.ref 3000), some (.ref 0), some (.ref 65), some (.int ((nI i) + 6))], [], m2)) rfl ?_
  exact hr
set_option maxHeartbeats 4000000 in
set_option maxRecDepth 100000 in
theorem lwc_thrownAt {xs : Nat → Int32} {L i j : Nat} (hL : L ≤ 384) (hi : i + 6 ≤ L) {m : mz_M} (hj : j < 64) (hI : sm_I j m) (e : (∀ k, m 3000 k = xs k) ∧ (m 3001 0).toNatClampNeg = L) (h : xs i &&& 63 = 28) : ∃ m2, sm_I (j + 1) m2 ∧ ((∀ k, m2 3000 k = xs k) ∧ (m2 3001 0).toNatClampNeg = L) ∧ ∀ r, mz_Ex 101 mz_kL (18, [some (.ref 3000), some (.ref 0), some (.ref 65), some (.int ((nI i) + 6))], [], m2) r → mz_Ex 101 mz_kL (18, [some (.ref 3000), some (.ref 0), some (.ref 65), some (.int (nI i))], [], m) r := by
  obtain ⟨v1, v2, m1, m2, h1, h2, h3, hv⟩ := sc_thrownAt hj hI (xs (i + 1))
  have e1 := lw_eL h1 e
  have e2 := lw_eL h2 e1
  refine ⟨m2, h3, e2, fun r hr => ?_⟩
  refine mz_goS mz_ks28 3 (c' := (21, [some (.ref 3000), some (.ref 0), some (.ref 65), some (.int (nI i))], [.int (Int32.ofNat (m 3001 0).toNatClampNeg), .int (nI i)], m)) rfl ?_
  rw [show Int32.ofNat (m 3001 0).toNatClampNeg = nI L from by rw [e.2]; rfl]
  refine mz_goS mz_ks28 3 (c' := (if ((nI L) - 6) < (nI i) then 1588 else 27, [some (.ref 3000), some (.ref 0), some (.ref 65), some (.int (nI i))], [], m)) rfl ?_
  refine mz_ifF (show ¬ (((nI L) - 6) < (nI i)) from (sm_law hL (by omega) (by omega))) ?_
  refine mz_goS mz_ks28 2 (c' := (29, [some (.ref 3000), some (.ref 0), some (.ref 65), some (.int (nI i))], [.int (nI i), .ref 3000], m)) rfl ?_
  refine mz_arrS mz_ks28 (c' := (30, [some (.ref 3000), some (.ref 0), some (.ref 65), some (.int (nI i))], [.int (m 3000 ((nI i).toNatClampNeg))], m)) rfl (show mz_in (nI i) (m 3001 0).toNatClampNeg = true from by rw [e.2]; exact sm_inN rfl (show i < L by omega) (by omega)) ?_
  rw [show (nI i : Int32).toNatClampNeg = i from sm_clN rfl (show i < 2 ^ 31 by omega)]
  rw [show m 3000 i = xs i from e.1 _]
  refine mz_goS mz_ks28 2 (c' := (33, [some (.ref 3000), some (.ref 0), some (.ref 65), some (.int (nI i))], [.int ((xs i) &&& 63)], m)) rfl ?_
  rw [h]
  refine mz_goS mz_ks28 6 (c' := (1185, [some (.ref 3000), some (.ref 0), some (.ref 65), some (.int (nI i))], [.int ((nI i) + 1), .ref 3000, .ref 0], m)) rfl ?_
  refine mz_arrS mz_ks28 (c' := (1186, [some (.ref 3000), some (.ref 0), some (.ref 65), some (.int (nI i))], [.int (m 3000 (((nI i) + 1).toNatClampNeg)), .ref 0], m)) rfl (show mz_in ((nI i) + 1) (m 3001 0).toNatClampNeg = true from by rw [e.2]; exact sm_inN (sm_addN rfl rfl) (show (i + 1) < L by omega) (by omega)) ?_
  rw [show ((nI i) + 1 : Int32).toNatClampNeg = (i + 1) from sm_clN (sm_addN rfl rfl) (show (i + 1) < 2 ^ 31 by omega)]
  rw [show m 3000 (i + 1) = xs (i + 1) from e.1 _]
  refine mz_doS mz_ks28 (R := mz_r95) (as := [.ref 0, .int (xs (i + 1))]) (rest := []) (r1 := some (.int v1)) (m1 := m1) rfl h1 ?_
  refine mz_goS mz_ks28 6 (c' := (1195, [some (.ref 3000), some (.ref 0), some (.ref 65), some (.int (nI i))], [.int ((nI i) + 1), .ref 3000, .ref 65], m1)) rfl ?_
  refine mz_arrS mz_ks28 (c' := (1196, [some (.ref 3000), some (.ref 0), some (.ref 65), some (.int (nI i))], [.int (m1 3000 (((nI i) + 1).toNatClampNeg)), .ref 65], m1)) rfl (show mz_in ((nI i) + 1) (m1 3001 0).toNatClampNeg = true from by rw [e1.2]; exact sm_inN (sm_addN rfl rfl) (show (i + 1) < L by omega) (by omega)) ?_
  rw [show ((nI i) + 1 : Int32).toNatClampNeg = (i + 1) from sm_clN (sm_addN rfl rfl) (show (i + 1) < 2 ^ 31 by omega)]
  rw [show m1 3000 (i + 1) = xs (i + 1) from e1.1 _]
  refine mz_doS mz_ks28 (R := mz_r207) (as := [.ref 65, .int (xs (i + 1))]) (rest := []) (r1 := some (.int v2)) (m1 := m2) rfl h2 ?_
  refine mz_goS mz_ks28 4 (c' := (18, [some (.ref 3000), some (.ref 0), some (.ref 65), some (.int ((nI i) + 6))], [], m2)) rfl ?_
  exact hr
set_option maxHeartbeats 4000000 in
set_option maxRecDepth 100000 in
theorem lwc_seed {xs : Nat → Int32} {L i j : Nat} (hL : L ≤ 384) (hi : i + 6 ≤ L) {m : mz_M} (hj : j < 64) (hI : sm_I j m) (e : (∀ k, m 3000 k = xs k) ∧ (m 3001 0).toNatClampNeg = L) (h : xs i &&& 63 = 29) : ∃ m2, sm_I (j + 1) m2 ∧ ((∀ k, m2 3000 k = xs k) ∧ (m2 3001 0).toNatClampNeg = L) ∧ ∀ r, mz_Ex 101 mz_kL (18, [some (.ref 3000), some (.ref 0), some (.ref 65), some (.int ((nI i) + 6))], [], m2) r → mz_Ex 101 mz_kL (18, [some (.ref 3000), some (.ref 0), some (.ref 65), some (.int (nI i))], [], m) r := by
  obtain ⟨v1, v2, m1, m2, h1, h2, h3, hv⟩ := sc_seed hj hI (xs (i + 1))
  have e1 := lw_eL h1 e
  have e2 := lw_eL h2 e1
  refine ⟨m2, h3, e2, fun r hr => ?_⟩
  refine mz_goS mz_ks29 3 (c' := (21, [some (.ref 3000), some (.ref 0), some (.ref 65), some (.int (nI i))], [.int (Int32.ofNat (m 3001 0).toNatClampNeg), .int (nI i)], m)) rfl ?_
  rw [show Int32.ofNat (m 3001 0).toNatClampNeg = nI L from by rw [e.2]; rfl]
  refine mz_goS mz_ks29 3 (c' := (if ((nI L) - 6) < (nI i) then 1588 else 27, [some (.ref 3000), some (.ref 0), some (.ref 65), some (.int (nI i))], [], m)) rfl ?_
  refine mz_ifF (show ¬ (((nI L) - 6) < (nI i)) from (sm_law hL (by omega) (by omega))) ?_
  refine mz_goS mz_ks29 2 (c' := (29, [some (.ref 3000), some (.ref 0), some (.ref 65), some (.int (nI i))], [.int (nI i), .ref 3000], m)) rfl ?_
  refine mz_arrS mz_ks29 (c' := (30, [some (.ref 3000), some (.ref 0), some (.ref 65), some (.int (nI i))], [.int (m 3000 ((nI i).toNatClampNeg))], m)) rfl (show mz_in (nI i) (m 3001 0).toNatClampNeg = true from by rw [e.2]; exact sm_inN rfl (show i < L by omega) (by omega)) ?_
  rw [show (nI i : Int32).toNatClampNeg = i from sm_clN rfl (show i < 2 ^ 31 by omega)]
  rw [show m 3000 i = xs i from e.1 _]
  refine mz_goS mz_ks29 2 (c' := (33, [some (.ref 3000), some (.ref 0), some (.ref 65), some (.int (nI i))], [.int ((xs i) &&& 63)], m)) rfl ?_
  rw [h]
  refine mz_goS mz_ks29 6 (c' := (1208, [some (.ref 3000), some (.ref 0), some (.ref 65), some (.int (nI i))], [.int ((nI i) + 1), .ref 3000, .ref 0], m)) rfl ?_
  refine mz_arrS mz_ks29 (c' := (1209, [some (.ref 3000), some (.ref 0), some (.ref 65), some (.int (nI i))], [.int (m 3000 (((nI i) + 1).toNatClampNeg)), .ref 0], m)) rfl (show mz_in ((nI i) + 1) (m 3001 0).toNatClampNeg = true from by rw [e.2]; exact sm_inN (sm_addN rfl rfl) (show (i + 1) < L by omega) (by omega)) ?_
  rw [show ((nI i) + 1 : Int32).toNatClampNeg = (i + 1) from sm_clN (sm_addN rfl rfl) (show (i + 1) < 2 ^ 31 by omega)]
  rw [show m 3000 (i + 1) = xs (i + 1) from e.1 _]
  refine mz_doS mz_ks29 (R := mz_r96) (as := [.ref 0, .int (xs (i + 1))]) (rest := []) (r1 := some (.int v1)) (m1 := m1) rfl h1 ?_
  refine mz_goS mz_ks29 6 (c' := (1218, [some (.ref 3000), some (.ref 0), some (.ref 65), some (.int (nI i))], [.int ((nI i) + 1), .ref 3000, .ref 65], m1)) rfl ?_
  refine mz_arrS mz_ks29 (c' := (1219, [some (.ref 3000), some (.ref 0), some (.ref 65), some (.int (nI i))], [.int (m1 3000 (((nI i) + 1).toNatClampNeg)), .ref 65], m1)) rfl (show mz_in ((nI i) + 1) (m1 3001 0).toNatClampNeg = true from by rw [e1.2]; exact sm_inN (sm_addN rfl rfl) (show (i + 1) < L by omega) (by omega)) ?_
  rw [show ((nI i) + 1 : Int32).toNatClampNeg = (i + 1) from sm_clN (sm_addN rfl rfl) (show (i + 1) < 2 ^ 31 by omega)]
  rw [show m1 3000 (i + 1) = xs (i + 1) from e1.1 _]
  refine mz_doS mz_ks29 (R := mz_r208) (as := [.ref 65, .int (xs (i + 1))]) (rest := []) (r1 := some (.int v2)) (m1 := m2) rfl h2 ?_
  refine mz_goS mz_ks29 4 (c' := (18, [some (.ref 3000), some (.ref 0), some (.ref 65), some (.int ((nI i) + 6))], [], m2)) rfl ?_
  exact hr
set_option maxHeartbeats 4000000 in
set_option maxRecDepth 100000 in
theorem lwc_voice {xs : Nat → Int32} {L i j : Nat} (hL : L ≤ 384) (hi : i + 6 ≤ L) {m : mz_M} (hj : j < 64) (hI : sm_I j m) (e : (∀ k, m 3000 k = xs k) ∧ (m 3001 0).toNatClampNeg = L) (h : xs i &&& 63 = 30) : ∃ m2, sm_I (j + 1) m2 ∧ ((∀ k, m2 3000 k = xs k) ∧ (m2 3001 0).toNatClampNeg = L) ∧ ∀ r, mz_Ex 101 mz_kL (18, [some (.ref 3000), some (.ref 0), some (.ref 65), some (.int ((nI i) + 6))], [], m2) r → mz_Ex 101 mz_kL (18, [some (.ref 3000), some (.ref 0), some (.ref 65), some (.int (nI i))], [], m) r := by
  obtain ⟨v1, v2, m1, m2, h1, h2, h3⟩ := sc_voice hj hI (xs (i + 1)) (xs (i + 2)) (xs (i + 3))
  have e1 := lw_eL h1 e
  have e2 := lw_eL h2 e1
  refine ⟨m2, h3, e2, fun r hr => ?_⟩
  refine mz_goS mz_ks30 3 (c' := (21, [some (.ref 3000), some (.ref 0), some (.ref 65), some (.int (nI i))], [.int (Int32.ofNat (m 3001 0).toNatClampNeg), .int (nI i)], m)) rfl ?_
  rw [show Int32.ofNat (m 3001 0).toNatClampNeg = nI L from by rw [e.2]; rfl]
  refine mz_goS mz_ks30 3 (c' := (if ((nI L) - 6) < (nI i) then 1588 else 27, [some (.ref 3000), some (.ref 0), some (.ref 65), some (.int (nI i))], [], m)) rfl ?_
  refine mz_ifF (show ¬ (((nI L) - 6) < (nI i)) from (sm_law hL (by omega) (by omega))) ?_
  refine mz_goS mz_ks30 2 (c' := (29, [some (.ref 3000), some (.ref 0), some (.ref 65), some (.int (nI i))], [.int (nI i), .ref 3000], m)) rfl ?_
  refine mz_arrS mz_ks30 (c' := (30, [some (.ref 3000), some (.ref 0), some (.ref 65), some (.int (nI i))], [.int (m 3000 ((nI i).toNatClampNeg))], m)) rfl (show mz_in (nI i) (m 3001 0).toNatClampNeg = true from by rw [e.2]; exact sm_inN rfl (show i < L by omega) (by omega)) ?_
  rw [show (nI i : Int32).toNatClampNeg = i from sm_clN rfl (show i < 2 ^ 31 by omega)]
  rw [show m 3000 i = xs i from e.1 _]
  refine mz_goS mz_ks30 2 (c' := (33, [some (.ref 3000), some (.ref 0), some (.ref 65), some (.int (nI i))], [.int ((xs i) &&& 63)], m)) rfl ?_
  rw [h]
  refine mz_goS mz_ks30 6 (c' := (1231, [some (.ref 3000), some (.ref 0), some (.ref 65), some (.int (nI i))], [.int ((nI i) + 1), .ref 3000, .ref 0], m)) rfl ?_
  refine mz_arrS mz_ks30 (c' := (1232, [some (.ref 3000), some (.ref 0), some (.ref 65), some (.int (nI i))], [.int (m 3000 (((nI i) + 1).toNatClampNeg)), .ref 0], m)) rfl (show mz_in ((nI i) + 1) (m 3001 0).toNatClampNeg = true from by rw [e.2]; exact sm_inN (sm_addN rfl rfl) (show (i + 1) < L by omega) (by omega)) ?_
  rw [show ((nI i) + 1 : Int32).toNatClampNeg = (i + 1) from sm_clN (sm_addN rfl rfl) (show (i + 1) < 2 ^ 31 by omega)]
  rw [show m 3000 (i + 1) = xs (i + 1) from e.1 _]
  refine mz_goS mz_ks30 4 (c' := (1236, [some (.ref 3000), some (.ref 0), some (.ref 65), some (.int (nI i))], [.int ((nI i) + 2), .ref 3000, .int (xs (i + 1)), .ref 0], m)) rfl ?_
  refine mz_arrS mz_ks30 (c' := (1237, [some (.ref 3000), some (.ref 0), some (.ref 65), some (.int (nI i))], [.int (m 3000 (((nI i) + 2).toNatClampNeg)), .int (xs (i + 1)), .ref 0], m)) rfl (show mz_in ((nI i) + 2) (m 3001 0).toNatClampNeg = true from by rw [e.2]; exact sm_inN (sm_addN rfl rfl) (show (i + 2) < L by omega) (by omega)) ?_
  rw [show ((nI i) + 2 : Int32).toNatClampNeg = (i + 2) from sm_clN (sm_addN rfl rfl) (show (i + 2) < 2 ^ 31 by omega)]
  rw [show m 3000 (i + 2) = xs (i + 2) from e.1 _]
  refine mz_goS mz_ks30 4 (c' := (1241, [some (.ref 3000), some (.ref 0), some (.ref 65), some (.int (nI i))], [.int ((nI i) + 3), .ref 3000, .int (xs (i + 2)), .int (xs (i + 1)), .ref 0], m)) rfl ?_
  refine mz_arrS mz_ks30 (c' := (1242, [some (.ref 3000), some (.ref 0), some (.ref 65), some (.int (nI i))], [.int (m 3000 (((nI i) + 3).toNatClampNeg)), .int (xs (i + 2)), .int (xs (i + 1)), .ref 0], m)) rfl (show mz_in ((nI i) + 3) (m 3001 0).toNatClampNeg = true from by rw [e.2]; exact sm_inN (sm_addN rfl rfl) (show (i + 3) < L by omega) (by omega)) ?_
  rw [show ((nI i) + 3 : Int32).toNatClampNeg = (i + 3) from sm_clN (sm_addN rfl rfl) (show (i + 3) < 2 ^ 31 by omega)]
  rw [show m 3000 (i + 3) = xs (i + 3) from e.1 _]
  refine mz_doS mz_ks30 (R := mz_r97) (as := [.ref 0, .int (xs (i + 1)), .int (xs (i + 2)), .int (xs (i + 3))]) (rest := []) (r1 := some (.int v1)) (m1 := m1) rfl h1 ?_
  refine mz_goS mz_ks30 6 (c' := (1251, [some (.ref 3000), some (.ref 0), some (.ref 65), some (.int (nI i))], [.int ((nI i) + 1), .ref 3000, .ref 65], m1)) rfl ?_
  refine mz_arrS mz_ks30 (c' := (1252, [some (.ref 3000), some (.ref 0), some (.ref 65), some (.int (nI i))], [.int (m1 3000 (((nI i) + 1).toNatClampNeg)), .ref 65], m1)) rfl (show mz_in ((nI i) + 1) (m1 3001 0).toNatClampNeg = true from by rw [e1.2]; exact sm_inN (sm_addN rfl rfl) (show (i + 1) < L by omega) (by omega)) ?_
  rw [show ((nI i) + 1 : Int32).toNatClampNeg = (i + 1) from sm_clN (sm_addN rfl rfl) (show (i + 1) < 2 ^ 31 by omega)]
  rw [show m1 3000 (i + 1) = xs (i + 1) from e1.1 _]
  refine mz_goS mz_ks30 4 (c' := (1256, [some (.ref 3000), some (.ref 0), some (.ref 65), some (.int (nI i))], [.int ((nI i) + 2), .ref 3000, .int (xs (i + 1)), .ref 65], m1)) rfl ?_
  refine mz_arrS mz_ks30 (c' := (1257, [some (.ref 3000), some (.ref 0), some (.ref 65), some (.int (nI i))], [.int (m1 3000 (((nI i) + 2).toNatClampNeg)), .int (xs (i + 1)), .ref 65], m1)) rfl (show mz_in ((nI i) + 2) (m1 3001 0).toNatClampNeg = true from by rw [e1.2]; exact sm_inN (sm_addN rfl rfl) (show (i + 2) < L by omega) (by omega)) ?_
  rw [show ((nI i) + 2 : Int32).toNatClampNeg = (i + 2) from sm_clN (sm_addN rfl rfl) (show (i + 2) < 2 ^ 31 by omega)]
  rw [show m1 3000 (i + 2) = xs (i + 2) from e1.1 _]
  refine mz_goS mz_ks30 4 (c' := (1261, [some (.ref 3000), some (.ref 0), some (.ref 65), some (.int (nI i))], [.int ((nI i) + 3), .ref 3000, .int (xs (i + 2)), .int (xs (i + 1)), .ref 65], m1)) rfl ?_
  refine mz_arrS mz_ks30 (c' := (1262, [some (.ref 3000), some (.ref 0), some (.ref 65), some (.int (nI i))], [.int (m1 3000 (((nI i) + 3).toNatClampNeg)), .int (xs (i + 2)), .int (xs (i + 1)), .ref 65], m1)) rfl (show mz_in ((nI i) + 3) (m1 3001 0).toNatClampNeg = true from by rw [e1.2]; exact sm_inN (sm_addN rfl rfl) (show (i + 3) < L by omega) (by omega)) ?_
  rw [show ((nI i) + 3 : Int32).toNatClampNeg = (i + 3) from sm_clN (sm_addN rfl rfl) (show (i + 3) < 2 ^ 31 by omega)]
  rw [show m1 3000 (i + 3) = xs (i + 3) from e1.1 _]
  refine mz_doS mz_ks30 (R := mz_r217) (as := [.ref 65, .int (xs (i + 1)), .int (xs (i + 2)), .int (xs (i + 3))]) (rest := []) (r1 := some (.int v2)) (m1 := m2) rfl h2 ?_
  refine mz_goS mz_ks30 4 (c' := (18, [some (.ref 3000), some (.ref 0), some (.ref 65), some (.int ((nI i) + 6))], [], m2)) rfl ?_
  exact hr
set_option maxHeartbeats 4000000 in
set_option maxRecDepth 100000 in
theorem lwc_body {xs : Nat → Int32} {L i j : Nat} (hL : L ≤ 384) (hi : i + 6 ≤ L) {m : mz_M} (hj : j < 64) (hI : sm_I j m) (e : (∀ k, m 3000 k = xs k) ∧ (m 3001 0).toNatClampNeg = L) (h : xs i &&& 63 = 31) : ∃ m2, sm_I (j + 1) m2 ∧ ((∀ k, m2 3000 k = xs k) ∧ (m2 3001 0).toNatClampNeg = L) ∧ ∀ r, mz_Ex 101 mz_kL (18, [some (.ref 3000), some (.ref 0), some (.ref 65), some (.int ((nI i) + 6))], [], m2) r → mz_Ex 101 mz_kL (18, [some (.ref 3000), some (.ref 0), some (.ref 65), some (.int (nI i))], [], m) r := by
  obtain ⟨v1, v2, m1, m2, h1, h2, h3⟩ := sc_body hj hI (xs (i + 1))
  have e1 := lw_eL h1 e
  have e2 := lw_eL h2 e1
  refine ⟨m2, h3, e2, fun r hr => ?_⟩
  refine mz_goS mz_ks31 3 (c' := (21, [some (.ref 3000), some (.ref 0), some (.ref 65), some (.int (nI i))], [.int (Int32.ofNat (m 3001 0).toNatClampNeg), .int (nI i)], m)) rfl ?_
  rw [show Int32.ofNat (m 3001 0).toNatClampNeg = nI L from by rw [e.2]; rfl]
  refine mz_goS mz_ks31 3 (c' := (if ((nI L) - 6) < (nI i) then 1588 else 27, [some (.ref 3000), some (.ref 0), some (.ref 65), some (.int (nI i))], [], m)) rfl ?_
  refine mz_ifF (show ¬ (((nI L) - 6) < (nI i)) from (sm_law hL (by omega) (by omega))) ?_
  refine mz_goS mz_ks31 2 (c' := (29, [some (.ref 3000), some (.ref 0), some (.ref 65), some (.int (nI i))], [.int (nI i), .ref 3000], m)) rfl ?_
  refine mz_arrS mz_ks31 (c' := (30, [some (.ref 3000), some (.ref 0), some (.ref 65), some (.int (nI i))], [.int (m 3000 ((nI i).toNatClampNeg))], m)) rfl (show mz_in (nI i) (m 3001 0).toNatClampNeg = true from by rw [e.2]; exact sm_inN rfl (show i < L by omega) (by omega)) ?_
  rw [show (nI i : Int32).toNatClampNeg = i from sm_clN rfl (show i < 2 ^ 31 by omega)]
  rw [show m 3000 i = xs i from e.1 _]
  refine mz_goS mz_ks31 2 (c' := (33, [some (.ref 3000), some (.ref 0), some (.ref 65), some (.int (nI i))], [.int ((xs i) &&& 63)], m)) rfl ?_
  rw [h]
  refine mz_goS mz_ks31 6 (c' := (1274, [some (.ref 3000), some (.ref 0), some (.ref 65), some (.int (nI i))], [.int ((nI i) + 1), .ref 3000, .ref 0], m)) rfl ?_
  refine mz_arrS mz_ks31 (c' := (1275, [some (.ref 3000), some (.ref 0), some (.ref 65), some (.int (nI i))], [.int (m 3000 (((nI i) + 1).toNatClampNeg)), .ref 0], m)) rfl (show mz_in ((nI i) + 1) (m 3001 0).toNatClampNeg = true from by rw [e.2]; exact sm_inN (sm_addN rfl rfl) (show (i + 1) < L by omega) (by omega)) ?_
  rw [show ((nI i) + 1 : Int32).toNatClampNeg = (i + 1) from sm_clN (sm_addN rfl rfl) (show (i + 1) < 2 ^ 31 by omega)]
  rw [show m 3000 (i + 1) = xs (i + 1) from e.1 _]
  refine mz_doS mz_ks31 (R := mz_r98) (as := [.ref 0, .int (xs (i + 1))]) (rest := []) (r1 := some (.int v1)) (m1 := m1) rfl h1 ?_
  refine mz_goS mz_ks31 6 (c' := (1284, [some (.ref 3000), some (.ref 0), some (.ref 65), some (.int (nI i))], [.int ((nI i) + 1), .ref 3000, .ref 65], m1)) rfl ?_
  refine mz_arrS mz_ks31 (c' := (1285, [some (.ref 3000), some (.ref 0), some (.ref 65), some (.int (nI i))], [.int (m1 3000 (((nI i) + 1).toNatClampNeg)), .ref 65], m1)) rfl (show mz_in ((nI i) + 1) (m1 3001 0).toNatClampNeg = true from by rw [e1.2]; exact sm_inN (sm_addN rfl rfl) (show (i + 1) < L by omega) (by omega)) ?_
  rw [show ((nI i) + 1 : Int32).toNatClampNeg = (i + 1) from sm_clN (sm_addN rfl rfl) (show (i + 1) < 2 ^ 31 by omega)]
  rw [show m1 3000 (i + 1) = xs (i + 1) from e1.1 _]
  refine mz_doS mz_ks31 (R := mz_r218) (as := [.ref 65, .int (xs (i + 1))]) (rest := []) (r1 := some (.int v2)) (m1 := m2) rfl h2 ?_
  refine mz_goS mz_ks31 4 (c' := (18, [some (.ref 3000), some (.ref 0), some (.ref 65), some (.int ((nI i) + 6))], [], m2)) rfl ?_
  exact hr
set_option maxHeartbeats 4000000 in
set_option maxRecDepth 100000 in
theorem lwc_sheet {xs : Nat → Int32} {L i j : Nat} (hL : L ≤ 384) (hi : i + 6 ≤ L) {m : mz_M} (hj : j < 64) (hI : sm_I j m) (e : (∀ k, m 3000 k = xs k) ∧ (m 3001 0).toNatClampNeg = L) (h : xs i &&& 63 = 32) : ∃ m2, sm_I (j + 1) m2 ∧ ((∀ k, m2 3000 k = xs k) ∧ (m2 3001 0).toNatClampNeg = L) ∧ ∀ r, mz_Ex 101 mz_kL (18, [some (.ref 3000), some (.ref 0), some (.ref 65), some (.int ((nI i) + 6))], [], m2) r → mz_Ex 101 mz_kL (18, [some (.ref 3000), some (.ref 0), some (.ref 65), some (.int (nI i))], [], m) r := by
  obtain ⟨v1, v2, m1, m2, h1, h2, h3, hv⟩ := sc_sheet hj hI (xs (i + 1)) (xs (i + 2)) (xs (i + 3))
  have e1 := lw_eL h1 e
  have e2 := lw_eL h2 e1
  refine ⟨m2, h3, e2, fun r hr => ?_⟩
  refine mz_goS mz_ks32 3 (c' := (21, [some (.ref 3000), some (.ref 0), some (.ref 65), some (.int (nI i))], [.int (Int32.ofNat (m 3001 0).toNatClampNeg), .int (nI i)], m)) rfl ?_
  rw [show Int32.ofNat (m 3001 0).toNatClampNeg = nI L from by rw [e.2]; rfl]
  refine mz_goS mz_ks32 3 (c' := (if ((nI L) - 6) < (nI i) then 1588 else 27, [some (.ref 3000), some (.ref 0), some (.ref 65), some (.int (nI i))], [], m)) rfl ?_
  refine mz_ifF (show ¬ (((nI L) - 6) < (nI i)) from (sm_law hL (by omega) (by omega))) ?_
  refine mz_goS mz_ks32 2 (c' := (29, [some (.ref 3000), some (.ref 0), some (.ref 65), some (.int (nI i))], [.int (nI i), .ref 3000], m)) rfl ?_
  refine mz_arrS mz_ks32 (c' := (30, [some (.ref 3000), some (.ref 0), some (.ref 65), some (.int (nI i))], [.int (m 3000 ((nI i).toNatClampNeg))], m)) rfl (show mz_in (nI i) (m 3001 0).toNatClampNeg = true from by rw [e.2]; exact sm_inN rfl (show i < L by omega) (by omega)) ?_
  rw [show (nI i : Int32).toNatClampNeg = i from sm_clN rfl (show i < 2 ^ 31 by omega)]
  rw [show m 3000 i = xs i from e.1 _]
  refine mz_goS mz_ks32 2 (c' := (33, [some (.ref 3000), some (.ref 0), some (.ref 65), some (.int (nI i))], [.int ((xs i) &&& 63)], m)) rfl ?_
  rw [h]
  refine mz_goS mz_ks32 6 (c' := (1297, [some (.ref 3000), some (.ref 0), some (.ref 65), some (.int (nI i))], [.int ((nI i) + 1), .ref 3000, .ref 0], m)) rfl ?_
  refine mz_arrS mz_ks32 (c' := (1298, [some (.ref 3000), some (.ref 0), some (.ref 65), some (.int (nI i))], [.int (m 3000 (((nI i) + 1).toNatClampNeg)), .ref 0], m)) rfl (show mz_in ((nI i) + 1) (m 3001 0).toNatClampNeg = true from by rw [e.2]; exact sm_inN (sm_addN rfl rfl) (show (i + 1) < L by omega) (by omega)) ?_
  rw [show ((nI i) + 1 : Int32).toNatClampNeg = (i + 1) from sm_clN (sm_addN rfl rfl) (show (i + 1) < 2 ^ 31 by omega)]
  rw [show m 3000 (i + 1) = xs (i + 1) from e.1 _]
  refine mz_goS mz_ks32 4 (c' := (1302, [some (.ref 3000), some (.ref 0), some (.ref 65), some (.int (nI i))], [.int ((nI i) + 2), .ref 3000, .int (xs (i + 1)), .ref 0], m)) rfl ?_
  refine mz_arrS mz_ks32 (c' := (1303, [some (.ref 3000), some (.ref 0), some (.ref 65), some (.int (nI i))], [.int (m 3000 (((nI i) + 2).toNatClampNeg)), .int (xs (i + 1)), .ref 0], m)) rfl (show mz_in ((nI i) + 2) (m 3001 0).toNatClampNeg = true from by rw [e.2]; exact sm_inN (sm_addN rfl rfl) (show (i + 2) < L by omega) (by omega)) ?_
  rw [show ((nI i) + 2 : Int32).toNatClampNeg = (i + 2) from sm_clN (sm_addN rfl rfl) (show (i + 2) < 2 ^ 31 by omega)]
  rw [show m 3000 (i + 2) = xs (i + 2) from e.1 _]
  refine mz_goS mz_ks32 4 (c' := (1307, [some (.ref 3000), some (.ref 0), some (.ref 65), some (.int (nI i))], [.int ((nI i) + 3), .ref 3000, .int (xs (i + 2)), .int (xs (i + 1)), .ref 0], m)) rfl ?_
  refine mz_arrS mz_ks32 (c' := (1308, [some (.ref 3000), some (.ref 0), some (.ref 65), some (.int (nI i))], [.int (m 3000 (((nI i) + 3).toNatClampNeg)), .int (xs (i + 2)), .int (xs (i + 1)), .ref 0], m)) rfl (show mz_in ((nI i) + 3) (m 3001 0).toNatClampNeg = true from by rw [e.2]; exact sm_inN (sm_addN rfl rfl) (show (i + 3) < L by omega) (by omega)) ?_
  rw [show ((nI i) + 3 : Int32).toNatClampNeg = (i + 3) from sm_clN (sm_addN rfl rfl) (show (i + 3) < 2 ^ 31 by omega)]
  rw [show m 3000 (i + 3) = xs (i + 3) from e.1 _]
  refine mz_doS mz_ks32 (R := mz_r99) (as := [.ref 0, .int (xs (i + 1)), .int (xs (i + 2)), .int (xs (i + 3))]) (rest := []) (r1 := some (.int v1)) (m1 := m1) rfl h1 ?_
  refine mz_goS mz_ks32 6 (c' := (1317, [some (.ref 3000), some (.ref 0), some (.ref 65), some (.int (nI i))], [.int ((nI i) + 1), .ref 3000, .ref 65], m1)) rfl ?_
  refine mz_arrS mz_ks32 (c' := (1318, [some (.ref 3000), some (.ref 0), some (.ref 65), some (.int (nI i))], [.int (m1 3000 (((nI i) + 1).toNatClampNeg)), .ref 65], m1)) rfl (show mz_in ((nI i) + 1) (m1 3001 0).toNatClampNeg = true from by rw [e1.2]; exact sm_inN (sm_addN rfl rfl) (show (i + 1) < L by omega) (by omega)) ?_
  rw [show ((nI i) + 1 : Int32).toNatClampNeg = (i + 1) from sm_clN (sm_addN rfl rfl) (show (i + 1) < 2 ^ 31 by omega)]
  rw [show m1 3000 (i + 1) = xs (i + 1) from e1.1 _]
  refine mz_goS mz_ks32 4 (c' := (1322, [some (.ref 3000), some (.ref 0), some (.ref 65), some (.int (nI i))], [.int ((nI i) + 2), .ref 3000, .int (xs (i + 1)), .ref 65], m1)) rfl ?_
  refine mz_arrS mz_ks32 (c' := (1323, [some (.ref 3000), some (.ref 0), some (.ref 65), some (.int (nI i))], [.int (m1 3000 (((nI i) + 2).toNatClampNeg)), .int (xs (i + 1)), .ref 65], m1)) rfl (show mz_in ((nI i) + 2) (m1 3001 0).toNatClampNeg = true from by rw [e1.2]; exact sm_inN (sm_addN rfl rfl) (show (i + 2) < L by omega) (by omega)) ?_
  rw [show ((nI i) + 2 : Int32).toNatClampNeg = (i + 2) from sm_clN (sm_addN rfl rfl) (show (i + 2) < 2 ^ 31 by omega)]
  rw [show m1 3000 (i + 2) = xs (i + 2) from e1.1 _]
  refine mz_goS mz_ks32 4 (c' := (1327, [some (.ref 3000), some (.ref 0), some (.ref 65), some (.int (nI i))], [.int ((nI i) + 3), .ref 3000, .int (xs (i + 2)), .int (xs (i + 1)), .ref 65], m1)) rfl ?_
  refine mz_arrS mz_ks32 (c' := (1328, [some (.ref 3000), some (.ref 0), some (.ref 65), some (.int (nI i))], [.int (m1 3000 (((nI i) + 3).toNatClampNeg)), .int (xs (i + 2)), .int (xs (i + 1)), .ref 65], m1)) rfl (show mz_in ((nI i) + 3) (m1 3001 0).toNatClampNeg = true from by rw [e1.2]; exact sm_inN (sm_addN rfl rfl) (show (i + 3) < L by omega) (by omega)) ?_
  rw [show ((nI i) + 3 : Int32).toNatClampNeg = (i + 3) from sm_clN (sm_addN rfl rfl) (show (i + 3) < 2 ^ 31 by omega)]
  rw [show m1 3000 (i + 3) = xs (i + 3) from e1.1 _]
  refine mz_doS mz_ks32 (R := mz_r220) (as := [.ref 65, .int (xs (i + 1)), .int (xs (i + 2)), .int (xs (i + 3))]) (rest := []) (r1 := some (.int v2)) (m1 := m2) rfl h2 ?_
  refine mz_goS mz_ks32 4 (c' := (18, [some (.ref 3000), some (.ref 0), some (.ref 65), some (.int ((nI i) + 6))], [], m2)) rfl ?_
  exact hr
set_option maxHeartbeats 4000000 in
set_option maxRecDepth 100000 in
theorem lwc_put {xs : Nat → Int32} {L i j : Nat} (hL : L ≤ 384) (hi : i + 6 ≤ L) {m : mz_M} (hj : j < 64) (hI : sm_I j m) (e : (∀ k, m 3000 k = xs k) ∧ (m 3001 0).toNatClampNeg = L) (h : xs i &&& 63 = 33) : ∃ m2, sm_I (j + 1) m2 ∧ ((∀ k, m2 3000 k = xs k) ∧ (m2 3001 0).toNatClampNeg = L) ∧ ∀ r, mz_Ex 101 mz_kL (18, [some (.ref 3000), some (.ref 0), some (.ref 65), some (.int ((nI i) + 6))], [], m2) r → mz_Ex 101 mz_kL (18, [some (.ref 3000), some (.ref 0), some (.ref 65), some (.int (nI i))], [], m) r := by
  obtain ⟨v1, v2, m1, m2, h1, h2, h3, hv⟩ := sc_put hj hI (xs (i + 1)) (xs (i + 2)) (xs (i + 3))
  have e1 := lw_eL h1 e
  have e2 := lw_eL h2 e1
  refine ⟨m2, h3, e2, fun r hr => ?_⟩
  refine mz_goS mz_ks33 3 (c' := (21, [some (.ref 3000), some (.ref 0), some (.ref 65), some (.int (nI i))], [.int (Int32.ofNat (m 3001 0).toNatClampNeg), .int (nI i)], m)) rfl ?_
  rw [show Int32.ofNat (m 3001 0).toNatClampNeg = nI L from by rw [e.2]; rfl]
  refine mz_goS mz_ks33 3 (c' := (if ((nI L) - 6) < (nI i) then 1588 else 27, [some (.ref 3000), some (.ref 0), some (.ref 65), some (.int (nI i))], [], m)) rfl ?_
  refine mz_ifF (show ¬ (((nI L) - 6) < (nI i)) from (sm_law hL (by omega) (by omega))) ?_
  refine mz_goS mz_ks33 2 (c' := (29, [some (.ref 3000), some (.ref 0), some (.ref 65), some (.int (nI i))], [.int (nI i), .ref 3000], m)) rfl ?_
  refine mz_arrS mz_ks33 (c' := (30, [some (.ref 3000), some (.ref 0), some (.ref 65), some (.int (nI i))], [.int (m 3000 ((nI i).toNatClampNeg))], m)) rfl (show mz_in (nI i) (m 3001 0).toNatClampNeg = true from by rw [e.2]; exact sm_inN rfl (show i < L by omega) (by omega)) ?_
  rw [show (nI i : Int32).toNatClampNeg = i from sm_clN rfl (show i < 2 ^ 31 by omega)]
  rw [show m 3000 i = xs i from e.1 _]
  refine mz_goS mz_ks33 2 (c' := (33, [some (.ref 3000), some (.ref 0), some (.ref 65), some (.int (nI i))], [.int ((xs i) &&& 63)], m)) rfl ?_
  rw [h]
  refine mz_goS mz_ks33 6 (c' := (1340, [some (.ref 3000), some (.ref 0), some (.ref 65), some (.int (nI i))], [.int ((nI i) + 1), .ref 3000, .ref 0], m)) rfl ?_
  refine mz_arrS mz_ks33 (c' := (1341, [some (.ref 3000), some (.ref 0), some (.ref 65), some (.int (nI i))], [.int (m 3000 (((nI i) + 1).toNatClampNeg)), .ref 0], m)) rfl (show mz_in ((nI i) + 1) (m 3001 0).toNatClampNeg = true from by rw [e.2]; exact sm_inN (sm_addN rfl rfl) (show (i + 1) < L by omega) (by omega)) ?_
  rw [show ((nI i) + 1 : Int32).toNatClampNeg = (i + 1) from sm_clN (sm_addN rfl rfl) (show (i + 1) < 2 ^ 31 by omega)]
  rw [show m 3000 (i + 1) = xs (i + 1) from e.1 _]
  refine mz_goS mz_ks33 4 (c' := (1345, [some (.ref 3000), some (.ref 0), some (.ref 65), some (.int (nI i))], [.int ((nI i) + 2), .ref 3000, .int (xs (i + 1)), .ref 0], m)) rfl ?_
  refine mz_arrS mz_ks33 (c' := (1346, [some (.ref 3000), some (.ref 0), some (.ref 65), some (.int (nI i))], [.int (m 3000 (((nI i) + 2).toNatClampNeg)), .int (xs (i + 1)), .ref 0], m)) rfl (show mz_in ((nI i) + 2) (m 3001 0).toNatClampNeg = true from by rw [e.2]; exact sm_inN (sm_addN rfl rfl) (show (i + 2) < L by omega) (by omega)) ?_
  rw [show ((nI i) + 2 : Int32).toNatClampNeg = (i + 2) from sm_clN (sm_addN rfl rfl) (show (i + 2) < 2 ^ 31 by omega)]
  rw [show m 3000 (i + 2) = xs (i + 2) from e.1 _]
  refine mz_goS mz_ks33 4 (c' := (1350, [some (.ref 3000), some (.ref 0), some (.ref 65), some (.int (nI i))], [.int ((nI i) + 3), .ref 3000, .int (xs (i + 2)), .int (xs (i + 1)), .ref 0], m)) rfl ?_
  refine mz_arrS mz_ks33 (c' := (1351, [some (.ref 3000), some (.ref 0), some (.ref 65), some (.int (nI i))], [.int (m 3000 (((nI i) + 3).toNatClampNeg)), .int (xs (i + 2)), .int (xs (i + 1)), .ref 0], m)) rfl (show mz_in ((nI i) + 3) (m 3001 0).toNatClampNeg = true from by rw [e.2]; exact sm_inN (sm_addN rfl rfl) (show (i + 3) < L by omega) (by omega)) ?_
  rw [show ((nI i) + 3 : Int32).toNatClampNeg = (i + 3) from sm_clN (sm_addN rfl rfl) (show (i + 3) < 2 ^ 31 by omega)]
  rw [show m 3000 (i + 3) = xs (i + 3) from e.1 _]
  refine mz_doS mz_ks33 (R := mz_r100) (as := [.ref 0, .int (xs (i + 1)), .int (xs (i + 2)), .int (xs (i + 3))]) (rest := []) (r1 := some (.int v1)) (m1 := m1) rfl h1 ?_
  refine mz_goS mz_ks33 6 (c' := (1360, [some (.ref 3000), some (.ref 0), some (.ref 65), some (.int (nI i))], [.int ((nI i) + 1), .ref 3000, .ref 65], m1)) rfl ?_
  refine mz_arrS mz_ks33 (c' := (1361, [some (.ref 3000), some (.ref 0), some (.ref 65), some (.int (nI i))], [.int (m1 3000 (((nI i) + 1).toNatClampNeg)), .ref 65], m1)) rfl (show mz_in ((nI i) + 1) (m1 3001 0).toNatClampNeg = true from by rw [e1.2]; exact sm_inN (sm_addN rfl rfl) (show (i + 1) < L by omega) (by omega)) ?_
  rw [show ((nI i) + 1 : Int32).toNatClampNeg = (i + 1) from sm_clN (sm_addN rfl rfl) (show (i + 1) < 2 ^ 31 by omega)]
  rw [show m1 3000 (i + 1) = xs (i + 1) from e1.1 _]
  refine mz_goS mz_ks33 4 (c' := (1365, [some (.ref 3000), some (.ref 0), some (.ref 65), some (.int (nI i))], [.int ((nI i) + 2), .ref 3000, .int (xs (i + 1)), .ref 65], m1)) rfl ?_
  refine mz_arrS mz_ks33 (c' := (1366, [some (.ref 3000), some (.ref 0), some (.ref 65), some (.int (nI i))], [.int (m1 3000 (((nI i) + 2).toNatClampNeg)), .int (xs (i + 1)), .ref 65], m1)) rfl (show mz_in ((nI i) + 2) (m1 3001 0).toNatClampNeg = true from by rw [e1.2]; exact sm_inN (sm_addN rfl rfl) (show (i + 2) < L by omega) (by omega)) ?_
  rw [show ((nI i) + 2 : Int32).toNatClampNeg = (i + 2) from sm_clN (sm_addN rfl rfl) (show (i + 2) < 2 ^ 31 by omega)]
  rw [show m1 3000 (i + 2) = xs (i + 2) from e1.1 _]
  refine mz_goS mz_ks33 4 (c' := (1370, [some (.ref 3000), some (.ref 0), some (.ref 65), some (.int (nI i))], [.int ((nI i) + 3), .ref 3000, .int (xs (i + 2)), .int (xs (i + 1)), .ref 65], m1)) rfl ?_
  refine mz_arrS mz_ks33 (c' := (1371, [some (.ref 3000), some (.ref 0), some (.ref 65), some (.int (nI i))], [.int (m1 3000 (((nI i) + 3).toNatClampNeg)), .int (xs (i + 2)), .int (xs (i + 1)), .ref 65], m1)) rfl (show mz_in ((nI i) + 3) (m1 3001 0).toNatClampNeg = true from by rw [e1.2]; exact sm_inN (sm_addN rfl rfl) (show (i + 3) < L by omega) (by omega)) ?_
  rw [show ((nI i) + 3 : Int32).toNatClampNeg = (i + 3) from sm_clN (sm_addN rfl rfl) (show (i + 3) < 2 ^ 31 by omega)]
  rw [show m1 3000 (i + 3) = xs (i + 3) from e1.1 _]
  refine mz_doS mz_ks33 (R := mz_r221) (as := [.ref 65, .int (xs (i + 1)), .int (xs (i + 2)), .int (xs (i + 3))]) (rest := []) (r1 := some (.int v2)) (m1 := m2) rfl h2 ?_
  refine mz_goS mz_ks33 4 (c' := (18, [some (.ref 3000), some (.ref 0), some (.ref 65), some (.int ((nI i) + 6))], [], m2)) rfl ?_
  exact hr
set_option maxHeartbeats 4000000 in
set_option maxRecDepth 100000 in
theorem lwc_move {xs : Nat → Int32} {L i j : Nat} (hL : L ≤ 384) (hi : i + 6 ≤ L) {m : mz_M} (hj : j < 64) (hI : sm_I j m) (e : (∀ k, m 3000 k = xs k) ∧ (m 3001 0).toNatClampNeg = L) (h : xs i &&& 63 = 34) : ∃ m2, sm_I (j + 1) m2 ∧ ((∀ k, m2 3000 k = xs k) ∧ (m2 3001 0).toNatClampNeg = L) ∧ ∀ r, mz_Ex 101 mz_kL (18, [some (.ref 3000), some (.ref 0), some (.ref 65), some (.int ((nI i) + 6))], [], m2) r → mz_Ex 101 mz_kL (18, [some (.ref 3000), some (.ref 0), some (.ref 65), some (.int (nI i))], [], m) r := by
  obtain ⟨v1, v2, m1, m2, h1, h2, h3, hv⟩ := sc_move hj hI (xs (i + 1)) (xs (i + 2)) (xs (i + 3)) (xs (i + 4)) (xs (i + 5))
  have e1 := lw_eL h1 e
  have e2 := lw_eL h2 e1
  refine ⟨m2, h3, e2, fun r hr => ?_⟩
  refine mz_goS mz_ks34 3 (c' := (21, [some (.ref 3000), some (.ref 0), some (.ref 65), some (.int (nI i))], [.int (Int32.ofNat (m 3001 0).toNatClampNeg), .int (nI i)], m)) rfl ?_
  rw [show Int32.ofNat (m 3001 0).toNatClampNeg = nI L from by rw [e.2]; rfl]
  refine mz_goS mz_ks34 3 (c' := (if ((nI L) - 6) < (nI i) then 1588 else 27, [some (.ref 3000), some (.ref 0), some (.ref 65), some (.int (nI i))], [], m)) rfl ?_
  refine mz_ifF (show ¬ (((nI L) - 6) < (nI i)) from (sm_law hL (by omega) (by omega))) ?_
  refine mz_goS mz_ks34 2 (c' := (29, [some (.ref 3000), some (.ref 0), some (.ref 65), some (.int (nI i))], [.int (nI i), .ref 3000], m)) rfl ?_
  refine mz_arrS mz_ks34 (c' := (30, [some (.ref 3000), some (.ref 0), some (.ref 65), some (.int (nI i))], [.int (m 3000 ((nI i).toNatClampNeg))], m)) rfl (show mz_in (nI i) (m 3001 0).toNatClampNeg = true from by rw [e.2]; exact sm_inN rfl (show i < L by omega) (by omega)) ?_
  rw [show (nI i : Int32).toNatClampNeg = i from sm_clN rfl (show i < 2 ^ 31 by omega)]
  rw [show m 3000 i = xs i from e.1 _]
  refine mz_goS mz_ks34 2 (c' := (33, [some (.ref 3000), some (.ref 0), some (.ref 65), some (.int (nI i))], [.int ((xs i) &&& 63)], m)) rfl ?_
  rw [h]
  refine mz_goS mz_ks34 6 (c' := (1383, [some (.ref 3000), some (.ref 0), some (.ref 65), some (.int (nI i))], [.int ((nI i) + 1), .ref 3000, .ref 0], m)) rfl ?_
  refine mz_arrS mz_ks34 (c' := (1384, [some (.ref 3000), some (.ref 0), some (.ref 65), some (.int (nI i))], [.int (m 3000 (((nI i) + 1).toNatClampNeg)), .ref 0], m)) rfl (show mz_in ((nI i) + 1) (m 3001 0).toNatClampNeg = true from by rw [e.2]; exact sm_inN (sm_addN rfl rfl) (show (i + 1) < L by omega) (by omega)) ?_
  rw [show ((nI i) + 1 : Int32).toNatClampNeg = (i + 1) from sm_clN (sm_addN rfl rfl) (show (i + 1) < 2 ^ 31 by omega)]
  rw [show m 3000 (i + 1) = xs (i + 1) from e.1 _]
  refine mz_goS mz_ks34 4 (c' := (1388, [some (.ref 3000), some (.ref 0), some (.ref 65), some (.int (nI i))], [.int ((nI i) + 2), .ref 3000, .int (xs (i + 1)), .ref 0], m)) rfl ?_
  refine mz_arrS mz_ks34 (c' := (1389, [some (.ref 3000), some (.ref 0), some (.ref 65), some (.int (nI i))], [.int (m 3000 (((nI i) + 2).toNatClampNeg)), .int (xs (i + 1)), .ref 0], m)) rfl (show mz_in ((nI i) + 2) (m 3001 0).toNatClampNeg = true from by rw [e.2]; exact sm_inN (sm_addN rfl rfl) (show (i + 2) < L by omega) (by omega)) ?_
  rw [show ((nI i) + 2 : Int32).toNatClampNeg = (i + 2) from sm_clN (sm_addN rfl rfl) (show (i + 2) < 2 ^ 31 by omega)]
  rw [show m 3000 (i + 2) = xs (i + 2) from e.1 _]
  refine mz_goS mz_ks34 4 (c' := (1393, [some (.ref 3000), some (.ref 0), some (.ref 65), some (.int (nI i))], [.int ((nI i) + 3), .ref 3000, .int (xs (i + 2)), .int (xs (i + 1)), .ref 0], m)) rfl ?_
  refine mz_arrS mz_ks34 (c' := (1394, [some (.ref 3000), some (.ref 0), some (.ref 65), some (.int (nI i))], [.int (m 3000 (((nI i) + 3).toNatClampNeg)), .int (xs (i + 2)), .int (xs (i + 1)), .ref 0], m)) rfl (show mz_in ((nI i) + 3) (m 3001 0).toNatClampNeg = true from by rw [e.2]; exact sm_inN (sm_addN rfl rfl) (show (i + 3) < L by omega) (by omega)) ?_
  rw [show ((nI i) + 3 : Int32).toNatClampNeg = (i + 3) from sm_clN (sm_addN rfl rfl) (show (i + 3) < 2 ^ 31 by omega)]
  rw [show m 3000 (i + 3) = xs (i + 3) from e.1 _]
  refine mz_goS mz_ks34 4 (c' := (1398, [some (.ref 3000), some (.ref 0), some (.ref 65), some (.int (nI i))], [.int ((nI i) + 4), .ref 3000, .int (xs (i + 3)), .int (xs (i + 2)), .int (xs (i + 1)), .ref 0], m)) rfl ?_
  refine mz_arrS mz_ks34 (c' := (1399, [some (.ref 3000), some (.ref 0), some (.ref 65), some (.int (nI i))], [.int (m 3000 (((nI i) + 4).toNatClampNeg)), .int (xs (i + 3)), .int (xs (i + 2)), .int (xs (i + 1)), .ref 0], m)) rfl (show mz_in ((nI i) + 4) (m 3001 0).toNatClampNeg = true from by rw [e.2]; exact sm_inN (sm_addN rfl rfl) (show (i + 4) < L by omega) (by omega)) ?_
  rw [show ((nI i) + 4 : Int32).toNatClampNeg = (i + 4) from sm_clN (sm_addN rfl rfl) (show (i + 4) < 2 ^ 31 by omega)]
  rw [show m 3000 (i + 4) = xs (i + 4) from e.1 _]
  refine mz_goS mz_ks34 4 (c' := (1403, [some (.ref 3000), some (.ref 0), some (.ref 65), some (.int (nI i))], [.int ((nI i) + 5), .ref 3000, .int (xs (i + 4)), .int (xs (i + 3)), .int (xs (i + 2)), .int (xs (i + 1)), .ref 0], m)) rfl ?_
  refine mz_arrS mz_ks34 (c' := (1404, [some (.ref 3000), some (.ref 0), some (.ref 65), some (.int (nI i))], [.int (m 3000 (((nI i) + 5).toNatClampNeg)), .int (xs (i + 4)), .int (xs (i + 3)), .int (xs (i + 2)), .int (xs (i + 1)), .ref 0], m)) rfl (show mz_in ((nI i) + 5) (m 3001 0).toNatClampNeg = true from by rw [e.2]; exact sm_inN (sm_addN rfl rfl) (show (i + 5) < L by omega) (by omega)) ?_
  rw [show ((nI i) + 5 : Int32).toNatClampNeg = (i + 5) from sm_clN (sm_addN rfl rfl) (show (i + 5) < 2 ^ 31 by omega)]
  rw [show m 3000 (i + 5) = xs (i + 5) from e.1 _]
  refine mz_doS mz_ks34 (R := mz_r101) (as := [.ref 0, .int (xs (i + 1)), .int (xs (i + 2)), .int (xs (i + 3)), .int (xs (i + 4)), .int (xs (i + 5))]) (rest := []) (r1 := some (.int v1)) (m1 := m1) rfl h1 ?_
  refine mz_goS mz_ks34 6 (c' := (1413, [some (.ref 3000), some (.ref 0), some (.ref 65), some (.int (nI i))], [.int ((nI i) + 1), .ref 3000, .ref 65], m1)) rfl ?_
  refine mz_arrS mz_ks34 (c' := (1414, [some (.ref 3000), some (.ref 0), some (.ref 65), some (.int (nI i))], [.int (m1 3000 (((nI i) + 1).toNatClampNeg)), .ref 65], m1)) rfl (show mz_in ((nI i) + 1) (m1 3001 0).toNatClampNeg = true from by rw [e1.2]; exact sm_inN (sm_addN rfl rfl) (show (i + 1) < L by omega) (by omega)) ?_
  rw [show ((nI i) + 1 : Int32).toNatClampNeg = (i + 1) from sm_clN (sm_addN rfl rfl) (show (i + 1) < 2 ^ 31 by omega)]
  rw [show m1 3000 (i + 1) = xs (i + 1) from e1.1 _]
  refine mz_goS mz_ks34 4 (c' := (1418, [some (.ref 3000), some (.ref 0), some (.ref 65), some (.int (nI i))], [.int ((nI i) + 2), .ref 3000, .int (xs (i + 1)), .ref 65], m1)) rfl ?_
  refine mz_arrS mz_ks34 (c' := (1419, [some (.ref 3000), some (.ref 0), some (.ref 65), some (.int (nI i))], [.int (m1 3000 (((nI i) + 2).toNatClampNeg)), .int (xs (i + 1)), .ref 65], m1)) rfl (show mz_in ((nI i) + 2) (m1 3001 0).toNatClampNeg = true from by rw [e1.2]; exact sm_inN (sm_addN rfl rfl) (show (i + 2) < L by omega) (by omega)) ?_
  rw [show ((nI i) + 2 : Int32).toNatClampNeg = (i + 2) from sm_clN (sm_addN rfl rfl) (show (i + 2) < 2 ^ 31 by omega)]
  rw [show m1 3000 (i + 2) = xs (i + 2) from e1.1 _]
  refine mz_goS mz_ks34 4 (c' := (1423, [some (.ref 3000), some (.ref 0), some (.ref 65), some (.int (nI i))], [.int ((nI i) + 3), .ref 3000, .int (xs (i + 2)), .int (xs (i + 1)), .ref 65], m1)) rfl ?_
  refine mz_arrS mz_ks34 (c' := (1424, [some (.ref 3000), some (.ref 0), some (.ref 65), some (.int (nI i))], [.int (m1 3000 (((nI i) + 3).toNatClampNeg)), .int (xs (i + 2)), .int (xs (i + 1)), .ref 65], m1)) rfl (show mz_in ((nI i) + 3) (m1 3001 0).toNatClampNeg = true from by rw [e1.2]; exact sm_inN (sm_addN rfl rfl) (show (i + 3) < L by omega) (by omega)) ?_
  rw [show ((nI i) + 3 : Int32).toNatClampNeg = (i + 3) from sm_clN (sm_addN rfl rfl) (show (i + 3) < 2 ^ 31 by omega)]
  rw [show m1 3000 (i + 3) = xs (i + 3) from e1.1 _]
  refine mz_goS mz_ks34 4 (c' := (1428, [some (.ref 3000), some (.ref 0), some (.ref 65), some (.int (nI i))], [.int ((nI i) + 4), .ref 3000, .int (xs (i + 3)), .int (xs (i + 2)), .int (xs (i + 1)), .ref 65], m1)) rfl ?_
  refine mz_arrS mz_ks34 (c' := (1429, [some (.ref 3000), some (.ref 0), some (.ref 65), some (.int (nI i))], [.int (m1 3000 (((nI i) + 4).toNatClampNeg)), .int (xs (i + 3)), .int (xs (i + 2)), .int (xs (i + 1)), .ref 65], m1)) rfl (show mz_in ((nI i) + 4) (m1 3001 0).toNatClampNeg = true from by rw [e1.2]; exact sm_inN (sm_addN rfl rfl) (show (i + 4) < L by omega) (by omega)) ?_
  rw [show ((nI i) + 4 : Int32).toNatClampNeg = (i + 4) from sm_clN (sm_addN rfl rfl) (show (i + 4) < 2 ^ 31 by omega)]
  rw [show m1 3000 (i + 4) = xs (i + 4) from e1.1 _]
  refine mz_goS mz_ks34 4 (c' := (1433, [some (.ref 3000), some (.ref 0), some (.ref 65), some (.int (nI i))], [.int ((nI i) + 5), .ref 3000, .int (xs (i + 4)), .int (xs (i + 3)), .int (xs (i + 2)), .int (xs (i + 1)), .ref 65], m1)) rfl ?_
  refine mz_arrS mz_ks34 (c' := (1434, [some (.ref 3000), some (.ref 0), some (.ref 65), some (.int (nI i))], [.int (m1 3000 (((nI i) + 5).toNatClampNeg)), .int (xs (i + 4)), .int (xs (i + 3)), .int (xs (i + 2)), .int (xs (i + 1)), .ref 65], m1)) rfl (show mz_in ((nI i) + 5) (m1 3001 0).toNatClampNeg = true from by rw [e1.2]; exact sm_inN (sm_addN rfl rfl) (show (i + 5) < L by omega) (by omega)) ?_
  rw [show ((nI i) + 5 : Int32).toNatClampNeg = (i + 5) from sm_clN (sm_addN rfl rfl) (show (i + 5) < 2 ^ 31 by omega)]
  rw [show m1 3000 (i + 5) = xs (i + 5) from e1.1 _]
  refine mz_doS mz_ks34 (R := mz_r222) (as := [.ref 65, .int (xs (i + 1)), .int (xs (i + 2)), .int (xs (i + 3)), .int (xs (i + 4)), .int (xs (i + 5))]) (rest := []) (r1 := some (.int v2)) (m1 := m2) rfl h2 ?_
  refine mz_goS mz_ks34 4 (c' := (18, [some (.ref 3000), some (.ref 0), some (.ref 65), some (.int ((nI i) + 6))], [], m2)) rfl ?_
  exact hr
set_option maxHeartbeats 4000000 in
set_option maxRecDepth 100000 in
theorem lwc_magnets {xs : Nat → Int32} {L i j : Nat} (hL : L ≤ 384) (hi : i + 6 ≤ L) {m : mz_M} (hj : j < 64) (hI : sm_I j m) (e : (∀ k, m 3000 k = xs k) ∧ (m 3001 0).toNatClampNeg = L) (h : xs i &&& 63 = 35) : ∃ m2, sm_I (j + 1) m2 ∧ ((∀ k, m2 3000 k = xs k) ∧ (m2 3001 0).toNatClampNeg = L) ∧ ∀ r, mz_Ex 101 mz_kL (18, [some (.ref 3000), some (.ref 0), some (.ref 65), some (.int ((nI i) + 6))], [], m2) r → mz_Ex 101 mz_kL (18, [some (.ref 3000), some (.ref 0), some (.ref 65), some (.int (nI i))], [], m) r := by
  obtain ⟨v1, v2, m1, m2, h1, h2, h3, hv⟩ := sc_magnets hj hI (xs (i + 1))
  have e1 := lw_eL h1 e
  have e2 := lw_eL h2 e1
  refine ⟨m2, h3, e2, fun r hr => ?_⟩
  refine mz_goS mz_ks35 3 (c' := (21, [some (.ref 3000), some (.ref 0), some (.ref 65), some (.int (nI i))], [.int (Int32.ofNat (m 3001 0).toNatClampNeg), .int (nI i)], m)) rfl ?_
  rw [show Int32.ofNat (m 3001 0).toNatClampNeg = nI L from by rw [e.2]; rfl]
  refine mz_goS mz_ks35 3 (c' := (if ((nI L) - 6) < (nI i) then 1588 else 27, [some (.ref 3000), some (.ref 0), some (.ref 65), some (.int (nI i))], [], m)) rfl ?_
  refine mz_ifF (show ¬ (((nI L) - 6) < (nI i)) from (sm_law hL (by omega) (by omega))) ?_
  refine mz_goS mz_ks35 2 (c' := (29, [some (.ref 3000), some (.ref 0), some (.ref 65), some (.int (nI i))], [.int (nI i), .ref 3000], m)) rfl ?_
  refine mz_arrS mz_ks35 (c' := (30, [some (.ref 3000), some (.ref 0), some (.ref 65), some (.int (nI i))], [.int (m 3000 ((nI i).toNatClampNeg))], m)) rfl (show mz_in (nI i) (m 3001 0).toNatClampNeg = true from by rw [e.2]; exact sm_inN rfl (show i < L by omega) (by omega)) ?_
  rw [show (nI i : Int32).toNatClampNeg = i from sm_clN rfl (show i < 2 ^ 31 by omega)]
  rw [show m 3000 i = xs i from e.1 _]
  refine mz_goS mz_ks35 2 (c' := (33, [some (.ref 3000), some (.ref 0), some (.ref 65), some (.int (nI i))], [.int ((xs i) &&& 63)], m)) rfl ?_
  rw [h]
  refine mz_goS mz_ks35 6 (c' := (1446, [some (.ref 3000), some (.ref 0), some (.ref 65), some (.int (nI i))], [.int ((nI i) + 1), .ref 3000, .ref 0], m)) rfl ?_
  refine mz_arrS mz_ks35 (c' := (1447, [some (.ref 3000), some (.ref 0), some (.ref 65), some (.int (nI i))], [.int (m 3000 (((nI i) + 1).toNatClampNeg)), .ref 0], m)) rfl (show mz_in ((nI i) + 1) (m 3001 0).toNatClampNeg = true from by rw [e.2]; exact sm_inN (sm_addN rfl rfl) (show (i + 1) < L by omega) (by omega)) ?_
  rw [show ((nI i) + 1 : Int32).toNatClampNeg = (i + 1) from sm_clN (sm_addN rfl rfl) (show (i + 1) < 2 ^ 31 by omega)]
  rw [show m 3000 (i + 1) = xs (i + 1) from e.1 _]
  refine mz_doS mz_ks35 (R := mz_r102) (as := [.ref 0, .int (xs (i + 1))]) (rest := []) (r1 := some (.int v1)) (m1 := m1) rfl h1 ?_
  refine mz_goS mz_ks35 6 (c' := (1456, [some (.ref 3000), some (.ref 0), some (.ref 65), some (.int (nI i))], [.int ((nI i) + 1), .ref 3000, .ref 65], m1)) rfl ?_
  refine mz_arrS mz_ks35 (c' := (1457, [some (.ref 3000), some (.ref 0), some (.ref 65), some (.int (nI i))], [.int (m1 3000 (((nI i) + 1).toNatClampNeg)), .ref 65], m1)) rfl (show mz_in ((nI i) + 1) (m1 3001 0).toNatClampNeg = true from by rw [e1.2]; exact sm_inN (sm_addN rfl rfl) (show (i + 1) < L by omega) (by omega)) ?_
  rw [show ((nI i) + 1 : Int32).toNatClampNeg = (i + 1) from sm_clN (sm_addN rfl rfl) (show (i + 1) < 2 ^ 31 by omega)]
  rw [show m1 3000 (i + 1) = xs (i + 1) from e1.1 _]
  refine mz_doS mz_ks35 (R := mz_r223) (as := [.ref 65, .int (xs (i + 1))]) (rest := []) (r1 := some (.int v2)) (m1 := m2) rfl h2 ?_
  refine mz_goS mz_ks35 4 (c' := (18, [some (.ref 3000), some (.ref 0), some (.ref 65), some (.int ((nI i) + 6))], [], m2)) rfl ?_
  exact hr
set_option maxHeartbeats 4000000 in
set_option maxRecDepth 100000 in
theorem lwc_image {xs : Nat → Int32} {L i j : Nat} (hL : L ≤ 384) (hi : i + 6 ≤ L) {m : mz_M} (hj : j < 64) (hI : sm_I j m) (e : (∀ k, m 3000 k = xs k) ∧ (m 3001 0).toNatClampNeg = L) (h : xs i &&& 63 = 36) : ∃ m2, sm_I (j + 1) m2 ∧ ((∀ k, m2 3000 k = xs k) ∧ (m2 3001 0).toNatClampNeg = L) ∧ ∀ r, mz_Ex 101 mz_kL (18, [some (.ref 3000), some (.ref 0), some (.ref 65), some (.int ((nI i) + 6))], [], m2) r → mz_Ex 101 mz_kL (18, [some (.ref 3000), some (.ref 0), some (.ref 65), some (.int (nI i))], [], m) r := by
  obtain ⟨v1, v2, m1, m2, h1, h2, h3, hv⟩ := sc_image hj hI 
  have e1 := lw_eL h1 e
  have e2 := lw_eL h2 e1
  refine ⟨m2, h3, e2, fun r hr => ?_⟩
  refine mz_goS mz_ks36 3 (c' := (21, [some (.ref 3000), some (.ref 0), some (.ref 65), some (.int (nI i))], [.int (Int32.ofNat (m 3001 0).toNatClampNeg), .int (nI i)], m)) rfl ?_
  rw [show Int32.ofNat (m 3001 0).toNatClampNeg = nI L from by rw [e.2]; rfl]
  refine mz_goS mz_ks36 3 (c' := (if ((nI L) - 6) < (nI i) then 1588 else 27, [some (.ref 3000), some (.ref 0), some (.ref 65), some (.int (nI i))], [], m)) rfl ?_
  refine mz_ifF (show ¬ (((nI L) - 6) < (nI i)) from (sm_law hL (by omega) (by omega))) ?_
  refine mz_goS mz_ks36 2 (c' := (29, [some (.ref 3000), some (.ref 0), some (.ref 65), some (.int (nI i))], [.int (nI i), .ref 3000], m)) rfl ?_
  refine mz_arrS mz_ks36 (c' := (30, [some (.ref 3000), some (.ref 0), some (.ref 65), some (.int (nI i))], [.int (m 3000 ((nI i).toNatClampNeg))], m)) rfl (show mz_in (nI i) (m 3001 0).toNatClampNeg = true from by rw [e.2]; exact sm_inN rfl (show i < L by omega) (by omega)) ?_
  rw [show (nI i : Int32).toNatClampNeg = i from sm_clN rfl (show i < 2 ^ 31 by omega)]
  rw [show m 3000 i = xs i from e.1 _]
  refine mz_goS mz_ks36 2 (c' := (33, [some (.ref 3000), some (.ref 0), some (.ref 65), some (.int (nI i))], [.int ((xs i) &&& 63)], m)) rfl ?_
  rw [h]
  refine mz_goS mz_ks36 2 (c' := (1465, [some (.ref 3000), some (.ref 0), some (.ref 65), some (.int (nI i))], [.ref 0], m)) rfl ?_
  refine mz_doS mz_ks36 (R := mz_r103) (as := [.ref 0]) (rest := []) (r1 := some (.int v1)) (m1 := m1) rfl h1 ?_
  refine mz_goS mz_ks36 2 (c' := (1470, [some (.ref 3000), some (.ref 0), some (.ref 65), some (.int (nI i))], [.ref 65], m1)) rfl ?_
  refine mz_doS mz_ks36 (R := mz_r224) (as := [.ref 65]) (rest := []) (r1 := some (.int v2)) (m1 := m2) rfl h2 ?_
  refine mz_goS mz_ks36 4 (c' := (18, [some (.ref 3000), some (.ref 0), some (.ref 65), some (.int ((nI i) + 6))], [], m2)) rfl ?_
  exact hr
set_option maxHeartbeats 4000000 in
set_option maxRecDepth 100000 in
theorem lwc_restore {xs : Nat → Int32} {L i j : Nat} (hL : L ≤ 384) (hi : i + 6 ≤ L) {m : mz_M} (hj : j < 64) (hI : sm_I j m) (e : (∀ k, m 3000 k = xs k) ∧ (m 3001 0).toNatClampNeg = L) (h : xs i &&& 63 = 37) : ∃ m2, sm_I (j + 1) m2 ∧ ((∀ k, m2 3000 k = xs k) ∧ (m2 3001 0).toNatClampNeg = L) ∧ ∀ r, mz_Ex 101 mz_kL (18, [some (.ref 3000), some (.ref 0), some (.ref 65), some (.int ((nI i) + 6))], [], m2) r → mz_Ex 101 mz_kL (18, [some (.ref 3000), some (.ref 0), some (.ref 65), some (.int (nI i))], [], m) r := by
  obtain ⟨v1, v2, m1, m2, h1, h2, h3, hv⟩ := sc_restore hj hI 
  have e1 := lw_eL h1 e
  have e2 := lw_eL h2 e1
  refine ⟨m2, h3, e2, fun r hr => ?_⟩
  refine mz_goS mz_ks37 3 (c' := (21, [some (.ref 3000), some (.ref 0), some (.ref 65), some (.int (nI i))], [.int (Int32.ofNat (m 3001 0).toNatClampNeg), .int (nI i)], m)) rfl ?_
  rw [show Int32.ofNat (m 3001 0).toNatClampNeg = nI L from by rw [e.2]; rfl]
  refine mz_goS mz_ks37 3 (c' := (if ((nI L) - 6) < (nI i) then 1588 else 27, [some (.ref 3000), some (.ref 0), some (.ref 65), some (.int (nI i))], [], m)) rfl ?_
  refine mz_ifF (show ¬ (((nI L) - 6) < (nI i)) from (sm_law hL (by omega) (by omega))) ?_
  refine mz_goS mz_ks37 2 (c' := (29, [some (.ref 3000), some (.ref 0), some (.ref 65), some (.int (nI i))], [.int (nI i), .ref 3000], m)) rfl ?_
  refine mz_arrS mz_ks37 (c' := (30, [some (.ref 3000), some (.ref 0), some (.ref 65), some (.int (nI i))], [.int (m 3000 ((nI i).toNatClampNeg))], m)) rfl (show mz_in (nI i) (m 3001 0).toNatClampNeg = true from by rw [e.2]; exact sm_inN rfl (show i < L by omega) (by omega)) ?_
  rw [show (nI i : Int32).toNatClampNeg = i from sm_clN rfl (show i < 2 ^ 31 by omega)]
  rw [show m 3000 i = xs i from e.1 _]
  refine mz_goS mz_ks37 2 (c' := (33, [some (.ref 3000), some (.ref 0), some (.ref 65), some (.int (nI i))], [.int ((xs i) &&& 63)], m)) rfl ?_
  rw [h]
  refine mz_goS mz_ks37 2 (c' := (1478, [some (.ref 3000), some (.ref 0), some (.ref 65), some (.int (nI i))], [.ref 0], m)) rfl ?_
  refine mz_doS mz_ks37 (R := mz_r104) (as := [.ref 0]) (rest := []) (r1 := some (.int v1)) (m1 := m1) rfl h1 ?_
  refine mz_goS mz_ks37 2 (c' := (1483, [some (.ref 3000), some (.ref 0), some (.ref 65), some (.int (nI i))], [.ref 65], m1)) rfl ?_
  refine mz_doS mz_ks37 (R := mz_r225) (as := [.ref 65]) (rest := []) (r1 := some (.int v2)) (m1 := m2) rfl h2 ?_
  refine mz_goS mz_ks37 4 (c' := (18, [some (.ref 3000), some (.ref 0), some (.ref 65), some (.int ((nI i) + 6))], [], m2)) rfl ?_
  exact hr
set_option maxHeartbeats 4000000 in
set_option maxRecDepth 100000 in
theorem lwc_tell {xs : Nat → Int32} {L i j : Nat} (hL : L ≤ 384) (hi : i + 6 ≤ L) {m : mz_M} (hj : j < 64) (hI : sm_I j m) (e : (∀ k, m 3000 k = xs k) ∧ (m 3001 0).toNatClampNeg = L) (h : xs i &&& 63 = 38) : ∃ m2, sm_I (j + 1) m2 ∧ ((∀ k, m2 3000 k = xs k) ∧ (m2 3001 0).toNatClampNeg = L) ∧ ∀ r, mz_Ex 101 mz_kL (18, [some (.ref 3000), some (.ref 0), some (.ref 65), some (.int ((nI i) + 6))], [], m2) r → mz_Ex 101 mz_kL (18, [some (.ref 3000), some (.ref 0), some (.ref 65), some (.int (nI i))], [], m) r := by
  obtain ⟨v1, v2, m1, m2, h1, h2, h3, hv⟩ := sc_tell hj hI (xs (i + 1))
  have e1 := lw_eL h1 e
  have e2 := lw_eL h2 e1
  refine ⟨m2, h3, e2, fun r hr => ?_⟩
  refine mz_goS mz_ks38 3 (c' := (21, [some (.ref 3000), some (.ref 0), some (.ref 65), some (.int (nI i))], [.int (Int32.ofNat (m 3001 0).toNatClampNeg), .int (nI i)], m)) rfl ?_
  rw [show Int32.ofNat (m 3001 0).toNatClampNeg = nI L from by rw [e.2]; rfl]
  refine mz_goS mz_ks38 3 (c' := (if ((nI L) - 6) < (nI i) then 1588 else 27, [some (.ref 3000), some (.ref 0), some (.ref 65), some (.int (nI i))], [], m)) rfl ?_
  refine mz_ifF (show ¬ (((nI L) - 6) < (nI i)) from (sm_law hL (by omega) (by omega))) ?_
  refine mz_goS mz_ks38 2 (c' := (29, [some (.ref 3000), some (.ref 0), some (.ref 65), some (.int (nI i))], [.int (nI i), .ref 3000], m)) rfl ?_
  refine mz_arrS mz_ks38 (c' := (30, [some (.ref 3000), some (.ref 0), some (.ref 65), some (.int (nI i))], [.int (m 3000 ((nI i).toNatClampNeg))], m)) rfl (show mz_in (nI i) (m 3001 0).toNatClampNeg = true from by rw [e.2]; exact sm_inN rfl (show i < L by omega) (by omega)) ?_
  rw [show (nI i : Int32).toNatClampNeg = i from sm_clN rfl (show i < 2 ^ 31 by omega)]
  rw [show m 3000 i = xs i from e.1 _]
  refine mz_goS mz_ks38 2 (c' := (33, [some (.ref 3000), some (.ref 0), some (.ref 65), some (.int (nI i))], [.int ((xs i) &&& 63)], m)) rfl ?_
  rw [h]
  refine mz_goS mz_ks38 6 (c' := (1495, [some (.ref 3000), some (.ref 0), some (.ref 65), some (.int (nI i))], [.int ((nI i) + 1), .ref 3000, .ref 0], m)) rfl ?_
  refine mz_arrS mz_ks38 (c' := (1496, [some (.ref 3000), some (.ref 0), some (.ref 65), some (.int (nI i))], [.int (m 3000 (((nI i) + 1).toNatClampNeg)), .ref 0], m)) rfl (show mz_in ((nI i) + 1) (m 3001 0).toNatClampNeg = true from by rw [e.2]; exact sm_inN (sm_addN rfl rfl) (show (i + 1) < L by omega) (by omega)) ?_
  rw [show ((nI i) + 1 : Int32).toNatClampNeg = (i + 1) from sm_clN (sm_addN rfl rfl) (show (i + 1) < 2 ^ 31 by omega)]
  rw [show m 3000 (i + 1) = xs (i + 1) from e.1 _]
  refine mz_doS mz_ks38 (R := mz_r105) (as := [.ref 0, .int (xs (i + 1))]) (rest := []) (r1 := some (.int v1)) (m1 := m1) rfl h1 ?_
  refine mz_goS mz_ks38 5 (c' := (1504, [some (.ref 3000), some (.ref 0), some (.ref 65), some (.int (nI i))], [.int ((nI i) + 1), .ref 3000, .ref 65, .int v1], m1)) rfl ?_
  refine mz_arrS mz_ks38 (c' := (1505, [some (.ref 3000), some (.ref 0), some (.ref 65), some (.int (nI i))], [.int (m1 3000 (((nI i) + 1).toNatClampNeg)), .ref 65, .int v1], m1)) rfl (show mz_in ((nI i) + 1) (m1 3001 0).toNatClampNeg = true from by rw [e1.2]; exact sm_inN (sm_addN rfl rfl) (show (i + 1) < L by omega) (by omega)) ?_
  rw [show ((nI i) + 1 : Int32).toNatClampNeg = (i + 1) from sm_clN (sm_addN rfl rfl) (show (i + 1) < 2 ^ 31 by omega)]
  rw [show m1 3000 (i + 1) = xs (i + 1) from e1.1 _]
  refine mz_doS mz_ks38 (R := mz_r226) (as := [.ref 65, .int (xs (i + 1))]) (rest := [.int v1]) (r1 := some (.int v2)) (m1 := m2) rfl h2 ?_
  refine mz_goS mz_ks38 1 (c' := (if v1 = v2 then 1582 else 1511, [some (.ref 3000), some (.ref 0), some (.ref 65), some (.int (nI i))], [], m2)) rfl ?_
  refine mz_ifT hv ?_
  refine mz_goS mz_ks38 2 (c' := (18, [some (.ref 3000), some (.ref 0), some (.ref 65), some (.int ((nI i) + 6))], [], m2)) rfl ?_
  exact hr
set_option maxHeartbeats 4000000 in
set_option maxRecDepth 100000 in
theorem lwc_check {xs : Nat → Int32} {L i j : Nat} (hL : L ≤ 384) (hi : i + 6 ≤ L) {m : mz_M} (hj : j < 64) (hI : sm_I j m) (e : (∀ k, m 3000 k = xs k) ∧ (m 3001 0).toNatClampNeg = L) (h : xs i &&& 63 = 39) : ∃ m2, sm_I (j + 1) m2 ∧ ((∀ k, m2 3000 k = xs k) ∧ (m2 3001 0).toNatClampNeg = L) ∧ ∀ r, mz_Ex 101 mz_kL (18, [some (.ref 3000), some (.ref 0), some (.ref 65), some (.int ((nI i) + 6))], [], m2) r → mz_Ex 101 mz_kL (18, [some (.ref 3000), some (.ref 0), some (.ref 65), some (.int (nI i))], [], m) r := by
  obtain ⟨v1, v2, m1, m2, h1, h2, h3⟩ := sc_check hj hI (xs (i + 1))
  have e1 := lw_eL h1 e
  have e2 := lw_eL h2 e1
  refine ⟨m2, h3, e2, fun r hr => ?_⟩
  refine mz_goS mz_ks39 3 (c' := (21, [some (.ref 3000), some (.ref 0), some (.ref 65), some (.int (nI i))], [.int (Int32.ofNat (m 3001 0).toNatClampNeg), .int (nI i)], m)) rfl ?_
  rw [show Int32.ofNat (m 3001 0).toNatClampNeg = nI L from by rw [e.2]; rfl]
  refine mz_goS mz_ks39 3 (c' := (if ((nI L) - 6) < (nI i) then 1588 else 27, [some (.ref 3000), some (.ref 0), some (.ref 65), some (.int (nI i))], [], m)) rfl ?_
  refine mz_ifF (show ¬ (((nI L) - 6) < (nI i)) from (sm_law hL (by omega) (by omega))) ?_
  refine mz_goS mz_ks39 2 (c' := (29, [some (.ref 3000), some (.ref 0), some (.ref 65), some (.int (nI i))], [.int (nI i), .ref 3000], m)) rfl ?_
  refine mz_arrS mz_ks39 (c' := (30, [some (.ref 3000), some (.ref 0), some (.ref 65), some (.int (nI i))], [.int (m 3000 ((nI i).toNatClampNeg))], m)) rfl (show mz_in (nI i) (m 3001 0).toNatClampNeg = true from by rw [e.2]; exact sm_inN rfl (show i < L by omega) (by omega)) ?_
  rw [show (nI i : Int32).toNatClampNeg = i from sm_clN rfl (show i < 2 ^ 31 by omega)]
  rw [show m 3000 i = xs i from e.1 _]
  refine mz_goS mz_ks39 2 (c' := (33, [some (.ref 3000), some (.ref 0), some (.ref 65), some (.int (nI i))], [.int ((xs i) &&& 63)], m)) rfl ?_
  rw [h]
  refine mz_goS mz_ks39 6 (c' := (1518, [some (.ref 3000), some (.ref 0), some (.ref 65), some (.int (nI i))], [.int ((nI i) + 1), .ref 3000, .ref 0], m)) rfl ?_
  refine mz_arrS mz_ks39 (c' := (1519, [some (.ref 3000), some (.ref 0), some (.ref 65), some (.int (nI i))], [.int (m 3000 (((nI i) + 1).toNatClampNeg)), .ref 0], m)) rfl (show mz_in ((nI i) + 1) (m 3001 0).toNatClampNeg = true from by rw [e.2]; exact sm_inN (sm_addN rfl rfl) (show (i + 1) < L by omega) (by omega)) ?_
  rw [show ((nI i) + 1 : Int32).toNatClampNeg = (i + 1) from sm_clN (sm_addN rfl rfl) (show (i + 1) < 2 ^ 31 by omega)]
  rw [show m 3000 (i + 1) = xs (i + 1) from e.1 _]
  refine mz_doS mz_ks39 (R := mz_r106) (as := [.ref 0, .int (xs (i + 1))]) (rest := []) (r1 := some (.int v1)) (m1 := m1) rfl h1 ?_
  refine mz_goS mz_ks39 6 (c' := (1528, [some (.ref 3000), some (.ref 0), some (.ref 65), some (.int (nI i))], [.int ((nI i) + 1), .ref 3000, .ref 65], m1)) rfl ?_
  refine mz_arrS mz_ks39 (c' := (1529, [some (.ref 3000), some (.ref 0), some (.ref 65), some (.int (nI i))], [.int (m1 3000 (((nI i) + 1).toNatClampNeg)), .ref 65], m1)) rfl (show mz_in ((nI i) + 1) (m1 3001 0).toNatClampNeg = true from by rw [e1.2]; exact sm_inN (sm_addN rfl rfl) (show (i + 1) < L by omega) (by omega)) ?_
  rw [show ((nI i) + 1 : Int32).toNatClampNeg = (i + 1) from sm_clN (sm_addN rfl rfl) (show (i + 1) < 2 ^ 31 by omega)]
  rw [show m1 3000 (i + 1) = xs (i + 1) from e1.1 _]
  refine mz_doS mz_ks39 (R := mz_r227) (as := [.ref 65, .int (xs (i + 1))]) (rest := []) (r1 := some (.int v2)) (m1 := m2) rfl h2 ?_
  refine mz_goS mz_ks39 4 (c' := (18, [some (.ref 3000), some (.ref 0), some (.ref 65), some (.int ((nI i) + 6))], [], m2)) rfl ?_
  exact hr
set_option maxHeartbeats 4000000 in
set_option maxRecDepth 100000 in
theorem lwc_count {xs : Nat → Int32} {L i j : Nat} (hL : L ≤ 384) (hi : i + 6 ≤ L) {m : mz_M} (hj : j < 64) (hI : sm_I j m) (e : (∀ k, m 3000 k = xs k) ∧ (m 3001 0).toNatClampNeg = L) (h : xs i &&& 63 = 40) : ∃ m2, sm_I (j + 1) m2 ∧ ((∀ k, m2 3000 k = xs k) ∧ (m2 3001 0).toNatClampNeg = L) ∧ ∀ r, mz_Ex 101 mz_kL (18, [some (.ref 3000), some (.ref 0), some (.ref 65), some (.int ((nI i) + 6))], [], m2) r → mz_Ex 101 mz_kL (18, [some (.ref 3000), some (.ref 0), some (.ref 65), some (.int (nI i))], [], m) r := by
  obtain ⟨v1, v2, m1, m2, h1, h2, h3⟩ := sc_count hj hI (xs (i + 1))
  have e1 := lw_eL h1 e
  have e2 := lw_eL h2 e1
  refine ⟨m2, h3, e2, fun r hr => ?_⟩
  refine mz_goS mz_ks40 3 (c' := (21, [some (.ref 3000), some (.ref 0), some (.ref 65), some (.int (nI i))], [.int (Int32.ofNat (m 3001 0).toNatClampNeg), .int (nI i)], m)) rfl ?_
  rw [show Int32.ofNat (m 3001 0).toNatClampNeg = nI L from by rw [e.2]; rfl]
  refine mz_goS mz_ks40 3 (c' := (if ((nI L) - 6) < (nI i) then 1588 else 27, [some (.ref 3000), some (.ref 0), some (.ref 65), some (.int (nI i))], [], m)) rfl ?_
  refine mz_ifF (show ¬ (((nI L) - 6) < (nI i)) from (sm_law hL (by omega) (by omega))) ?_
  refine mz_goS mz_ks40 2 (c' := (29, [some (.ref 3000), some (.ref 0), some (.ref 65), some (.int (nI i))], [.int (nI i), .ref 3000], m)) rfl ?_
  refine mz_arrS mz_ks40 (c' := (30, [some (.ref 3000), some (.ref 0), some (.ref 65), some (.int (nI i))], [.int (m 3000 ((nI i).toNatClampNeg))], m)) rfl (show mz_in (nI i) (m 3001 0).toNatClampNeg = true from by rw [e.2]; exact sm_inN rfl (show i < L by omega) (by omega)) ?_
  rw [show (nI i : Int32).toNatClampNeg = i from sm_clN rfl (show i < 2 ^ 31 by omega)]
  rw [show m 3000 i = xs i from e.1 _]
  refine mz_goS mz_ks40 2 (c' := (33, [some (.ref 3000), some (.ref 0), some (.ref 65), some (.int (nI i))], [.int ((xs i) &&& 63)], m)) rfl ?_
  rw [h]
  refine mz_goS mz_ks40 6 (c' := (1541, [some (.ref 3000), some (.ref 0), some (.ref 65), some (.int (nI i))], [.int ((nI i) + 1), .ref 3000, .ref 0], m)) rfl ?_
  refine mz_arrS mz_ks40 (c' := (1542, [some (.ref 3000), some (.ref 0), some (.ref 65), some (.int (nI i))], [.int (m 3000 (((nI i) + 1).toNatClampNeg)), .ref 0], m)) rfl (show mz_in ((nI i) + 1) (m 3001 0).toNatClampNeg = true from by rw [e.2]; exact sm_inN (sm_addN rfl rfl) (show (i + 1) < L by omega) (by omega)) ?_
  rw [show ((nI i) + 1 : Int32).toNatClampNeg = (i + 1) from sm_clN (sm_addN rfl rfl) (show (i + 1) < 2 ^ 31 by omega)]
  rw [show m 3000 (i + 1) = xs (i + 1) from e.1 _]
  refine mz_doS mz_ks40 (R := mz_r107) (as := [.ref 0, .int (xs (i + 1))]) (rest := []) (r1 := some (.int v1)) (m1 := m1) rfl h1 ?_
  refine mz_goS mz_ks40 6 (c' := (1551, [some (.ref 3000), some (.ref 0), some (.ref 65), some (.int (nI i))], [.int ((nI i) + 1), .ref 3000, .ref 65], m1)) rfl ?_
  refine mz_arrS mz_ks40 (c' := (1552, [some (.ref 3000), some (.ref 0), some (.ref 65), some (.int (nI i))], [.int (m1 3000 (((nI i) + 1).toNatClampNeg)), .ref 65], m1)) rfl (show mz_in ((nI i) + 1) (m1 3001 0).toNatClampNeg = true from by rw [e1.2]; exact sm_inN (sm_addN rfl rfl) (show (i + 1) < L by omega) (by omega)) ?_
  rw [show ((nI i) + 1 : Int32).toNatClampNeg = (i + 1) from sm_clN (sm_addN rfl rfl) (show (i + 1) < 2 ^ 31 by omega)]
  rw [show m1 3000 (i + 1) = xs (i + 1) from e1.1 _]
  refine mz_doS mz_ks40 (R := mz_r228) (as := [.ref 65, .int (xs (i + 1))]) (rest := []) (r1 := some (.int v2)) (m1 := m2) rfl h2 ?_
  refine mz_goS mz_ks40 4 (c' := (18, [some (.ref 3000), some (.ref 0), some (.ref 65), some (.int ((nI i) + 6))], [], m2)) rfl ?_
  exact hr
set_option maxHeartbeats 4000000 in
set_option maxRecDepth 100000 in
theorem lwc_told {xs : Nat → Int32} {L i j : Nat} (hL : L ≤ 384) (hi : i + 6 ≤ L) {m : mz_M} (hj : j < 64) (hI : sm_I j m) (e : (∀ k, m 3000 k = xs k) ∧ (m 3001 0).toNatClampNeg = L) (h : xs i &&& 63 = 41) : ∃ m2, sm_I (j + 1) m2 ∧ ((∀ k, m2 3000 k = xs k) ∧ (m2 3001 0).toNatClampNeg = L) ∧ ∀ r, mz_Ex 101 mz_kL (18, [some (.ref 3000), some (.ref 0), some (.ref 65), some (.int ((nI i) + 6))], [], m2) r → mz_Ex 101 mz_kL (18, [some (.ref 3000), some (.ref 0), some (.ref 65), some (.int (nI i))], [], m) r := by
  obtain ⟨v1, v2, m1, m2, h1, h2, h3⟩ := sc_told hj hI (xs (i + 1))
  have e1 := lw_eL h1 e
  have e2 := lw_eL h2 e1
  refine ⟨m2, h3, e2, fun r hr => ?_⟩
  refine mz_goS mz_ks41 3 (c' := (21, [some (.ref 3000), some (.ref 0), some (.ref 65), some (.int (nI i))], [.int (Int32.ofNat (m 3001 0).toNatClampNeg), .int (nI i)], m)) rfl ?_
  rw [show Int32.ofNat (m 3001 0).toNatClampNeg = nI L from by rw [e.2]; rfl]
  refine mz_goS mz_ks41 3 (c' := (if ((nI L) - 6) < (nI i) then 1588 else 27, [some (.ref 3000), some (.ref 0), some (.ref 65), some (.int (nI i))], [], m)) rfl ?_
  refine mz_ifF (show ¬ (((nI L) - 6) < (nI i)) from (sm_law hL (by omega) (by omega))) ?_
  refine mz_goS mz_ks41 2 (c' := (29, [some (.ref 3000), some (.ref 0), some (.ref 65), some (.int (nI i))], [.int (nI i), .ref 3000], m)) rfl ?_
  refine mz_arrS mz_ks41 (c' := (30, [some (.ref 3000), some (.ref 0), some (.ref 65), some (.int (nI i))], [.int (m 3000 ((nI i).toNatClampNeg))], m)) rfl (show mz_in (nI i) (m 3001 0).toNatClampNeg = true from by rw [e.2]; exact sm_inN rfl (show i < L by omega) (by omega)) ?_
  rw [show (nI i : Int32).toNatClampNeg = i from sm_clN rfl (show i < 2 ^ 31 by omega)]
  rw [show m 3000 i = xs i from e.1 _]
  refine mz_goS mz_ks41 2 (c' := (33, [some (.ref 3000), some (.ref 0), some (.ref 65), some (.int (nI i))], [.int ((xs i) &&& 63)], m)) rfl ?_
  rw [h]
  refine mz_goS mz_ks41 6 (c' := (1564, [some (.ref 3000), some (.ref 0), some (.ref 65), some (.int (nI i))], [.int ((nI i) + 1), .ref 3000, .ref 0], m)) rfl ?_
  refine mz_arrS mz_ks41 (c' := (1565, [some (.ref 3000), some (.ref 0), some (.ref 65), some (.int (nI i))], [.int (m 3000 (((nI i) + 1).toNatClampNeg)), .ref 0], m)) rfl (show mz_in ((nI i) + 1) (m 3001 0).toNatClampNeg = true from by rw [e.2]; exact sm_inN (sm_addN rfl rfl) (show (i + 1) < L by omega) (by omega)) ?_
  rw [show ((nI i) + 1 : Int32).toNatClampNeg = (i + 1) from sm_clN (sm_addN rfl rfl) (show (i + 1) < 2 ^ 31 by omega)]
  rw [show m 3000 (i + 1) = xs (i + 1) from e.1 _]
  refine mz_doS mz_ks41 (R := mz_r108) (as := [.ref 0, .int (xs (i + 1))]) (rest := []) (r1 := some (.int v1)) (m1 := m1) rfl h1 ?_
  refine mz_goS mz_ks41 6 (c' := (1574, [some (.ref 3000), some (.ref 0), some (.ref 65), some (.int (nI i))], [.int ((nI i) + 1), .ref 3000, .ref 65], m1)) rfl ?_
  refine mz_arrS mz_ks41 (c' := (1575, [some (.ref 3000), some (.ref 0), some (.ref 65), some (.int (nI i))], [.int (m1 3000 (((nI i) + 1).toNatClampNeg)), .ref 65], m1)) rfl (show mz_in ((nI i) + 1) (m1 3001 0).toNatClampNeg = true from by rw [e1.2]; exact sm_inN (sm_addN rfl rfl) (show (i + 1) < L by omega) (by omega)) ?_
  rw [show ((nI i) + 1 : Int32).toNatClampNeg = (i + 1) from sm_clN (sm_addN rfl rfl) (show (i + 1) < 2 ^ 31 by omega)]
  rw [show m1 3000 (i + 1) = xs (i + 1) from e1.1 _]
  refine mz_doS mz_ks41 (R := mz_r229) (as := [.ref 65, .int (xs (i + 1))]) (rest := []) (r1 := some (.int v2)) (m1 := m2) rfl h2 ?_
  refine mz_goS mz_ks41 4 (c' := (18, [some (.ref 3000), some (.ref 0), some (.ref 65), some (.int ((nI i) + 6))], [], m2)) rfl ?_
  exact hr
