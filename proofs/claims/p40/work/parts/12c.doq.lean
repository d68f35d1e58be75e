/-! a call's conditions one by one: the table's row, the receiver, the values -/
noncomputable def mz_cq (K : mz_K) (c : mz_C) : Option Nat := match mz_fetch K c.1 with
  | some e => match mz_step mz_S mz_T0 e.2.1 e.2.2.2 c.1 c.2.1 c.2.2.1 c.2.2.2 with
    | some (.inr (.inr a)) => some a
    | _ => none
  | none => none
/-- values of one place each -/
noncomputable def mz_i1 : List Value → Bool
  | [] => true
  | .int _ :: t => mz_i1 t
  | .ref _ :: t => mz_i1 t
  | .null :: t => mz_i1 t
  | _ => false
theorem mz_i1_cat : ∀ {S : List Value}, mz_i1 S = true → ∀ v ∈ S, v.category = 1
  | .int _ :: t, h, v, hv => by
    rcases List.mem_cons.mp hv with rfl | hv
    · rfl
    · exact mz_i1_cat (S := t) h v hv
  | .ref _ :: t, h, v, hv => by
    rcases List.mem_cons.mp hv with rfl | hv
    · rfl
    · exact mz_i1_cat (S := t) h v hv
  | .null :: t, h, v, hv => by
    rcases List.mem_cons.mp hv with rfl | hv
    · rfl
    · exact mz_i1_cat (S := t) h v hv
theorem mz_cat1 : ∀ {S : List Value}, (∀ v ∈ S, v.category = 1) → mz_cat S = S.length
  | [], _ => rfl
  | v :: t, h => by
    have h1 := h v (List.mem_cons_self ..)
    have h2 := mz_cat1 (S := t) (fun u hu => h u (List.mem_cons_of_mem _ hu))
    unfold mz_cat at h2 ⊢
    rw [List.map_cons, List.sum_cons, h2, h1, List.length_cons]
    omega
theorem mz_ent1 : ∀ {as : List Value} (n : Nat), (∀ v ∈ as, v.category = 1) → as.length ≤ n → (mz_ent as n).length = n := by
  intro as n h hn
  have e : ∀ as : List Value, (∀ v ∈ as, v.category = 1) → (as.flatMap fun v : Value => cond (v.category == 2) [some v, none] [some v]).length = as.length := by
    intro as
    induction as with
    | nil => intro _; rfl
    | cons v t ih =>
      intro h
      rw [List.flatMap_cons, List.length_append, ih (fun u hu => h u (List.mem_cons_of_mem _ hu)), h v (List.mem_cons_self ..), List.length_cons]
      show 1 + t.length = t.length + 1
      omega
  show (List.flatMap (fun v : Value => cond (v.category == 2) [some v, none] [some v]) as ++ List.replicate (n - (List.flatMap (fun v : Value => cond (v.category == 2) [some v, none] [some v]) as).length) none).length = n
  rw [List.length_append, List.length_replicate, e as h]
  omega
noncomputable def mz_sz (R : mz_R) (as rest : List Value) : Bool := Nat.beq as.length R.2.2.2.2.2.2.1 && Nat.ble rest.length 8 && Nat.ble as.length R.2.2.2.1
theorem mz_clq {K : mz_K} {R : mz_R} {pc : Nat} {L : List (Option Value)} {S as rest : List Value} {m : mz_M} {a : Nat} (hT : mz_T[a]? = some R) (hv : mz_rcv mz_S R as = true) (hq : mz_cq K (pc, L, S, m) = some a) (ha : (S.take R.2.2.2.2.2.2.1).reverse = as) (hr : S.drop R.2.2.2.2.2.2.1 = rest) (hi : mz_i1 S = true) (hs : mz_sz R as rest = true) : mz_cl K (pc, L, S, m) = some (R, as, rest) := by
  have hs1 : as.length = R.2.2.2.2.2.2.1 ∧ rest.length ≤ 8 ∧ as.length ≤ R.2.2.2.1 := by
    unfold mz_sz at hs
    simp only [Bool.and_eq_true] at hs
    exact ⟨Nat.eq_of_beq_eq_true hs.1.1, Nat.le_of_ble_eq_true hs.1.2, Nat.le_of_ble_eq_true hs.2⟩
  have hc1 := mz_i1_cat hi
  have hc : mz_cal mz_S R S = true := by
    unfold mz_cal
    rw [ha, hr, hv, mz_ent1 _ (fun v h => hc1 v (by
      rw [← ha] at h
      exact List.mem_of_mem_take (List.mem_reverse.mp h))) hs1.2.2, mz_cat1 (fun v h => hc1 v (by
      rw [← hr] at h
      exact List.mem_of_mem_drop h))]
    have h2 : R.2.2.2.2.2.2.1 ≤ S.length := by
      have h3 := hs1.1
      rw [← ha, List.length_reverse, List.length_take] at h3
      omega
    rw [decide_eq_true h2, decide_eq_true hs1.2.1, beq_self_eq_true]
    rfl
  unfold mz_cq at hq
  unfold mz_cl
  split at hq
  · rename_i e he
    split at hq
    · rename_i b hb
      cases hq
      simp only [he, hb, hT, hc, ha, hr, cond]
    · cases hq
  · cases hq
theorem mz_doQ {d : Nat} {K : mz_K} {r : Option Value × mz_M} {pc : Nat} {L : List (Option Value)} {S : List Value} {m : mz_M} {R : mz_R} {as rest : List Value} {r1 : Option Value} {m1 : mz_M} {a : Nat} (hT : mz_T[a]? = some R) (hv : mz_rcv mz_S R as = true) (hq : mz_cq K (pc, L, S, m) = some a) (ha : (S.take R.2.2.2.2.2.2.1).reverse = as) (hr : S.drop R.2.2.2.2.2.2.1 = rest) (hi : mz_i1 S = true) (hs : mz_sz R as rest = true) (hM : mz_Me d R as m r1 m1) (E : mz_Ex (d + 1) K (pc + 3, L, r1.toList ++ rest, m1) r) : mz_Ex (d + 1) K (pc, L, S, m) r := mz_do (mz_clq hT hv hq ha hr hi hs) hM E
theorem mz_t0 : mz_T[0]? = some mz_r0 := rfl
theorem mz_t1 : mz_T[1]? = some mz_r1 := rfl
theorem mz_t2 : mz_T[2]? = some mz_r2 := rfl
theorem mz_t3 : mz_T[3]? = some mz_r3 := rfl
theorem mz_t4 : mz_T[4]? = some mz_r4 := rfl
theorem mz_t5 : mz_T[5]? = some mz_r5 := rfl
theorem mz_t6 : mz_T[6]? = some mz_r6 := rfl
theorem mz_t7 : mz_T[7]? = some mz_r7 := rfl
theorem mz_t8 : mz_T[8]? = some mz_r8 := rfl
theorem mz_t9 : mz_T[9]? = some mz_r9 := rfl
theorem mz_t10 : mz_T[10]? = some mz_r10 := rfl
theorem mz_t11 : mz_T[11]? = some mz_r11 := rfl
theorem mz_t12 : mz_T[12]? = some mz_r12 := rfl
theorem mz_t13 : mz_T[13]? = some mz_r13 := rfl
theorem mz_t14 : mz_T[14]? = some mz_r14 := rfl
theorem mz_t15 : mz_T[15]? = some mz_r15 := rfl
theorem mz_t16 : mz_T[16]? = some mz_r16 := rfl
theorem mz_t17 : mz_T[17]? = some mz_r17 := rfl
theorem mz_t18 : mz_T[18]? = some mz_r18 := rfl
theorem mz_t19 : mz_T[19]? = some mz_r19 := rfl
theorem mz_t20 : mz_T[20]? = some mz_r20 := rfl
theorem mz_t21 : mz_T[21]? = some mz_r21 := rfl
theorem mz_t22 : mz_T[22]? = some mz_r22 := rfl
theorem mz_t23 : mz_T[23]? = some mz_r23 := rfl
theorem mz_t24 : mz_T[24]? = some mz_r24 := rfl
theorem mz_t25 : mz_T[25]? = some mz_r25 := rfl
theorem mz_t26 : mz_T[26]? = some mz_r26 := rfl
theorem mz_t27 : mz_T[27]? = some mz_r27 := rfl
theorem mz_t28 : mz_T[28]? = some mz_r28 := rfl
theorem mz_t29 : mz_T[29]? = some mz_r29 := rfl
theorem mz_t30 : mz_T[30]? = some mz_r30 := rfl
theorem mz_t31 : mz_T[31]? = some mz_r31 := rfl
theorem mz_t32 : mz_T[32]? = some mz_r32 := rfl
theorem mz_t33 : mz_T[33]? = some mz_r33 := rfl
theorem mz_t34 : mz_T[34]? = some mz_r34 := rfl
theorem mz_t35 : mz_T[35]? = some mz_r35 := rfl
theorem mz_t36 : mz_T[36]? = some mz_r36 := rfl
theorem mz_t37 : mz_T[37]? = some mz_r37 := rfl
theorem mz_t38 : mz_T[38]? = some mz_r38 := rfl
theorem mz_t39 : mz_T[39]? = some mz_r39 := rfl
theorem mz_t40 : mz_T[40]? = some mz_r40 := rfl
theorem mz_t41 : mz_T[41]? = some mz_r41 := rfl
theorem mz_t42 : mz_T[42]? = some mz_r42 := rfl
theorem mz_t43 : mz_T[43]? = some mz_r43 := rfl
theorem mz_t44 : mz_T[44]? = some mz_r44 := rfl
theorem mz_t45 : mz_T[45]? = some mz_r45 := rfl
theorem mz_t46 : mz_T[46]? = some mz_r46 := rfl
theorem mz_t47 : mz_T[47]? = some mz_r47 := rfl
theorem mz_t48 : mz_T[48]? = some mz_r48 := rfl
theorem mz_t49 : mz_T[49]? = some mz_r49 := rfl
theorem mz_t50 : mz_T[50]? = some mz_r50 := rfl
theorem mz_t51 : mz_T[51]? = some mz_r51 := rfl
theorem mz_t52 : mz_T[52]? = some mz_r52 := rfl
theorem mz_t53 : mz_T[53]? = some mz_r53 := rfl
theorem mz_t54 : mz_T[54]? = some mz_r54 := rfl
theorem mz_t55 : mz_T[55]? = some mz_r55 := rfl
theorem mz_t56 : mz_T[56]? = some mz_r56 := rfl
theorem mz_t57 : mz_T[57]? = some mz_r57 := rfl
theorem mz_t58 : mz_T[58]? = some mz_r58 := rfl
theorem mz_t59 : mz_T[59]? = some mz_r59 := rfl
theorem mz_t60 : mz_T[60]? = some mz_r60 := rfl
theorem mz_t61 : mz_T[61]? = some mz_r61 := rfl
theorem mz_t62 : mz_T[62]? = some mz_r62 := rfl
theorem mz_t63 : mz_T[63]? = some mz_r63 := rfl
theorem mz_t64 : mz_T[64]? = some mz_r64 := rfl
theorem mz_t65 : mz_T[65]? = some mz_r65 := rfl
theorem mz_t66 : mz_T[66]? = some mz_r66 := rfl
theorem mz_t109 : mz_T[109]? = some mz_r109 := rfl
theorem mz_t110 : mz_T[110]? = some mz_r110 := rfl
theorem mz_t111 : mz_T[111]? = some mz_r111 := rfl
theorem mz_t112 : mz_T[112]? = some mz_r112 := rfl
theorem mz_t113 : mz_T[113]? = some mz_r113 := rfl
theorem mz_t114 : mz_T[114]? = some mz_r114 := rfl
theorem mz_t115 : mz_T[115]? = some mz_r115 := rfl
theorem mz_t116 : mz_T[116]? = some mz_r116 := rfl
theorem mz_t117 : mz_T[117]? = some mz_r117 := rfl
theorem mz_t118 : mz_T[118]? = some mz_r118 := rfl
theorem mz_t119 : mz_T[119]? = some mz_r119 := rfl
theorem mz_t120 : mz_T[120]? = some mz_r120 := rfl
theorem mz_t121 : mz_T[121]? = some mz_r121 := rfl
theorem mz_t122 : mz_T[122]? = some mz_r122 := rfl
theorem mz_t123 : mz_T[123]? = some mz_r123 := rfl
theorem mz_t124 : mz_T[124]? = some mz_r124 := rfl
theorem mz_t125 : mz_T[125]? = some mz_r125 := rfl
theorem mz_t126 : mz_T[126]? = some mz_r126 := rfl
theorem mz_t127 : mz_T[127]? = some mz_r127 := rfl
theorem mz_t128 : mz_T[128]? = some mz_r128 := rfl
theorem mz_t129 : mz_T[129]? = some mz_r129 := rfl
theorem mz_t130 : mz_T[130]? = some mz_r130 := rfl
theorem mz_t131 : mz_T[131]? = some mz_r131 := rfl
theorem mz_t132 : mz_T[132]? = some mz_r132 := rfl
theorem mz_t133 : mz_T[133]? = some mz_r133 := rfl
theorem mz_t134 : mz_T[134]? = some mz_r134 := rfl
theorem mz_t135 : mz_T[135]? = some mz_r135 := rfl
theorem mz_t136 : mz_T[136]? = some mz_r136 := rfl
theorem mz_t142 : mz_T[142]? = some mz_r142 := rfl
theorem mz_t144 : mz_T[144]? = some mz_r144 := rfl
theorem mz_t145 : mz_T[145]? = some mz_r145 := rfl
theorem mz_t146 : mz_T[146]? = some mz_r146 := rfl
theorem mz_t147 : mz_T[147]? = some mz_r147 := rfl
theorem mz_t148 : mz_T[148]? = some mz_r148 := rfl
theorem mz_t149 : mz_T[149]? = some mz_r149 := rfl
theorem mz_t150 : mz_T[150]? = some mz_r150 := rfl
theorem mz_t151 : mz_T[151]? = some mz_r151 := rfl
theorem mz_t152 : mz_T[152]? = some mz_r152 := rfl
theorem mz_t153 : mz_T[153]? = some mz_r153 := rfl
theorem mz_t154 : mz_T[154]? = some mz_r154 := rfl
theorem mz_t155 : mz_T[155]? = some mz_r155 := rfl
theorem mz_t156 : mz_T[156]? = some mz_r156 := rfl
theorem mz_t159 : mz_T[159]? = some mz_r159 := rfl
theorem mz_t160 : mz_T[160]? = some mz_r160 := rfl
theorem mz_t161 : mz_T[161]? = some mz_r161 := rfl
theorem mz_t162 : mz_T[162]? = some mz_r162 := rfl
theorem mz_t163 : mz_T[163]? = some mz_r163 := rfl
theorem mz_t164 : mz_T[164]? = some mz_r164 := rfl
theorem mz_t165 : mz_T[165]? = some mz_r165 := rfl
theorem mz_t166 : mz_T[166]? = some mz_r166 := rfl
theorem mz_t167 : mz_T[167]? = some mz_r167 := rfl
theorem mz_t168 : mz_T[168]? = some mz_r168 := rfl
theorem mz_t169 : mz_T[169]? = some mz_r169 := rfl
theorem mz_t172 : mz_T[172]? = some mz_r172 := rfl
theorem mz_t173 : mz_T[173]? = some mz_r173 := rfl
theorem mz_t175 : mz_T[175]? = some mz_r175 := rfl
theorem mz_t183 : mz_T[183]? = some mz_r183 := rfl
theorem mz_t184 : mz_T[184]? = some mz_r184 := rfl
theorem mz_t185 : mz_T[185]? = some mz_r185 := rfl
theorem mz_t186 : mz_T[186]? = some mz_r186 := rfl
theorem mz_t187 : mz_T[187]? = some mz_r187 := rfl
theorem mz_t188 : mz_T[188]? = some mz_r188 := rfl
theorem mz_t189 : mz_T[189]? = some mz_r189 := rfl
theorem mz_t192 : mz_T[192]? = some mz_r192 := rfl
theorem mz_t193 : mz_T[193]? = some mz_r193 := rfl
theorem mz_t195 : mz_T[195]? = some mz_r195 := rfl
theorem mz_t196 : mz_T[196]? = some mz_r196 := rfl
theorem mz_t198 : mz_T[198]? = some mz_r198 := rfl
theorem mz_t203 : mz_T[203]? = some mz_r203 := rfl
theorem mz_t205 : mz_T[205]? = some mz_r205 := rfl
theorem mz_t209 : mz_T[209]? = some mz_r209 := rfl
theorem mz_t210 : mz_T[210]? = some mz_r210 := rfl
theorem mz_t211 : mz_T[211]? = some mz_r211 := rfl
theorem mz_t212 : mz_T[212]? = some mz_r212 := rfl
theorem mz_t213 : mz_T[213]? = some mz_r213 := rfl
theorem mz_t214 : mz_T[214]? = some mz_r214 := rfl
theorem mz_t215 : mz_T[215]? = some mz_r215 := rfl
theorem mz_t216 : mz_T[216]? = some mz_r216 := rfl
theorem mz_t219 : mz_T[219]? = some mz_r219 := rfl
theorem mz_t230 : mz_T[230]? = some mz_r230 := rfl
theorem mz_t231 : mz_T[231]? = some mz_r231 := rfl
theorem mz_t232 : mz_T[232]? = some mz_r232 := rfl
theorem mz_t233 : mz_T[233]? = some mz_r233 := rfl
theorem mz_t234 : mz_T[234]? = some mz_r234 := rfl
theorem mz_t235 : mz_T[235]? = some mz_r235 := rfl
theorem mz_t236 : mz_T[236]? = some mz_r236 := rfl
theorem mz_t237 : mz_T[237]? = some mz_r237 := rfl
theorem mz_v21_2 {t : List Value} : mz_rcv mz_S mz_r21 (.ref 2 :: t) = true := rfl
theorem mz_v24_2 {t : List Value} : mz_rcv mz_S mz_r24 (.ref 2 :: t) = true := rfl
theorem mz_v26_2 {t : List Value} : mz_rcv mz_S mz_r26 (.ref 2 :: t) = true := rfl
theorem mz_v121 {t : List Value} : mz_rcv mz_S mz_r121 t = true := rfl
theorem mz_v58 {t : List Value} : mz_rcv mz_S mz_r58 t = true := rfl
theorem mz_v123 {t : List Value} : mz_rcv mz_S mz_r123 t = true := rfl
theorem mz_v57_10 {t : List Value} : mz_rcv mz_S mz_r57 (.ref 10 :: t) = true := rfl
theorem mz_v122 {t : List Value} : mz_rcv mz_S mz_r122 t = true := rfl
theorem mz_v25_2 {t : List Value} : mz_rcv mz_S mz_r25 (.ref 2 :: t) = true := rfl
theorem mz_v57_13 {t : List Value} : mz_rcv mz_S mz_r57 (.ref 13 :: t) = true := rfl
theorem mz_v42_49 {t : List Value} : mz_rcv mz_S mz_r42 (.ref 49 :: t) = true := rfl
theorem mz_v41 {t : List Value} : mz_rcv mz_S mz_r41 t = true := rfl
theorem mz_v43_49 {t : List Value} : mz_rcv mz_S mz_r43 (.ref 49 :: t) = true := rfl
theorem mz_v39_19 {t : List Value} : mz_rcv mz_S mz_r39 (.ref 19 :: t) = true := rfl
theorem mz_v39_50 {t : List Value} : mz_rcv mz_S mz_r39 (.ref 50 :: t) = true := rfl
theorem mz_v38_49 {t : List Value} : mz_rcv mz_S mz_r38 (.ref 49 :: t) = true := rfl
theorem mz_v37_49 {t : List Value} : mz_rcv mz_S mz_r37 (.ref 49 :: t) = true := rfl
theorem mz_v0_50 {t : List Value} : mz_rcv mz_S mz_r0 (.ref 50 :: t) = true := rfl
theorem mz_v133_65 {t : List Value} : mz_rcv mz_S mz_r133 (.ref 65 :: t) = true := rfl
theorem mz_v129 {t : List Value} : mz_rcv mz_S mz_r129 t = true := rfl
theorem mz_v147_65 {t : List Value} : mz_rcv mz_S mz_r147 (.ref 65 :: t) = true := rfl
theorem mz_v134 {t : List Value} : mz_rcv mz_S mz_r134 t = true := rfl
theorem mz_v172 {t : List Value} : mz_rcv mz_S mz_r172 t = true := rfl
theorem mz_v169_65 {t : List Value} : mz_rcv mz_S mz_r169 (.ref 65 :: t) = true := rfl
theorem mz_v173_65 {t : List Value} : mz_rcv mz_S mz_r173 (.ref 65 :: t) = true := rfl
theorem mz_v130 {t : List Value} : mz_rcv mz_S mz_r130 t = true := rfl
theorem mz_v149_65 {t : List Value} : mz_rcv mz_S mz_r149 (.ref 65 :: t) = true := rfl
theorem mz_v148_65 {t : List Value} : mz_rcv mz_S mz_r148 (.ref 65 :: t) = true := rfl
theorem mz_v150_65 {t : List Value} : mz_rcv mz_S mz_r150 (.ref 65 :: t) = true := rfl
theorem mz_v151_65 {t : List Value} : mz_rcv mz_S mz_r151 (.ref 65 :: t) = true := rfl
theorem mz_v152_65 {t : List Value} : mz_rcv mz_S mz_r152 (.ref 65 :: t) = true := rfl
theorem mz_v153_65 {t : List Value} : mz_rcv mz_S mz_r153 (.ref 65 :: t) = true := rfl
theorem mz_v114 {t : List Value} : mz_rcv mz_S mz_r114 t = true := rfl
theorem mz_v128 {t : List Value} : mz_rcv mz_S mz_r128 t = true := rfl
theorem mz_v156_65 {t : List Value} : mz_rcv mz_S mz_r156 (.ref 65 :: t) = true := rfl
theorem mz_v109_0 {t : List Value} : mz_rcv mz_S mz_r109 (.ref 0 :: t) = true := rfl
theorem mz_v127_65 {t : List Value} : mz_rcv mz_S mz_r127 (.ref 65 :: t) = true := rfl
theorem mz_v117 {t : List Value} : mz_rcv mz_S mz_r117 t = true := rfl
theorem mz_v175 {t : List Value} : mz_rcv mz_S mz_r175 t = true := rfl
theorem mz_v116 {t : List Value} : mz_rcv mz_S mz_r116 t = true := rfl
theorem mz_v131 {t : List Value} : mz_rcv mz_S mz_r131 t = true := rfl
theorem mz_v0_19 {t : List Value} : mz_rcv mz_S mz_r0 (.ref 19 :: t) = true := rfl
theorem mz_v144_65 {t : List Value} : mz_rcv mz_S mz_r144 (.ref 65 :: t) = true := rfl
theorem mz_v146_65 {t : List Value} : mz_rcv mz_S mz_r146 (.ref 65 :: t) = true := rfl
theorem mz_v2_20 {t : List Value} : mz_rcv mz_S mz_r2 (.ref 20 :: t) = true := rfl
theorem mz_v185_65 {t : List Value} : mz_rcv mz_S mz_r185 (.ref 65 :: t) = true := rfl
theorem mz_v183_65 {t : List Value} : mz_rcv mz_S mz_r183 (.ref 65 :: t) = true := rfl
theorem mz_v4_20 {t : List Value} : mz_rcv mz_S mz_r4 (.ref 20 :: t) = true := rfl
theorem mz_v187_65 {t : List Value} : mz_rcv mz_S mz_r187 (.ref 65 :: t) = true := rfl
theorem mz_v184_65 {t : List Value} : mz_rcv mz_S mz_r184 (.ref 65 :: t) = true := rfl
theorem mz_v7_20 {t : List Value} : mz_rcv mz_S mz_r7 (.ref 20 :: t) = true := rfl
theorem mz_v186_65 {t : List Value} : mz_rcv mz_S mz_r186 (.ref 65 :: t) = true := rfl
theorem mz_v145_65 {t : List Value} : mz_rcv mz_S mz_r145 (.ref 65 :: t) = true := rfl
theorem mz_v36_49 {t : List Value} : mz_rcv mz_S mz_r36 (.ref 49 :: t) = true := rfl
theorem mz_v154_65 {t : List Value} : mz_rcv mz_S mz_r154 (.ref 65 :: t) = true := rfl
theorem mz_v155_65 {t : List Value} : mz_rcv mz_S mz_r155 (.ref 65 :: t) = true := rfl
theorem mz_v132_65 {t : List Value} : mz_rcv mz_S mz_r132 (.ref 65 :: t) = true := rfl
theorem mz_v40_49 {t : List Value} : mz_rcv mz_S mz_r40 (.ref 49 :: t) = true := rfl
theorem mz_v115 {t : List Value} : mz_rcv mz_S mz_r115 t = true := rfl
theorem mz_v119 {t : List Value} : mz_rcv mz_S mz_r119 t = true := rfl
theorem mz_v52_1 {t : List Value} : mz_rcv mz_S mz_r52 (.ref 1 :: t) = true := rfl
theorem mz_v118 {t : List Value} : mz_rcv mz_S mz_r118 t = true := rfl
theorem mz_v188 {t : List Value} : mz_rcv mz_S mz_r188 t = true := rfl
theorem mz_v3_20 {t : List Value} : mz_rcv mz_S mz_r3 (.ref 20 :: t) = true := rfl
theorem mz_v142 {t : List Value} : mz_rcv mz_S mz_r142 t = true := rfl
theorem mz_v113 {t : List Value} : mz_rcv mz_S mz_r113 t = true := rfl
theorem mz_v135 {t : List Value} : mz_rcv mz_S mz_r135 t = true := rfl
theorem mz_v22_2 {t : List Value} : mz_rcv mz_S mz_r22 (.ref 2 :: t) = true := rfl
theorem mz_v23_2 {t : List Value} : mz_rcv mz_S mz_r23 (.ref 2 :: t) = true := rfl
theorem mz_v136_65 {t : List Value} : mz_rcv mz_S mz_r136 (.ref 65 :: t) = true := rfl
theorem mz_v45_60 {t : List Value} : mz_rcv mz_S mz_r45 (.ref 60 :: t) = true := rfl
theorem mz_v219 {t : List Value} : mz_rcv mz_S mz_r219 t = true := rfl
theorem mz_v47_60 {t : List Value} : mz_rcv mz_S mz_r47 (.ref 60 :: t) = true := rfl
theorem mz_v13_20 {t : List Value} : mz_rcv mz_S mz_r13 (.ref 20 :: t) = true := rfl
theorem mz_v10_20 {t : List Value} : mz_rcv mz_S mz_r10 (.ref 20 :: t) = true := rfl
theorem mz_v12_20 {t : List Value} : mz_rcv mz_S mz_r12 (.ref 20 :: t) = true := rfl
theorem mz_v8_20 {t : List Value} : mz_rcv mz_S mz_r8 (.ref 20 :: t) = true := rfl
theorem mz_v16_20 {t : List Value} : mz_rcv mz_S mz_r16 (.ref 20 :: t) = true := rfl
theorem mz_v19_20 {t : List Value} : mz_rcv mz_S mz_r19 (.ref 20 :: t) = true := rfl
theorem mz_v9_20 {t : List Value} : mz_rcv mz_S mz_r9 (.ref 20 :: t) = true := rfl
theorem mz_v17_20 {t : List Value} : mz_rcv mz_S mz_r17 (.ref 20 :: t) = true := rfl
theorem mz_v14_20 {t : List Value} : mz_rcv mz_S mz_r14 (.ref 20 :: t) = true := rfl
theorem mz_v15_20 {t : List Value} : mz_rcv mz_S mz_r15 (.ref 20 :: t) = true := rfl
theorem mz_v110_0 {t : List Value} : mz_rcv mz_S mz_r110 (.ref 0 :: t) = true := rfl
theorem mz_v18_20 {t : List Value} : mz_rcv mz_S mz_r18 (.ref 20 :: t) = true := rfl
theorem mz_v124 {t : List Value} : mz_rcv mz_S mz_r124 t = true := rfl
theorem mz_v57_16 {t : List Value} : mz_rcv mz_S mz_r57 (.ref 16 :: t) = true := rfl
theorem mz_v44_49 {t : List Value} : mz_rcv mz_S mz_r44 (.ref 49 :: t) = true := rfl
theorem mz_v195_65 {t : List Value} : mz_rcv mz_S mz_r195 (.ref 65 :: t) = true := rfl
theorem mz_v192_65 {t : List Value} : mz_rcv mz_S mz_r192 (.ref 65 :: t) = true := rfl
theorem mz_v193_65 {t : List Value} : mz_rcv mz_S mz_r193 (.ref 65 :: t) = true := rfl
theorem mz_v196_65 {t : List Value} : mz_rcv mz_S mz_r196 (.ref 65 :: t) = true := rfl
theorem mz_v189_65 {t : List Value} : mz_rcv mz_S mz_r189 (.ref 65 :: t) = true := rfl
theorem mz_v198_65 {t : List Value} : mz_rcv mz_S mz_r198 (.ref 65 :: t) = true := rfl
theorem mz_v203_65 {t : List Value} : mz_rcv mz_S mz_r203 (.ref 65 :: t) = true := rfl
theorem mz_v53_25 {t : List Value} : mz_rcv mz_S mz_r53 (.ref 25 :: t) = true := rfl
theorem mz_v27_26 {t : List Value} : mz_rcv mz_S mz_r27 (.ref 26 :: t) = true := rfl
theorem mz_v126_3 {t : List Value} : mz_rcv mz_S mz_r126 (.ref 3 :: t) = true := rfl
theorem mz_v126_4 {t : List Value} : mz_rcv mz_S mz_r126 (.ref 4 :: t) = true := rfl
theorem mz_v126_5 {t : List Value} : mz_rcv mz_S mz_r126 (.ref 5 :: t) = true := rfl
theorem mz_v126_6 {t : List Value} : mz_rcv mz_S mz_r126 (.ref 6 :: t) = true := rfl
theorem mz_v126_7 {t : List Value} : mz_rcv mz_S mz_r126 (.ref 7 :: t) = true := rfl
theorem mz_v55_32 {t : List Value} : mz_rcv mz_S mz_r55 (.ref 32 :: t) = true := rfl
theorem mz_v126_9 {t : List Value} : mz_rcv mz_S mz_r126 (.ref 9 :: t) = true := rfl
theorem mz_v59_34 {t : List Value} : mz_rcv mz_S mz_r59 (.ref 34 :: t) = true := rfl
theorem mz_v126_11 {t : List Value} : mz_rcv mz_S mz_r126 (.ref 11 :: t) = true := rfl
theorem mz_v126_12 {t : List Value} : mz_rcv mz_S mz_r126 (.ref 12 :: t) = true := rfl
theorem mz_v59_37 {t : List Value} : mz_rcv mz_S mz_r59 (.ref 37 :: t) = true := rfl
theorem mz_v126_14 {t : List Value} : mz_rcv mz_S mz_r126 (.ref 14 :: t) = true := rfl
theorem mz_v126_15 {t : List Value} : mz_rcv mz_S mz_r126 (.ref 15 :: t) = true := rfl
theorem mz_v59_40 {t : List Value} : mz_rcv mz_S mz_r59 (.ref 40 :: t) = true := rfl
theorem mz_v126_17 {t : List Value} : mz_rcv mz_S mz_r126 (.ref 17 :: t) = true := rfl
theorem mz_v126_18 {t : List Value} : mz_rcv mz_S mz_r126 (.ref 18 :: t) = true := rfl
theorem mz_v1_43 {t : List Value} : mz_rcv mz_S mz_r1 (.ref 43 :: t) = true := rfl
theorem mz_v20_44 {t : List Value} : mz_rcv mz_S mz_r20 (.ref 44 :: t) = true := rfl
theorem mz_v5_44 {t : List Value} : mz_rcv mz_S mz_r5 (.ref 44 :: t) = true := rfl
theorem mz_v126_21 {t : List Value} : mz_rcv mz_S mz_r126 (.ref 21 :: t) = true := rfl
theorem mz_v126_22 {t : List Value} : mz_rcv mz_S mz_r126 (.ref 22 :: t) = true := rfl
theorem mz_v126_23 {t : List Value} : mz_rcv mz_S mz_r126 (.ref 23 :: t) = true := rfl
theorem mz_v126_24 {t : List Value} : mz_rcv mz_S mz_r126 (.ref 24 :: t) = true := rfl
theorem mz_v53_1 {t : List Value} : mz_rcv mz_S mz_r53 (.ref 1 :: t) = true := rfl
theorem mz_v27_2 {t : List Value} : mz_rcv mz_S mz_r27 (.ref 2 :: t) = true := rfl
theorem mz_v126_27 {t : List Value} : mz_rcv mz_S mz_r126 (.ref 27 :: t) = true := rfl
theorem mz_v126_28 {t : List Value} : mz_rcv mz_S mz_r126 (.ref 28 :: t) = true := rfl
theorem mz_v126_29 {t : List Value} : mz_rcv mz_S mz_r126 (.ref 29 :: t) = true := rfl
theorem mz_v126_30 {t : List Value} : mz_rcv mz_S mz_r126 (.ref 30 :: t) = true := rfl
theorem mz_v126_31 {t : List Value} : mz_rcv mz_S mz_r126 (.ref 31 :: t) = true := rfl
theorem mz_v55_8 {t : List Value} : mz_rcv mz_S mz_r55 (.ref 8 :: t) = true := rfl
theorem mz_v126_33 {t : List Value} : mz_rcv mz_S mz_r126 (.ref 33 :: t) = true := rfl
theorem mz_v59_10 {t : List Value} : mz_rcv mz_S mz_r59 (.ref 10 :: t) = true := rfl
theorem mz_v126_35 {t : List Value} : mz_rcv mz_S mz_r126 (.ref 35 :: t) = true := rfl
theorem mz_v126_36 {t : List Value} : mz_rcv mz_S mz_r126 (.ref 36 :: t) = true := rfl
theorem mz_v59_13 {t : List Value} : mz_rcv mz_S mz_r59 (.ref 13 :: t) = true := rfl
theorem mz_v126_38 {t : List Value} : mz_rcv mz_S mz_r126 (.ref 38 :: t) = true := rfl
theorem mz_v126_39 {t : List Value} : mz_rcv mz_S mz_r126 (.ref 39 :: t) = true := rfl
theorem mz_v59_16 {t : List Value} : mz_rcv mz_S mz_r59 (.ref 16 :: t) = true := rfl
theorem mz_v126_41 {t : List Value} : mz_rcv mz_S mz_r126 (.ref 41 :: t) = true := rfl
theorem mz_v126_42 {t : List Value} : mz_rcv mz_S mz_r126 (.ref 42 :: t) = true := rfl
theorem mz_v1_19 {t : List Value} : mz_rcv mz_S mz_r1 (.ref 19 :: t) = true := rfl
theorem mz_v20_20 {t : List Value} : mz_rcv mz_S mz_r20 (.ref 20 :: t) = true := rfl
theorem mz_v5_20 {t : List Value} : mz_rcv mz_S mz_r5 (.ref 20 :: t) = true := rfl
theorem mz_v126_45 {t : List Value} : mz_rcv mz_S mz_r126 (.ref 45 :: t) = true := rfl
theorem mz_v126_46 {t : List Value} : mz_rcv mz_S mz_r126 (.ref 46 :: t) = true := rfl
theorem mz_v126_47 {t : List Value} : mz_rcv mz_S mz_r126 (.ref 47 :: t) = true := rfl
theorem mz_v126_48 {t : List Value} : mz_rcv mz_S mz_r126 (.ref 48 :: t) = true := rfl
theorem mz_v46_60 {t : List Value} : mz_rcv mz_S mz_r46 (.ref 60 :: t) = true := rfl
theorem mz_v50_60 {t : List Value} : mz_rcv mz_S mz_r50 (.ref 60 :: t) = true := rfl
theorem mz_v48_60 {t : List Value} : mz_rcv mz_S mz_r48 (.ref 60 :: t) = true := rfl
theorem mz_v51_60 {t : List Value} : mz_rcv mz_S mz_r51 (.ref 60 :: t) = true := rfl
theorem mz_v6_20 {t : List Value} : mz_rcv mz_S mz_r6 (.ref 20 :: t) = true := rfl
theorem mz_v11_20 {t : List Value} : mz_rcv mz_S mz_r11 (.ref 20 :: t) = true := rfl
theorem mz_v111_0 {t : List Value} : mz_rcv mz_S mz_r111 (.ref 0 :: t) = true := rfl
theorem mz_v205_65 {t : List Value} : mz_rcv mz_S mz_r205 (.ref 65 :: t) = true := rfl
theorem mz_v125_23 {t : List Value} : mz_rcv mz_S mz_r125 (.ref 23 :: t) = true := rfl
theorem mz_v49_60 {t : List Value} : mz_rcv mz_S mz_r49 (.ref 60 :: t) = true := rfl
theorem mz_v112_0 {t : List Value} : mz_rcv mz_S mz_r112 (.ref 0 :: t) = true := rfl
theorem mz_v54_8 {t : List Value} : mz_rcv mz_S mz_r54 (.ref 8 :: t) = true := rfl
theorem mz_v35 {t : List Value} : mz_rcv mz_S mz_r35 t = true := rfl
theorem mz_v56_54 {t : List Value} : mz_rcv mz_S mz_r56 (.ref 54 :: t) = true := rfl
theorem mz_v231_2001 {t : List Value} : mz_rcv mz_S mz_r231 (.ref 2001 :: t) = true := rfl
theorem mz_v232_2001 {t : List Value} : mz_rcv mz_S mz_r232 (.ref 2001 :: t) = true := rfl
theorem mz_v233_2001 {t : List Value} : mz_rcv mz_S mz_r233 (.ref 2001 :: t) = true := rfl
theorem mz_v234_2001 {t : List Value} : mz_rcv mz_S mz_r234 (.ref 2001 :: t) = true := rfl
theorem mz_v235_2101 {t : List Value} : mz_rcv mz_S mz_r235 (.ref 2101 :: t) = true := rfl
theorem mz_v236 {t : List Value} : mz_rcv mz_S mz_r236 t = true := rfl
theorem mz_v237_2101 {t : List Value} : mz_rcv mz_S mz_r237 (.ref 2101 :: t) = true := rfl
theorem mz_v231_2002 {t : List Value} : mz_rcv mz_S mz_r231 (.ref 2002 :: t) = true := rfl
theorem mz_v232_2002 {t : List Value} : mz_rcv mz_S mz_r232 (.ref 2002 :: t) = true := rfl
theorem mz_v233_2002 {t : List Value} : mz_rcv mz_S mz_r233 (.ref 2002 :: t) = true := rfl
theorem mz_v234_2002 {t : List Value} : mz_rcv mz_S mz_r234 (.ref 2002 :: t) = true := rfl
theorem mz_v235_2102 {t : List Value} : mz_rcv mz_S mz_r235 (.ref 2102 :: t) = true := rfl
theorem mz_v237_2102 {t : List Value} : mz_rcv mz_S mz_r237 (.ref 2102 :: t) = true := rfl
theorem mz_v231_2003 {t : List Value} : mz_rcv mz_S mz_r231 (.ref 2003 :: t) = true := rfl
theorem mz_v232_2003 {t : List Value} : mz_rcv mz_S mz_r232 (.ref 2003 :: t) = true := rfl
theorem mz_v233_2003 {t : List Value} : mz_rcv mz_S mz_r233 (.ref 2003 :: t) = true := rfl
theorem mz_v234_2003 {t : List Value} : mz_rcv mz_S mz_r234 (.ref 2003 :: t) = true := rfl
theorem mz_v235_2103 {t : List Value} : mz_rcv mz_S mz_r235 (.ref 2103 :: t) = true := rfl
theorem mz_v237_2103 {t : List Value} : mz_rcv mz_S mz_r237 (.ref 2103 :: t) = true := rfl
theorem mz_v230_2001 {t : List Value} : mz_rcv mz_S mz_r230 (.ref 2001 :: t) = true := rfl
theorem mz_v230_2002 {t : List Value} : mz_rcv mz_S mz_r230 (.ref 2002 :: t) = true := rfl
theorem mz_v230_2003 {t : List Value} : mz_rcv mz_S mz_r230 (.ref 2003 :: t) = true := rfl
theorem mz_v33_53 {t : List Value} : mz_rcv mz_S mz_r33 (.ref 53 :: t) = true := rfl
theorem mz_v29_53 {t : List Value} : mz_rcv mz_S mz_r29 (.ref 53 :: t) = true := rfl
theorem mz_v32_53 {t : List Value} : mz_rcv mz_S mz_r32 (.ref 53 :: t) = true := rfl
theorem mz_v31_53 {t : List Value} : mz_rcv mz_S mz_r31 (.ref 53 :: t) = true := rfl
theorem mz_v34_53 {t : List Value} : mz_rcv mz_S mz_r34 (.ref 53 :: t) = true := rfl
theorem mz_v30 {t : List Value} : mz_rcv mz_S mz_r30 t = true := rfl
theorem mz_v159_65 {t : List Value} : mz_rcv mz_S mz_r159 (.ref 65 :: t) = true := rfl
theorem mz_v161_65 {t : List Value} : mz_rcv mz_S mz_r161 (.ref 65 :: t) = true := rfl
theorem mz_v160_65 {t : List Value} : mz_rcv mz_S mz_r160 (.ref 65 :: t) = true := rfl
theorem mz_v167_65 {t : List Value} : mz_rcv mz_S mz_r167 (.ref 65 :: t) = true := rfl
theorem mz_v162_65 {t : List Value} : mz_rcv mz_S mz_r162 (.ref 65 :: t) = true := rfl
theorem mz_v168_65 {t : List Value} : mz_rcv mz_S mz_r168 (.ref 65 :: t) = true := rfl
theorem mz_v163_65 {t : List Value} : mz_rcv mz_S mz_r163 (.ref 65 :: t) = true := rfl
theorem mz_v164_65 {t : List Value} : mz_rcv mz_S mz_r164 (.ref 65 :: t) = true := rfl
theorem mz_v165_65 {t : List Value} : mz_rcv mz_S mz_r165 (.ref 65 :: t) = true := rfl
theorem mz_v166_65 {t : List Value} : mz_rcv mz_S mz_r166 (.ref 65 :: t) = true := rfl
theorem mz_v120 {t : List Value} : mz_rcv mz_S mz_r120 t = true := rfl
theorem mz_v28_53 {t : List Value} : mz_rcv mz_S mz_r28 (.ref 53 :: t) = true := rfl
theorem mz_v126_55 {t : List Value} : mz_rcv mz_S mz_r126 (.ref 55 :: t) = true := rfl
theorem mz_v126_56 {t : List Value} : mz_rcv mz_S mz_r126 (.ref 56 :: t) = true := rfl
theorem mz_v66 {t : List Value} : mz_rcv mz_S mz_r66 t = true := rfl
theorem mz_v65 {t : List Value} : mz_rcv mz_S mz_r65 t = true := rfl
theorem mz_v63_57 {t : List Value} : mz_rcv mz_S mz_r63 (.ref 57 :: t) = true := rfl
theorem mz_v62_57 {t : List Value} : mz_rcv mz_S mz_r62 (.ref 57 :: t) = true := rfl
theorem mz_v64_57 {t : List Value} : mz_rcv mz_S mz_r64 (.ref 57 :: t) = true := rfl
theorem mz_v209_65 {t : List Value} : mz_rcv mz_S mz_r209 (.ref 65 :: t) = true := rfl
theorem mz_v212_65 {t : List Value} : mz_rcv mz_S mz_r212 (.ref 65 :: t) = true := rfl
theorem mz_v210 {t : List Value} : mz_rcv mz_S mz_r210 t = true := rfl
theorem mz_v213_65 {t : List Value} : mz_rcv mz_S mz_r213 (.ref 65 :: t) = true := rfl
theorem mz_v211_65 {t : List Value} : mz_rcv mz_S mz_r211 (.ref 65 :: t) = true := rfl
theorem mz_v214_65 {t : List Value} : mz_rcv mz_S mz_r214 (.ref 65 :: t) = true := rfl
theorem mz_v215_65 {t : List Value} : mz_rcv mz_S mz_r215 (.ref 65 :: t) = true := rfl
theorem mz_v216_65 {t : List Value} : mz_rcv mz_S mz_r216 (.ref 65 :: t) = true := rfl
theorem mz_v60_57 {t : List Value} : mz_rcv mz_S mz_r60 (.ref 57 :: t) = true := rfl
theorem mz_v61_57 {t : List Value} : mz_rcv mz_S mz_r61 (.ref 57 :: t) = true := rfl
theorem mz_v126_59 {t : List Value} : mz_rcv mz_S mz_r126 (.ref 59 :: t) = true := rfl
