set_option maxHeartbeats 4000000 in
set_option maxRecDepth 100000 in
theorem cs_step50 {m : mz_M} {N : Nat} (hw : sm_W m N) {fi : Int32} (hfi : fi = 1 ∨ fi = 2 ∨ fi = 4) (hx : sm_B 1600 (m 50 0)) (hy : sm_B 1600 (m 50 1)) : ∃ r f g, sm_like r (sm_tick m fi (m 50)) ∧ mz_Me 30 mz_r38 [.ref 49, .ref 50, .int fi] m none (mz_set (mz_set (mz_set m 50 r) 51 f) 52 g) := by
  have hw2 := hw
  obtain ⟨hN, h4, hb, hx0, hx1⟩ := hw
  have hcn := sm_cntN hN h4
  have hf : ¬ fi = 0 := by
    rcases hfi with rfl | rfl | rfl <;> decide
  have hmx : sm_max 1 fi = fi := by
    rcases hfi with rfl | rfl | rfl <;> decide
  obtain ⟨r', f', g', o6, o7, o8, o9, hh, E1⟩ := cs_stepl50 hw2 hx hy hf fi (u := m 50 2) (v := m 50 3) (t := m 50 4) N 0 (by omega) (m 50) (m 51) (m 52) none none none none rfl rfl rfl rfl rfl
  have hid : mz_set (mz_set (mz_set m 50 (m 50)) 51 (m 51)) 52 (m 52) = m := by rw [sm_id, sm_id, sm_id]
  rw [hid] at E1
  obtain ⟨p1, hp1⟩ : ∃ p, (sm_uv m fi (m 50 0) (m 50 1) (m 50 2) (m 50 3) (m 50 4) N).1 = p := ⟨_, rfl⟩
  obtain ⟨p2, hp2⟩ : ∃ p, (sm_uv m fi (m 50 0) (m 50 1) (m 50 2) (m 50 3) (m 50 4) N).2 = p := ⟨_, rfl⟩
  have hh2 : r' 2 = p1 := hh.2.2.2.1.trans hp1
  have hh3 : r' 3 = p2 := hh.2.2.2.2.trans hp2
  obtain ⟨gu, hgu⟩ : ∃ p, sm_gu m fi (m 50) = p := ⟨_, rfl⟩
  obtain ⟨gv, hgv⟩ : ∃ p, sm_gv m fi (m 50) = p := ⟨_, rfl⟩
  have egu : p1 - (m 50 0 * m 7 0 / 1600 / fi) = gu := by
    rw [← hgu, ← hp1, ← hcn]
    rfl
  have egv : p2 - (m 50 1 * m 7 0 / 1600 / fi) = gv := by
    rw [← hgv, ← hp2, ← hcn]
    rfl
  obtain ⟨rb, hrb⟩ : ∃ p, sm_rb m fi (m 50) = p := ⟨_, rfl⟩
  obtain ⟨ru, eru⟩ : ∃ p, gu - (gu * rb / 100 / fi) = p := ⟨_, rfl⟩
  obtain ⟨rv, erv⟩ : ∃ p, gv - (gv * rb / 100 / fi) = p := ⟨_, rfl⟩
  obtain ⟨f3, g3, E3⟩ := cw_rub50 (m := mz_up (mz_up (mz_set (mz_set (mz_set m 50 r') 51 f') 52 g') 50 2 gu) 50 3 gv) (w := m) (sm_Wl_u (by decide) (sm_Wl_u (by decide) (sm_Wl_s (by decide) (sm_Wl_s (by decide) (sm_Wl_s (by decide) (sm_Wl_r m)))))) hw2
  replace E3 : mz_Me 20 mz_r43 [.ref 49, .ref 50] (mz_up (mz_up (mz_set (mz_set (mz_set m 50 r') 51 f') 52 g') 50 2 gu) 50 3 gv) (some (.int (sm_rub m (r' 0) (r' 1) gu gv (r' 4)))) (mz_set (mz_set (mz_up (mz_up (mz_set (mz_set (mz_set m 50 r') 51 f') 52 g') 50 2 gu) 50 3 gv) 51 f3) 52 g3) := E3
  have E3e : sm_rub m (r' 0) (r' 1) gu gv (r' 4) = rb := by
    rw [hh.1, hh.2.1, hh.2.2.1, ← hrb, ← hgu, ← hgv]
    rfl
  rw [E3e] at E3
  have g0 : sm_tick m fi (m 50) = fun k => if k = 4 then m 50 4 + 1 else sm_gof fi (sm_bob (m 50 0) (m 50 1) ru rv (m 50 4)) k := by
    unfold sm_tick sm_ru
    rw [hrb, hgu, hgv, eru, erv]
  refine ⟨(mz_up (mz_set (mz_up (mz_up (mz_set (mz_set (mz_up (mz_up (mz_set (mz_set (mz_set m 50 r') 51 f') 52 g') 50 2 gu) 50 3 gv) 51 f3) 52 g3) 50 2 ru) 50 3 rv) 50 (sm_gof fi ((mz_up (mz_up (mz_set (mz_set (mz_up (mz_up (mz_set (mz_set (mz_set m 50 r') 51 f') 52 g') 50 2 gu) 50 3 gv) 51 f3) 52 g3) 50 2 ru) 50 3 rv) 50))) 50 4 (((sm_gof fi ((mz_up (mz_up (mz_set (mz_set (mz_up (mz_up (mz_set (mz_set (mz_set m 50 r') 51 f') 52 g') 50 2 gu) 50 3 gv) 51 f3) 52 g3) 50 2 ru) 50 3 rv) 50)) 4) + 1)) 50, (mz_up (mz_set (mz_up (mz_up (mz_set (mz_set (mz_up (mz_up (mz_set (mz_set (mz_set m 50 r') 51 f') 52 g') 50 2 gu) 50 3 gv) 51 f3) 52 g3) 50 2 ru) 50 3 rv) 50 (sm_gof fi ((mz_up (mz_up (mz_set (mz_set (mz_up (mz_up (mz_set (mz_set (mz_set m 50 r') 51 f') 52 g') 50 2 gu) 50 3 gv) 51 f3) 52 g3) 50 2 ru) 50 3 rv) 50))) 50 4 (((sm_gof fi ((mz_up (mz_up (mz_set (mz_set (mz_up (mz_up (mz_set (mz_set (mz_set m 50 r') 51 f') 52 g') 50 2 gu) 50 3 gv) 51 f3) 52 g3) 50 2 ru) 50 3 rv) 50)) 4) + 1)) 51, (mz_up (mz_set (mz_up (mz_up (mz_set (mz_set (mz_up (mz_up (mz_set (mz_set (mz_set m 50 r') 51 f') 52 g') 50 2 gu) 50 3 gv) 51 f3) 52 g3) 50 2 ru) 50 3 rv) 50 (sm_gof fi ((mz_up (mz_up (mz_set (mz_set (mz_up (mz_up (mz_set (mz_set (mz_set m 50 r') 51 f') 52 g') 50 2 gu) 50 3 gv) 51 f3) 52 g3) 50 2 ru) 50 3 rv) 50))) 50 4 (((sm_gof fi ((mz_up (mz_up (mz_set (mz_set (mz_up (mz_up (mz_set (mz_set (mz_set m 50 r') 51 f') 52 g') 50 2 gu) 50 3 gv) 51 f3) 52 g3) 50 2 ru) 50 3 rv) 50)) 4) + 1)) 52, ?_, ?_⟩
  · rw [g0, sm_up_set, mz_set_eq]
    exact sm_tk (R := (mz_up (mz_up (mz_set (mz_set (mz_up (mz_up (mz_set (mz_set (mz_set m 50 r') 51 f') 52 g') 50 2 gu) 50 3 gv) 51 f3) 52 g3) 50 2 ru) 50 3 rv) 50) hh.1 hh.2.1 rfl rfl hh.2.2.1
  · rw [← sm_of3 (m := m) (m' := mz_up (mz_set (mz_up (mz_up (mz_set (mz_set (mz_up (mz_up (mz_set (mz_set (mz_set m 50 r') 51 f') 52 g') 50 2 gu) 50 3 gv) 51 f3) 52 g3) 50 2 ru) 50 3 rv) 50 (sm_gof fi ((mz_up (mz_up (mz_set (mz_set (mz_up (mz_up (mz_set (mz_set (mz_set m 50 r') 51 f') 52 g') 50 2 gu) 50 3 gv) 51 f3) 52 g3) 50 2 ru) 50 3 rv) 50))) 50 4 (((sm_gof fi ((mz_up (mz_up (mz_set (mz_set (mz_up (mz_up (mz_set (mz_set (mz_set m 50 r') 51 f') 52 g') 50 2 gu) 50 3 gv) 51 f3) 52 g3) 50 2 ru) 50 3 rv) 50)) 4) + 1)) (fun i h1 h2 h3 => by simp only [mz_up_ne h1, mz_set_ne h1, mz_set_ne h2, mz_set_ne h3])]
    refine ⟨?_, rfl⟩
    refine mz_go 3 (c' := (5, [some (.ref 49), some (.ref 50), some (.int fi), none, none, none, none, none, none, none], [.int (sm_max 1 fi)], m)) rfl ?_
    rw [hmx]
    refine mz_go 7 (c' := (18, [some (.ref 49), some (.ref 50), some (.int fi), some (.int fi), some (.ref 2), some (.int 0), none, none, none, none], [], m)) rfl ?_
    refine E1 _ ?_
    refine mz_go 9 (c' := (194, [some (.ref 49), some (.ref 50), some (.int fi), some (.int fi), some (.ref 2), some (.int (m 7 0)), o6, o7, o8, o9], [.int (r' 2), .ref 50], mz_set (mz_set (mz_set m 50 r') 51 f') 52 g')) rfl ?_
    rw [hh2]
    refine mz_go 2 (c' := (198, [some (.ref 49), some (.ref 50), some (.int fi), some (.int fi), some (.ref 2), some (.int (m 7 0)), o6, o7, o8, o9], [.int (r' 0), .int p1, .ref 50], mz_set (mz_set (mz_set m 50 r') 51 f') 52 g')) rfl ?_
    rw [hh.1]
    refine mz_go 5 (c' := (206, [some (.ref 49), some (.ref 50), some (.int fi), some (.int fi), some (.ref 2), some (.int (m 7 0)), o6, o7, o8, o9], [.int fi, .int (((m 50 0) * (m 7 0)) / 1600), .int p1, .ref 50], mz_set (mz_set (mz_set m 50 r') 51 f') 52 g')) rfl ?_
    refine mz_div (c' := (207, [some (.ref 49), some (.ref 50), some (.int fi), some (.int fi), some (.ref 2), some (.int (m 7 0)), o6, o7, o8, o9], [.int ((((m 50 0) * (m 7 0)) / 1600) / fi), .int p1, .ref 50], mz_set (mz_set (mz_set m 50 r') 51 f') 52 g')) rfl hf ?_
    refine mz_go 1 (c' := (208, [some (.ref 49), some (.ref 50), some (.int fi), some (.int fi), some (.ref 2), some (.int (m 7 0)), o6, o7, o8, o9], [.int (p1 - ((((m 50 0) * (m 7 0)) / 1600) / fi)), .ref 50], mz_set (mz_set (mz_set m 50 r') 51 f') 52 g')) rfl ?_
    rw [egu]
    refine mz_go 4 (c' := (216, [some (.ref 49), some (.ref 50), some (.int fi), some (.int fi), some (.ref 2), some (.int (m 7 0)), o6, o7, o8, o9], [.int (r' 3), .ref 50], mz_up (mz_set (mz_set (mz_set m 50 r') 51 f') 52 g') 50 2 gu)) rfl ?_
    rw [hh3]
    refine mz_go 2 (c' := (220, [some (.ref 49), some (.ref 50), some (.int fi), some (.int fi), some (.ref 2), some (.int (m 7 0)), o6, o7, o8, o9], [.int (r' 1), .int p2, .ref 50], mz_up (mz_set (mz_set (mz_set m 50 r') 51 f') 52 g') 50 2 gu)) rfl ?_
    rw [hh.2.1]
    refine mz_go 5 (c' := (228, [some (.ref 49), some (.ref 50), some (.int fi), some (.int fi), some (.ref 2), some (.int (m 7 0)), o6, o7, o8, o9], [.int fi, .int (((m 50 1) * (m 7 0)) / 1600), .int p2, .ref 50], mz_up (mz_set (mz_set (mz_set m 50 r') 51 f') 52 g') 50 2 gu)) rfl ?_
    refine mz_div (c' := (229, [some (.ref 49), some (.ref 50), some (.int fi), some (.int fi), some (.ref 2), some (.int (m 7 0)), o6, o7, o8, o9], [.int ((((m 50 1) * (m 7 0)) / 1600) / fi), .int p2, .ref 50], mz_up (mz_set (mz_set (mz_set m 50 r') 51 f') 52 g') 50 2 gu)) rfl hf ?_
    refine mz_go 1 (c' := (230, [some (.ref 49), some (.ref 50), some (.int fi), some (.int fi), some (.ref 2), some (.int (m 7 0)), o6, o7, o8, o9], [.int (p2 - ((((m 50 1) * (m 7 0)) / 1600) / fi)), .ref 50], mz_up (mz_set (mz_set (mz_set m 50 r') 51 f') 52 g') 50 2 gu)) rfl ?_
    rw [egv]
    refine mz_go 3 (c' := (235, [some (.ref 49), some (.ref 50), some (.int fi), some (.int fi), some (.ref 2), some (.int (m 7 0)), o6, o7, o8, o9], [.ref 50, .ref 49], mz_up (mz_up (mz_set (mz_set (mz_set m 50 r') 51 f') 52 g') 50 2 gu) 50 3 gv)) rfl ?_
    refine mz_doQ (R := mz_r43) (as := [.ref 49, .ref 50]) (rest := []) (r1 := some (.int rb)) (m1 := mz_set (mz_set (mz_up (mz_up (mz_set (mz_set (mz_set m 50 r') 51 f') 52 g') 50 2 gu) 50 3 gv) 51 f3) 52 g3) mz_t43 mz_v43_49 rfl rfl rfl rfl rfl (E3.deep (by decide)) ?_
    refine mz_go 11 (c' := (256, [some (.ref 49), some (.ref 50), some (.int fi), some (.int fi), some (.ref 2), some (.int (m 7 0)), some (.int rb), o7, o8, o9], [.int fi, .int ((gu * rb) / 100), .int gu, .ref 50], mz_set (mz_set (mz_up (mz_up (mz_set (mz_set (mz_set m 50 r') 51 f') 52 g') 50 2 gu) 50 3 gv) 51 f3) 52 g3)) rfl ?_
    refine mz_div (c' := (257, [some (.ref 49), some (.ref 50), some (.int fi), some (.int fi), some (.ref 2), some (.int (m 7 0)), some (.int rb), o7, o8, o9], [.int (((gu * rb) / 100) / fi), .int gu, .ref 50], mz_set (mz_set (mz_up (mz_up (mz_set (mz_set (mz_set m 50 r') 51 f') 52 g') 50 2 gu) 50 3 gv) 51 f3) 52 g3)) rfl hf ?_
    refine mz_go 1 (c' := (258, [some (.ref 49), some (.ref 50), some (.int fi), some (.int fi), some (.ref 2), some (.int (m 7 0)), some (.int rb), o7, o8, o9], [.int (gu - (((gu * rb) / 100) / fi)), .ref 50], mz_set (mz_set (mz_up (mz_up (mz_set (mz_set (mz_set m 50 r') 51 f') 52 g') 50 2 gu) 50 3 gv) 51 f3) 52 g3)) rfl ?_
    rw [eru]
    refine mz_go 11 (c' := (277, [some (.ref 49), some (.ref 50), some (.int fi), some (.int fi), some (.ref 2), some (.int (m 7 0)), some (.int rb), o7, o8, o9], [.int fi, .int ((gv * rb) / 100), .int gv, .ref 50], mz_up (mz_set (mz_set (mz_up (mz_up (mz_set (mz_set (mz_set m 50 r') 51 f') 52 g') 50 2 gu) 50 3 gv) 51 f3) 52 g3) 50 2 ru)) rfl ?_
    refine mz_div (c' := (278, [some (.ref 49), some (.ref 50), some (.int fi), some (.int fi), some (.ref 2), some (.int (m 7 0)), some (.int rb), o7, o8, o9], [.int (((gv * rb) / 100) / fi), .int gv, .ref 50], mz_up (mz_set (mz_set (mz_up (mz_up (mz_set (mz_set (mz_set m 50 r') 51 f') 52 g') 50 2 gu) 50 3 gv) 51 f3) 52 g3) 50 2 ru)) rfl hf ?_
    refine mz_go 1 (c' := (279, [some (.ref 49), some (.ref 50), some (.int fi), some (.int fi), some (.ref 2), some (.int (m 7 0)), some (.int rb), o7, o8, o9], [.int (gv - (((gv * rb) / 100) / fi)), .ref 50], mz_up (mz_set (mz_set (mz_up (mz_up (mz_set (mz_set (mz_set m 50 r') 51 f') 52 g') 50 2 gu) 50 3 gv) 51 f3) 52 g3) 50 2 ru)) rfl ?_
    rw [erv]
    refine mz_go 3 (c' := (284, [some (.ref 49), some (.ref 50), some (.int fi), some (.int fi), some (.ref 2), some (.int (m 7 0)), some (.int rb), o7, o8, o9], [.int fi, .ref 50], mz_up (mz_up (mz_set (mz_set (mz_up (mz_up (mz_set (mz_set (mz_set m 50 r') 51 f') 52 g') 50 2 gu) 50 3 gv) 51 f3) 52 g3) 50 2 ru) 50 3 rv)) rfl ?_
    refine mz_doQ (R := mz_r39) (as := [.ref 50, .int fi]) (rest := []) (r1 := none) (m1 := mz_set (mz_up (mz_up (mz_set (mz_set (mz_up (mz_up (mz_set (mz_set (mz_set m 50 r') 51 f') 52 g') 50 2 gu) 50 3 gv) 51 f3) 52 g3) 50 2 ru) 50 3 rv) 50 (sm_gof fi ((mz_up (mz_up (mz_set (mz_set (mz_up (mz_up (mz_set (mz_set (mz_set m 50 r') 51 f') 52 g') 50 2 gu) 50 3 gv) 51 f3) 52 g3) 50 2 ru) 50 3 rv) 50))) mz_t39 mz_v39_50 rfl rfl rfl rfl rfl ((cs_go50 hf).deep (by decide)) ?_
    refine mz_go 6 (c' := (297, [some (.ref 49), some (.ref 50), some (.int fi), some (.int fi), some (.ref 2), some (.int (m 7 0)), some (.int rb), o7, o8, o9], [], mz_up (mz_set (mz_up (mz_up (mz_set (mz_set (mz_up (mz_up (mz_set (mz_set (mz_set m 50 r') 51 f') 52 g') 50 2 gu) 50 3 gv) 51 f3) 52 g3) 50 2 ru) 50 3 rv) 50 (sm_gof fi ((mz_up (mz_up (mz_set (mz_set (mz_up (mz_up (mz_set (mz_set (mz_set m 50 r') 51 f') 52 g') 50 2 gu) 50 3 gv) 51 f3) 52 g3) 50 2 ru) 50 3 rv) 50))) 50 4 (((sm_gof fi ((mz_up (mz_up (mz_set (mz_set (mz_up (mz_up (mz_set (mz_set (mz_set m 50 r') 51 f') 52 g') 50 2 gu) 50 3 gv) 51 f3) 52 g3) 50 2 ru) 50 3 rv) 50)) 4) + 1))) rfl ?_
    exact mz_ret rfl
theorem cw_step50 {m w : mz_M} (hl : sm_Wl m w) {N : Nat} (hw : sm_W w N) {fi : Int32} (hfi : fi = 1 ∨ fi = 2 ∨ fi = 4) (hx : sm_B 1600 (m 50 0)) (hy : sm_B 1600 (m 50 1)) : ∃ r f g, sm_like r (sm_tick w fi (m 50)) ∧ mz_Me 30 mz_r38 [.ref 49, .ref 50, .int fi] m none (mz_set (mz_set (mz_set m 50 r) 51 f) 52 g) := by
  rw [← sm_tick_of hl]
  exact cs_step50 (sm_W_of hl hw) hfi hx hy
