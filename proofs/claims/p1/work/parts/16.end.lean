set_option maxHeartbeats 4000000 in
set_option maxRecDepth 100000 in
theorem lwc_picture {xs : Nat → Int32} (h : xs 0 &&& 63 = 18) : ∃ m', mz_Ex 101 mz_kL (lw_c xs 6) (some (.int 1), m') := by
  obtain ⟨v, m1, m2, h1, h2⟩ := p1_picture xs 6 (xs 1) (xs 2) (xs 3) (xs 4)
  have e1 := lw_e h1 (lw_e0 xs)
  have e2 := lw_e h2 e1
  refine ⟨m2, ?_⟩
  refine mz_go 3 (c' := (21, [some (.ref 3000), some (.ref 0), some (.ref 65), some (.int 0)], [.int 6, .int 0], (mz_i xs 6))) rfl ?_
  refine mz_go 8 (c' := (33, [some (.ref 3000), some (.ref 0), some (.ref 65), some (.int 0)], [.int ((xs 0) &&& 63)], (mz_i xs 6))) rfl ?_
  rw [h]
  refine mz_go 22 (c' := (871, [some (.ref 3000), some (.ref 0), some (.ref 65), some (.int 0)], [.int (xs 4), .int (xs 3), .int (xs 2), .int (xs 1), .ref 0], (mz_i xs 6))) rfl ?_
  refine mz_do (R := mz_r85) (as := [.ref 0, .int (xs 1), .int (xs 2), .int (xs 3), .int (xs 4)]) (rest := []) (r1 := some (.int v)) (m1 := m1) rfl h1 ?_
  refine mz_go 5 (c' := (879, [some (.ref 3000), some (.ref 0), some (.ref 65), some (.int 0)], [.int 1, .ref 3000, .ref 65, .int v], m1)) rfl ?_
  refine mz_arr (c' := (880, [some (.ref 3000), some (.ref 0), some (.ref 65), some (.int 0)], [.int (m1 3000 1), .ref 65, .int v], m1)) rfl (show mz_in 1 (m1 3001 0).toNatClampNeg = true by rw [e1.2]; rfl) ?_
  refine mz_go 4 (c' := (884, [some (.ref 3000), some (.ref 0), some (.ref 65), some (.int 0)], [.int 2, .ref 3000, .int (m1 3000 1), .ref 65, .int v], m1)) rfl ?_
  refine mz_arr (c' := (885, [some (.ref 3000), some (.ref 0), some (.ref 65), some (.int 0)], [.int (m1 3000 2), .int (m1 3000 1), .ref 65, .int v], m1)) rfl (show mz_in 2 (m1 3001 0).toNatClampNeg = true by rw [e1.2]; rfl) ?_
  refine mz_go 4 (c' := (889, [some (.ref 3000), some (.ref 0), some (.ref 65), some (.int 0)], [.int 3, .ref 3000, .int (m1 3000 2), .int (m1 3000 1), .ref 65, .int v], m1)) rfl ?_
  refine mz_arr (c' := (890, [some (.ref 3000), some (.ref 0), some (.ref 65), some (.int 0)], [.int (m1 3000 3), .int (m1 3000 2), .int (m1 3000 1), .ref 65, .int v], m1)) rfl (show mz_in 3 (m1 3001 0).toNatClampNeg = true by rw [e1.2]; rfl) ?_
  refine mz_go 4 (c' := (894, [some (.ref 3000), some (.ref 0), some (.ref 65), some (.int 0)], [.int 4, .ref 3000, .int (m1 3000 3), .int (m1 3000 2), .int (m1 3000 1), .ref 65, .int v], m1)) rfl ?_
  refine mz_arr (c' := (895, [some (.ref 3000), some (.ref 0), some (.ref 65), some (.int 0)], [.int (m1 3000 4), .int (m1 3000 3), .int (m1 3000 2), .int (m1 3000 1), .ref 65, .int v], m1)) rfl (show mz_in 4 (m1 3001 0).toNatClampNeg = true by rw [e1.2]; rfl) ?_
  refine mz_do (R := mz_r190) (as := [.ref 65, .int (m1 3000 1), .int (m1 3000 2), .int (m1 3000 3), .int (m1 3000 4)]) (rest := [.int v]) (r1 := some (.int v)) (m1 := m2) rfl (by simp only [e1.1]; exact h2) ?_
  refine mz_go 1 (c' := (if v = v then 1582 else 901, [some (.ref 3000), some (.ref 0), some (.ref 65), some (.int 0)], [], m2)) rfl ?_
  refine mz_ifT rfl ?_
  refine mz_go 5 (c' := (21, [some (.ref 3000), some (.ref 0), some (.ref 65), some (.int 6)], [.int (Int32.ofNat (m2 3001 0).toNatClampNeg), .int 6], m2)) rfl ?_
  rw [e2.2]
  show mz_Ex 101 mz_kL (21, [some (.ref 3000), some (.ref 0), some (.ref 65), some (.int 6)], [.int 6, .int 6], m2) _
  refine mz_go 4 (c' := (1589, [some (.ref 3000), some (.ref 0), some (.ref 65), some (.int 6)], [.int 1], m2)) rfl ?_
  exact mz_ret rfl
set_option maxHeartbeats 4000000 in
set_option maxRecDepth 100000 in
theorem lw_short {xs : Nat → Int32} {L : Nat} (h : L < 6) : ∃ m', mz_Ex 101 mz_kL (lw_c xs L) (some (.int 1), m') := by
  refine ⟨mz_i xs L, ?_⟩
  rcases (show L = 0 ∨ L = 1 ∨ L = 2 ∨ L = 3 ∨ L = 4 ∨ L = 5 by omega) with rfl | rfl | rfl | rfl | rfl | rfl
  · refine mz_go 3 (c' := (21, [some (.ref 3000), some (.ref 0), some (.ref 65), some (.int 0)], [.int 0, .int 0], mz_i xs 0)) rfl ?_
    refine mz_go 4 (c' := (1589, [some (.ref 3000), some (.ref 0), some (.ref 65), some (.int 0)], [.int 1], mz_i xs 0)) rfl ?_
    exact mz_ret rfl
  · refine mz_go 3 (c' := (21, [some (.ref 3000), some (.ref 0), some (.ref 65), some (.int 0)], [.int 1, .int 0], mz_i xs 1)) rfl ?_
    refine mz_go 4 (c' := (1589, [some (.ref 3000), some (.ref 0), some (.ref 65), some (.int 0)], [.int 1], mz_i xs 1)) rfl ?_
    exact mz_ret rfl
  · refine mz_go 3 (c' := (21, [some (.ref 3000), some (.ref 0), some (.ref 65), some (.int 0)], [.int 2, .int 0], mz_i xs 2)) rfl ?_
    refine mz_go 4 (c' := (1589, [some (.ref 3000), some (.ref 0), some (.ref 65), some (.int 0)], [.int 1], mz_i xs 2)) rfl ?_
    exact mz_ret rfl
  · refine mz_go 3 (c' := (21, [some (.ref 3000), some (.ref 0), some (.ref 65), some (.int 0)], [.int 3, .int 0], mz_i xs 3)) rfl ?_
    refine mz_go 4 (c' := (1589, [some (.ref 3000), some (.ref 0), some (.ref 65), some (.int 0)], [.int 1], mz_i xs 3)) rfl ?_
    exact mz_ret rfl
  · refine mz_go 3 (c' := (21, [some (.ref 3000), some (.ref 0), some (.ref 65), some (.int 0)], [.int 4, .int 0], mz_i xs 4)) rfl ?_
    refine mz_go 4 (c' := (1589, [some (.ref 3000), some (.ref 0), some (.ref 65), some (.int 0)], [.int 1], mz_i xs 4)) rfl ?_
    exact mz_ret rfl
  · refine mz_go 3 (c' := (21, [some (.ref 3000), some (.ref 0), some (.ref 65), some (.int 0)], [.int 5, .int 0], mz_i xs 5)) rfl ?_
    refine mz_go 4 (c' := (1589, [some (.ref 3000), some (.ref 0), some (.ref 65), some (.int 0)], [.int 1], mz_i xs 5)) rfl ?_
    exact mz_ret rfl
theorem lw_all (xs : Nat → Int32) (L : Nat) (hL : L ≤ 6) : ∃ m', mz_Ex 101 mz_kL (lw_c xs L) (some (.int 1), m') := by
  rcases Nat.lt_or_eq_of_le hL with h | rfl
  · exact lw_short h
  · obtain ⟨k, hk, e⟩ := lw_and (xs 0)
    rcases (show k = 0 ∨ k = 1 ∨ k = 2 ∨ k = 3 ∨ k = 4 ∨ k = 5 ∨ k = 6 ∨ k = 7 ∨ k = 8 ∨ k = 9 ∨ k = 10 ∨ k = 11 ∨ k = 12 ∨ k = 13 ∨ k = 14 ∨ k = 15 ∨ k = 16 ∨ k = 17 ∨ k = 18 ∨ k = 19 ∨ k = 20 ∨ k = 21 ∨ k = 22 ∨ k = 23 ∨ k = 24 ∨ k = 25 ∨ k = 26 ∨ k = 27 ∨ k = 28 ∨ k = 29 ∨ k = 30 ∨ k = 31 ∨ k = 32 ∨ k = 33 ∨ k = 34 ∨ k = 35 ∨ k = 36 ∨ k = 37 ∨ k = 38 ∨ k = 39 ∨ k = 40 ∨ k = 41 ∨ 42 ≤ k by omega) with rfl | rfl | rfl | rfl | rfl | rfl | rfl | rfl | rfl | rfl | rfl | rfl | rfl | rfl | rfl | rfl | rfl | rfl | rfl | rfl | rfl | rfl | rfl | rfl | rfl | rfl | rfl | rfl | rfl | rfl | rfl | rfl | rfl | rfl | rfl | rfl | rfl | rfl | rfl | rfl | rfl | rfl | h42
    · exact lwc_magnet e
    · exact lwc_magnetIs e
    · exact lwc_as e
    · exact lwc_shift e
    · exact lwc_takeOff e
    · exact lwc_rule e
    · exact lwc_nearest e
    · exact lwc_feed e
    · exact lwc_text e
    · exact lwc_untell e
    · exact lwc_let e
    · exact lwc_push e
    · exact lwc_tick e
    · exact lwc_bob e
    · exact lwc_ends e
    · exact lwc_length e
    · exact lwc_doubt e
    · exact lwc_holds e
    · exact lwc_picture e
    · exact lwc_cell e
    · exact lwc_share e
    · exact lwc_edge e
    · exact lwc_seen e
    · exact lwc_sure e
    · exact lwc_turned e
    · exact lwc_fair e
    · exact lwc_want e
    · exact lwc_throwsOf e
    · exact lwc_thrownAt e
    · exact lwc_seed e
    · exact lwc_voice e
    · exact lwc_body e
    · exact lwc_sheet e
    · exact lwc_put e
    · exact lwc_move e
    · exact lwc_magnets e
    · exact lwc_image e
    · exact lwc_restore e
    · exact lwc_tell e
    · exact lwc_check e
    · exact lwc_count e
    · exact lwc_told e
    · exact lwc_default e (by rw [nI_toInt (show k < 2 ^ 31 by omega)]; omega)
theorem whole_start {p : Program} {e : Env} {s : State} {m : MethodId} {below : List Frame} {meth : Method} {c : Code} (l : Launch) (hflags : l.flags = flags0) {b L : Nat} {xs : Nat → Int32} (hL : L ≤ 6) (C0 : lw_At p s m meth c b L xs) : W p l e room_1 s m #[Value.ref b] below meth c s.heap [] 0 0 (lw_Z below #[Value.ref b] s) (entryFrame m ([Value.ref b] : List Value).toArray 4) :=
  lw_go l hL C0 (lw_all xs L hL)
set_option maxHeartbeats 4000000 in
theorem lw_walk (l : Launch) (hflags : l.flags = flags0) (b : Addr) (xs : List Int32) : MetFree l x (headSpec (Jvm.Cond.code x code maxLocals ret :: tables_1) room_1) (lw_P b xs) (fun _ _ _ _ _ => True) lw_Q := by
  refine MetFree.of_bodyS (code := code) (maxLocals := maxLocals) (ret := ret) (by decide) ?_ ?_
  · intro args s m h hn
    obtain ⟨meth, c, h1, h2, h3, h4, h5, h6, -, -⟩ := Cond.code_spec hn (atoms_spec (ws := Jvm.Cond.code x code maxLocals ret :: tables_1) h _ List.mem_cons_self)
    exact ⟨meth, c, h1, h2, h3, h4, h5, h6⟩
  · intro p e s m args below meth c s₁ B hml0 hP _
    obtain ⟨rfl, hx, hbd, hgv⟩ := hP
    obtain ⟨scr, harrAt, hlist, hof, hsmall⟩ := hx
    obtain ⟨hcb, hkn, -, -⟩ := State.arrayAt?_spec harrAt
    have hown : s.vm.findClass R_law = some m.cls := findClass_of_methodNamed B.named
    have hts0 : ∀ c ∈ (Jvm.Cond.code x code maxLocals ret :: tables_1), c.before #[Value.ref b] s = true := atoms_spec (ws := Jvm.Cond.code x code maxLocals ret :: tables_1) B.pre
    have hts : ∀ w ∈ lw_tbl, w.before #[Value.ref b] s = true := k2_hts_sels lw_privs (fun w hw => hts0 w (List.mem_cons_of_mem _ hw)) lw_privs_ok
    have hml : c.maxLocals = 4 := B.maxLocals_eq (hts0 _ List.mem_cons_self)
    have X₀ : Stand p l e room_1 s m #[Value.ref b] below meth c s₁ [] 0 0 := Stand.of_body B
    have hh0 : s₁.heap = s.heap := by rw [B.state]; rfl
    have hsz : scr.slots.size = xs.length := by rw [← Array.length_toList, hlist, List.length_map]
    have hval : ∀ j : Nat, j < xs.length → scr.slots[j]? = some (.int (xs.getD j 0)) := fun j hj => by
      rw [← Array.getElem?_toList, hlist]
      simp [hj]
    have hbl : b < s.heap.size := (Array.getElem?_eq_some_iff.mp hcb).1
    have hX : va_X b xs.length (fun j => xs.getD j 0) s s.heap := ⟨scr, hcb, hof, hkn, hsz, hval⟩
    have K : W p l e room_1 s m #[Value.ref b] below meth c s₁.heap [] 0 0 (lw_Z below #[Value.ref b] s) (entryFrame m ([Value.ref b] : List Value).toArray 4) := by
      rw [hh0]
      exact whole_start l hflags hbd ⟨B.exec, B.bytes, B.returns, hml, hown, hts, hX, hbl, B.notSynchronized, hgv⟩
    obtain ⟨t, a1, o, b1, b2, b3⟩ := K s₁ rfl X₀
    exact ⟨t, o, a1, b1, b2, b3⟩
theorem lw_pre_spec {args : Array Value} {s : State} (h : (Jvm.Cond.and given_1 narrow_1).before args s = true) (hr : rest_1_c.before args s = true) : ∃ (b : Addr) (xs : List Int32), lw_P b xs args s := by
  have hs := flat_of_before _ h
  have hq := flat_of_before _ hr
  have hc : (Cond.count 1).before args s = true := hs _ (by decide +kernel)
  have harr : (Cond.arrayOf (.arg 0) .int).before args s = true := hs _ (by decide +kernel)
  have hle : (Cond.le (.length (.arg 0)) (.int 6)).before args s = true := hs _ (by decide +kernel)
  have hlen : (Cond.isInt (.length (.arg 0))).before args s = true := hq _ (by decide +kernel)
  have hall : (Cond.all (.arg 0) (.isInt (.elem (.arg 0) (.index 0)))).before args s = true := hq _ (by decide +kernel)
  obtain ⟨b, xs, hb, hx⟩ := State.ints_of_pre rfl harr hlen hall
  have hsm : xs.length < 2 ^ 31 := hx.choose_spec.2.2.2
  have hev : (Term.length (.arg 0)).eval args s none [] s = some (.int xs.length.toInt32) := hx.length_eval hb
  have hv := Cond.le_ints hev (show (Term.int 6).eval args s none [] s = some (.int 6) from rfl)
  have hd : xs.length.toInt32 ≤ 6 := by
    simpa [Cond.before, Cond.holds, hv] using hle
  have hN : xs.length ≤ 6 := (Int32.ofNat_le_ofNat hsm (by decide)).mp (show Int32.ofNat xs.length ≤ Int32.ofNat 6 from hd)
  exact ⟨b, xs, Cond.one_arg hc (show args[0]? = some (.ref b) from hb), hx, hN, h⟩
theorem lw_comes (l : Launch) (hflags : l.flags = flags0) : Comes l x (Jvm.Cond.code x code maxLocals ret :: tables_1) room_1 (fun tb e args s => Calls_1 tb e args s ∧ rest_1 tb e args s ∧ Pre_1 tb e args s)
    (fun _ _ args s o t => lw_Q args s o t) := by
  intro p e ha hc hk s m args below hf hfit hheap happ hpre
  obtain ⟨b, xs, hP⟩ := lw_pre_spec hpre.2.2 hpre.2.1
  obtain ⟨k, o, h1, h2, h3, hQ⟩ := lw_walk l hflags b xs p e ha hc hk s m args below hf ((Spec.applies_iff_loose hf).mp happ).1 hP trivial
  exact ⟨k, o, h1, h2, h3, hQ⟩
theorem lw_frame {s t : State} {o : Outcome} {args : Array Value} (h : Framed s o t [] 600000 7302250) :
    Framed s o t (fieldLocs frame_1_writes args s ++ arrayLocs frame_1_arrays args s ++ staticLocs frame_1_statics s) 600000 7302250 := h
theorem lw_limb (L : Cond) (hL : ∀ (args : Array Value) (s t : State), L.after args s (.returned (some (.int 1))) t = true) :
    ArmFor flags0 classFile x code maxLocals ret World_1 tables_1 room_1 Calls_1 rest_1 Pre_1
      (fun tb e a s o t => postC L tb e a s o t ∧ Framed s o t (fieldLocs frame_1_writes a s ++ arrayLocs frame_1_arrays a s ++ staticLocs frame_1_statics s) 600000 7302250) := by
  intro l hflags _ _ p e ha hc hk s m args below hf hfit hheap happ hpre
  obtain ⟨k, o, h1, h2, h3, rfl, hF⟩ := lw_comes l hflags p e ha hc hk s m args below hf hfit hheap happ hpre
  exact ⟨k, _, h1, h2, h3, hL args s _, lw_frame hF⟩
theorem i_vc : Claimed_1_1 ∧ Claimed_1_2 := ⟨lw_limb limb_1_1 (fun args s t => by simp [limb_1_1, Cond.after, Cond.holds, Cond.value]), lw_limb limb_1_2 (fun args s t => Cond.after_iff.mpr (by
  first | (rw [show limb_1_2 = Cond.eq .result (.int 1) from rfl, Cond.eq_ints (x := 1) (y := 1) rfl rfl]; simp; done) | (simp [limb_1_2, Cond.value, Term.eval]; done)))⟩

