set_option maxHeartbeats 4000000 in
set_option maxRecDepth 100000 in
theorem lw_exit {xs : Nat → Int32} {L j : Nat} (hL : L ≤ 384) (hj : j ≤ 64) {m : mz_M} (e : (∀ k, m 3000 k = xs k) ∧ (m 3001 0).toNatClampNeg = L) (hx : L < 6 * j + 6) : ∃ m', mz_Ex 101 mz_kL (18, [some (.ref 3000), some (.ref 0), some (.ref 65), some (.int (nI (6 * j)))], [], m) (some (.int 1), m') := by
  refine ⟨m, ?_⟩
  refine mz_go 3 (c' := (21, [some (.ref 3000), some (.ref 0), some (.ref 65), some (.int (nI (6 * j)))], [.int (Int32.ofNat (m 3001 0).toNatClampNeg), .int (nI (6 * j))], m)) rfl ?_
  rw [show Int32.ofNat (m 3001 0).toNatClampNeg = nI L from by rw [e.2]; rfl]
  refine mz_go 3 (c' := (if ((nI L) - 6) < (nI (6 * j)) then 1588 else 27, [some (.ref 3000), some (.ref 0), some (.ref 65), some (.int (nI (6 * j)))], [], m)) rfl ?_
  refine mz_ifT (show (((nI L) - 6) < (nI (6 * j))) from (sm_lawX hL hx (by omega))) ?_
  refine mz_go 1 (c' := (1589, [some (.ref 3000), some (.ref 0), some (.ref 65), some (.int (nI (6 * j)))], [.int 1], m)) rfl ?_
  exact mz_ret rfl
theorem lw_loop {xs : Nat → Int32} {L : Nat} (hL : L ≤ 384) : ∀ n j : Nat, j + n = 64 → ∀ m, sm_I j m → ((∀ k, m 3000 k = xs k) ∧ (m 3001 0).toNatClampNeg = L) → ∃ m', mz_Ex 101 mz_kL (18, [some (.ref 3000), some (.ref 0), some (.ref 65), some (.int (nI (6 * j)))], [], m) (some (.int 1), m') := by
  intro n
  induction n with
  | zero =>
    intro j hj m hI e
    exact lw_exit hL (by omega) e (by omega)
  | succ n ih =>
    intro j hj m hI e
    rcases Nat.lt_or_ge L (6 * j + 6) with hx | hx
    · exact lw_exit hL (by omega) e hx
    · have step : ∃ m2, sm_I (j + 1) m2 ∧ ((∀ k, m2 3000 k = xs k) ∧ (m2 3001 0).toNatClampNeg = L) ∧ ∀ r, mz_Ex 101 mz_kL (18, [some (.ref 3000), some (.ref 0), some (.ref 65), some (.int ((nI (6 * j)) + 6))], [], m2) r → mz_Ex 101 mz_kL (18, [some (.ref 3000), some (.ref 0), some (.ref 65), some (.int (nI (6 * j)))], [], m) r := by
        obtain ⟨k, hk, h⟩ := lw_and (xs (6 * j))
        rcases (show k = 0 ∨ k = 1 ∨ k = 2 ∨ k = 3 ∨ k = 4 ∨ k = 5 ∨ k = 6 ∨ k = 7 ∨ k = 8 ∨ k = 9 ∨ k = 10 ∨ k = 11 ∨ k = 12 ∨ k = 13 ∨ k = 14 ∨ k = 15 ∨ k = 16 ∨ k = 17 ∨ k = 18 ∨ k = 19 ∨ k = 20 ∨ k = 21 ∨ k = 22 ∨ k = 23 ∨ k = 24 ∨ k = 25 ∨ k = 26 ∨ k = 27 ∨ k = 28 ∨ k = 29 ∨ k = 30 ∨ k = 31 ∨ k = 32 ∨ k = 33 ∨ k = 34 ∨ k = 35 ∨ k = 36 ∨ k = 37 ∨ k = 38 ∨ k = 39 ∨ k = 40 ∨ k = 41 ∨ 42 ≤ k by omega) with rfl | rfl | rfl | rfl | rfl | rfl | rfl | rfl | rfl | rfl | rfl | rfl | rfl | rfl | rfl | rfl | rfl | rfl | rfl | rfl | rfl | rfl | rfl | rfl | rfl | rfl | rfl | rfl | rfl | rfl | rfl | rfl | rfl | rfl | rfl | rfl | rfl | rfl | rfl | rfl | rfl | rfl | h42
        · exact lwc_magnet hL hx (by omega) hI e h
        · exact lwc_magnetIs hL hx (by omega) hI e h
        · exact lwc_as hL hx (by omega) hI e h
        · exact lwc_shift hL hx (by omega) hI e h
        · exact lwc_takeOff hL hx (by omega) hI e h
        · exact lwc_rule hL hx (by omega) hI e h
        · exact lwc_nearest hL hx (by omega) hI e h
        · exact lwc_feed hL hx (by omega) hI e h
        · exact lwc_text hL hx (by omega) hI e h
        · exact lwc_untell hL hx (by omega) hI e h
        · exact lwc_let hL hx (by omega) hI e h
        · exact lwc_push hL hx (by omega) hI e h
        · exact lwc_tick hL hx (by omega) hI e h
        · exact lwc_bob hL hx (by omega) hI e h
        · exact lwc_ends hL hx (by omega) hI e h
        · exact lwc_length hL hx (by omega) hI e h
        · exact lwc_doubt hL hx (by omega) hI e h
        · exact lwc_holds hL hx (by omega) hI e h
        · exact lwc_picture hL hx (by omega) hI e h
        · exact lwc_cell hL hx (by omega) hI e h
        · exact lwc_share hL hx (by omega) hI e h
        · exact lwc_edge hL hx (by omega) hI e h
        · exact lwc_seen hL hx (by omega) hI e h
        · exact lwc_sure hL hx (by omega) hI e h
        · exact lwc_turned hL hx (by omega) hI e h
        · exact lwc_fair hL hx (by omega) hI e h
        · exact lwc_want hL hx (by omega) hI e h
        · exact lwc_throwsOf hL hx (by omega) hI e h
        · exact lwc_thrownAt hL hx (by omega) hI e h
        · exact lwc_seed hL hx (by omega) hI e h
        · exact lwc_voice hL hx (by omega) hI e h
        · exact lwc_body hL hx (by omega) hI e h
        · exact lwc_sheet hL hx (by omega) hI e h
        · exact lwc_put hL hx (by omega) hI e h
        · exact lwc_move hL hx (by omega) hI e h
        · exact lwc_magnets hL hx (by omega) hI e h
        · exact lwc_image hL hx (by omega) hI e h
        · exact lwc_restore hL hx (by omega) hI e h
        · exact lwc_tell hL hx (by omega) hI e h
        · exact lwc_check hL hx (by omega) hI e h
        · exact lwc_count hL hx (by omega) hI e h
        · exact lwc_told hL hx (by omega) hI e h
        · exact lwc_default hL hx (by omega) hI e h (nI_lt (show 41 < k by omega) (by omega)) (nI_pos (by omega))
      obtain ⟨m2, hI2, e2, f⟩ := step
      obtain ⟨m', E⟩ := ih (j + 1) (by omega) m2 hI2 e2
      rw [show nI (6 * (j + 1)) = nI (6 * j) + 6 from (nI_add (6 * j) 6).symm] at E
      exact ⟨m', f _ E⟩
theorem lw_all (xs : Nat → Int32) (L : Nat) (hL : L ≤ 384) : ∃ m', mz_Ex 101 mz_kL (lw_c xs L) (some (.int 1), m') := by
  by_cases h31 : L < 2 ^ 31
  · exact lw_loop hL 64 0 (by decide) (mz_i xs L) (sm_start xs L) ⟨fun _ => rfl, nI_clamp h31⟩
  · omega
theorem whole_start {p : Program} {e : Env} {s : State} {m : MethodId} {below : List Frame} {meth : Method} {c : Code} (l : Launch) (hflags : l.flags = flags0) {b L : Nat} {xs : Nat → Int32} (hL : L ≤ 384) (C0 : lw_At p s m meth c b L xs) : W p l e room_1 s m #[Value.ref b] below meth c s.heap [] 0 0 (lw_Z below #[Value.ref b] s) (entryFrame m ([Value.ref b] : List Value).toArray 4) :=
  lw_go l hL C0 (lw_all xs L hL)
set_option maxHeartbeats 4000000 in
theorem lw_walk (l : Launch) (hflags : l.flags = flags0) (b : Addr) (xs : List Int32) : MetFree l x (headSpec (Jvm.Cond.code x code maxLocals ret :: tables_1) room_1) (lw_P b xs) (fun _ _ _ _ _ => True) lw_Q := by
  refine MetFree.of_bodyS (code := code) (maxLocals := maxLocals) (ret := ret) (by decide) ?_ ?_
  · intro args s m h hn
    obtain ⟨meth, c, h1, h2, h3, h4, h5, h6, -, -⟩ := Cond.code_spec hn (atoms_spec (ws := Jvm.Cond.code x code maxLocals ret :: tables_1) h _ List.mem_cons_self)
    exact ⟨meth, c, h1, h2, h3, h4, h5, h6⟩
  · intro p e s m args below meth c s₁ B hml0 hP _
    obtain ⟨rfl, hx, hbd, hgv⟩ := hP
    obtain ⟨scr, harrAt, hlist, hof, hsmall⟩ := hx
    obtain ⟨hcb, hkn, -, -⟩ := State.arrayAt?_spec harrAt
    have hown : s.vm.findClass R_law = some m.cls := findClass_of_methodNamed B.named
    have hts0 : ∀ c ∈ (Jvm.Cond.code x code maxLocals ret :: tables_1), c.before #[Value.ref b] s = true := atoms_spec (ws := Jvm.Cond.code x code maxLocals ret :: tables_1) B.pre
    have hts : ∀ w ∈ lw_tbl, w.before #[Value.ref b] s = true := k2_hts_sels lw_privs (fun w hw => hts0 w (List.mem_cons_of_mem _ hw)) lw_privs_ok
    have hml : c.maxLocals = 4 := B.maxLocals_eq (hts0 _ List.mem_cons_self)
    have X₀ : Stand p l e room_1 s m #[Value.ref b] below meth c s₁ [] 0 0 := Stand.of_body B
    have hh0 : s₁.heap = s.heap := by rw [B.state]; rfl
    have hsz : scr.slots.size = xs.length := by rw [← Array.length_toList, hlist, List.length_map]
    have hval : ∀ j : Nat, j < xs.length → scr.slots[j]? = some (.int (xs.getD j 0)) := fun j hj => by
      rw [← Array.getElem?_toList, hlist]
      simp [hj]
    have hbl : b < s.heap.size := (Array.getElem?_eq_some_iff.mp hcb).1
    have hX : va_X b xs.length (fun j => xs.getD j 0) s s.heap := ⟨scr, hcb, hof, hkn, hsz, hval⟩
    have K : W p l e room_1 s m #[Value.ref b] below meth c s₁.heap [] 0 0 (lw_Z below #[Value.ref b] s) (entryFrame m ([Value.ref b] : List Value).toArray 4) := by
      rw [hh0]
      exact whole_start l hflags hbd ⟨B.exec, B.bytes, B.returns, hml, hown, hts, hX, hbl, B.notSynchronized, hgv⟩
    obtain ⟨t, a1, o, b1, b2, b3⟩ := K s₁ rfl X₀
    exact ⟨t, o, a1, b1, b2, b3⟩
theorem lw_pre_spec {args : Array Value} {s : State} (h : (Jvm.Cond.and given_1 narrow_1).before args s = true) (hr : rest_1_c.before args s = true) : ∃ (b : Addr) (xs : List Int32), lw_P b xs args s := by
  have hs := flat_of_before _ h
  have hq := flat_of_before _ hr
  have hc : (Cond.count 1).before args s = true := hs _ (by decide +kernel)
  have harr : (Cond.arrayOf (.arg 0) .int).before args s = true := hs _ (by decide +kernel)
  have hle : (Cond.le (.length (.arg 0)) (.int 384)).before args s = true := hs _ (by decide +kernel)
  have hlen : (Cond.isInt (.length (.arg 0))).before args s = true := hq _ (by decide +kernel)
  have hall : (Cond.all (.arg 0) (.isInt (.elem (.arg 0) (.index 0)))).before args s = true := hq _ (by decide +kernel)
  obtain ⟨b, xs, hb, hx⟩ := State.ints_of_pre rfl harr hlen hall
  have hsm : xs.length < 2 ^ 31 := hx.choose_spec.2.2.2
  have hev : (Term.length (.arg 0)).eval args s none [] s = some (.int xs.length.toInt32) := hx.length_eval hb
  have hv := Cond.le_ints hev (show (Term.int 384).eval args s none [] s = some (.int 384) from rfl)
  have hd : xs.length.toInt32 ≤ 384 := by
    simpa [Cond.before, Cond.holds, hv] using hle
  have hN : xs.length ≤ 384 := (Int32.ofNat_le_ofNat hsm (by decide)).mp (show Int32.ofNat xs.length ≤ Int32.ofNat 384 from hd)
  exact ⟨b, xs, Cond.one_arg hc (show args[0]? = some (.ref b) from hb), hx, hN, h⟩
theorem lw_comes (l : Launch) (hflags : l.flags = flags0) : Comes l x (Jvm.Cond.code x code maxLocals ret :: tables_1) room_1 (fun tb e args s => Calls_1 tb e args s ∧ rest_1 tb e args s ∧ Pre_1 tb e args s)
    (fun _ _ args s o t => lw_Q args s o t) := by
  intro p e ha hc hk s m args below hf hfit hheap happ hpre
  obtain ⟨b, xs, hP⟩ := lw_pre_spec hpre.2.2 hpre.2.1
  obtain ⟨k, o, h1, h2, h3, hQ⟩ := lw_walk l hflags b xs p e ha hc hk s m args below hf ((Spec.applies_iff_loose hf).mp happ).1 hP trivial
  exact ⟨k, o, h1, h2, h3, hQ⟩
theorem lw_frame {s t : State} {o : Outcome} {args : Array Value} (h : Framed s o t [] 600000 7302250) :
    Framed s o t (fieldLocs frame_1_writes args s ++ arrayLocs frame_1_arrays args s ++ staticLocs frame_1_statics s) 600000 7302250 := h
theorem lw_limb (L : Cond) (hL : ∀ (args : Array Value) (s t : State), L.after args s (.returned (some (.int 1))) t = true) :
    ArmFor flags0 classFile x code maxLocals ret World_1 tables_1 room_1 Calls_1 rest_1 Pre_1
      (fun tb e a s o t => postC L tb e a s o t ∧ Framed s o t (fieldLocs frame_1_writes a s ++ arrayLocs frame_1_arrays a s ++ staticLocs frame_1_statics s) 600000 7302250) := by
  intro l hflags _ _ p e ha hc hk s m args below hf hfit hheap happ hpre
  obtain ⟨k, o, h1, h2, h3, rfl, hF⟩ := lw_comes l hflags p e ha hc hk s m args below hf hfit hheap happ hpre
  exact ⟨k, _, h1, h2, h3, hL args s _, lw_frame hF⟩
theorem i_vc : Claimed_1_1 ∧ Claimed_1_2 := ⟨lw_limb limb_1_1 (fun args s t => by simp [limb_1_1, Cond.after, Cond.holds, Cond.value]), lw_limb limb_1_2 (fun args s t => Cond.after_iff.mpr (by
  first | (rw [show limb_1_2 = Cond.eq .result (.int 1) from rfl, Cond.eq_ints (x := 1) (y := 1) rfl rfl]; simp; done) | (simp [limb_1_2, Cond.value, Term.eval]; done)))⟩

