
def zz_isP : Instr → Bool
  | .putfield _ => true
  | _ => false
def zz_eok (cl : List vw_C) (NM : List String) (ST : List (String × Nat × String)) (gt : Nat → Option Jvm.Cond) (CT : List zz_R) (ini : Bool) (own : String) (b : ByteArray) (q : mz_E) : Bool := decide (decode b q.1 = .ok (q.2.1, q.2.2.1)) && (q.2.2.1 == mz_ln q.2.1 && (!zz_isP q.2.1 || ini)) && zz_lk cl NM ST gt CT own q.2.1 q.2.2.2
theorem zz_step_mono {S0 : mz_Sh} {T0 : List (List Int32)} {ins : Instr} {f : mz_I} {pc : Nat} {L : List (Option Value)} {S : List Value} {n : Nat} {z : Nat → Nat → Bool} {m : mz_M} {c1 : zz_C} (h : zz_step S0 T0 ins f pc L S n z m = some (.inl c1)) : n ≤ c1.2.2.2.1 ∧ (n ≤ S0.length → c1.2.2.2.1 ≤ S0.length) := by
  unfold zz_step at h
  split at h
  all_goals (try simp only [cond_eq_ite] at h)
  all_goals (repeat' (first | (cases h; done) | split at h))
  all_goals
    cases h
    first
      | exact ⟨Nat.le_refl _, id⟩
      | exact ⟨Nat.le_succ _, fun _ => mz_lt (by assumption)⟩
theorem zz_step_call {S0 : mz_Sh} {T0 : List (List Int32)} {ins : Instr} {f : mz_I} {pc : Nat} {L : List (Option Value)} {S : List Value} {n : Nat} {z : Nat → Nat → Bool} {m : mz_M} {a : Nat} (h : zz_step S0 T0 ins f pc L S n z m = some (.inr a)) : f.2.1 = a ∧ ∃ x, ins = .invokespecial x ∧ (f.1 = 32 ∨ f.1 = 33) := by
  unfold zz_step at h
  split at h
  all_goals (try simp only [cond_eq_ite] at h)
  all_goals (repeat' (first | (cases h; done) | split at h))
  · exact ⟨Sum.inr.inj (Option.some.inj h), _, rfl, Or.inl (by assumption)⟩
  · exact ⟨Sum.inr.inj (Option.some.inj h), _, rfl, Or.inr (by assumption)⟩
theorem zz_x_inv {S0 : mz_Sh} {T0 : List (List Int32)} {CT : List zz_R} {N d sp pc : Nat} {K : mz_K} {L : List (Option Value)} {S : List Value} {n : Nat} {z : Nat → Nat → Bool} {m : mz_M} {r : zz_C} (h : zz_x S0 T0 CT (N + 1) d sp K (pc, L, S, n, z, m) = some r) : (pc = sp ∧ r = (pc, L, S, n, z, m)) ∨ ∃ e, mz_fetch K pc = some e ∧ ((∃ c1, zz_step S0 T0 e.2.1 e.2.2.2 pc L S n z m = some (.inl c1) ∧ zz_x S0 T0 CT N d sp K c1 = some r) ∨ (∃ a rc d1 p1 L1 n1 z1 m1, zz_step S0 T0 e.2.1 e.2.2.2 pc L S n z m = some (.inr a) ∧ CT[a]? = some rc ∧ d = d1 + 1 ∧ zz_cal rc S = true ∧ zz_x S0 T0 CT N d1 rc.2.2.2.2.2 rc.2.2.2.2.1 (0, mz_ent (S.take rc.2.2.2.1).reverse rc.2.2.1, [], n, z, m) = some (p1, L1, [], n1, z1, m1) ∧ zz_x S0 T0 CT N d sp K (pc + 3, L, S.drop rc.2.2.2.1, n1, z1, m1) = some r)) := by
  rw [zz_x] at h
  cases hp : (pc == sp) with
  | true =>
    rw [hp] at h
    exact Or.inl ⟨by simpa using hp, (Option.some.inj h).symm⟩
  | false =>
    rw [hp] at h
    simp only [cond_false] at h
    refine Or.inr ?_
    split at h
    · cases h
    · rename_i e he
      refine ⟨e, he, ?_⟩
      split at h
      · cases h
      · rename_i c1 hs
        exact Or.inl ⟨c1, hs, h⟩
      · rename_i a hs
        split at h
        · rename_i rc d1 hR
          obtain ⟨hc, h2⟩ := mz_cond h
          split at h2
          · rename_i p1 L1 n1 z1 m1 h1
            exact Or.inr ⟨a, rc, d1, p1, L1, n1, z1, m1, hs, hR, rfl, hc, h1, h2⟩
          · cases h2
        · cases h
theorem zz_x_mono {S0 : mz_Sh} {T0 : List (List Int32)} {CT : List zz_R} : ∀ {N d sp : Nat} {K : mz_K} {c r : zz_C}, zz_x S0 T0 CT N d sp K c = some r → r.1 = sp ∧ c.2.2.2.1 ≤ r.2.2.2.1 ∧ (c.2.2.2.1 ≤ S0.length → r.2.2.2.1 ≤ S0.length) := by
  intro N
  induction N with
  | zero =>
    intro d sp K c r h
    cases h
  | succ N ih =>
    intro d sp K c r h
    obtain ⟨pc, L, S, n, z, m⟩ := c
    rcases zz_x_inv h with ⟨h1, h2⟩ | ⟨e, he, ⟨c1, hs, h1⟩ | ⟨a, rc, d1, p1, L1, n1, z1, m1, hs, hR, rfl, hc, h1, h2⟩⟩
    · subst h2
      exact ⟨h1, Nat.le_refl _, id⟩
    · obtain ⟨a1, a2⟩ := zz_step_mono hs
      obtain ⟨b1, b2, b3⟩ := ih h1
      exact ⟨b1, Nat.le_trans a1 b2, fun q => b3 (a2 q)⟩
    · obtain ⟨-, a1, a2⟩ := ih h1
      obtain ⟨b1, b2, b3⟩ := ih h2
      exact ⟨b1, Nat.le_trans a1 b2, fun q => b3 (a2 q)⟩

set_option maxHeartbeats 4000000 in
theorem zz_w_all {p : Program} {l : Launch} {e : Env} {R : Room} {s : State} {m : MethodId} {args : Array Value} {below : List Frame} {meth : Method} {c : Code} {Q : State → Prop} {S0 : mz_Sh} {T0 : List (List Int32)} {cl : List vw_C} {NM : List String} {ST : List (String × Nat × String)} {G0 : List Jvm.Cond} {gt : Nat → Option Jvm.Cond} {CT : List zz_R} {D : va_G} {cI : ClassId} {ad : Nat → Nat} {nL Ln sz n0 nE : Nat} {xs : Nat → Int32} {own : String} {cc : ByteArray} (F : zz_Fix p R s m args meth c S0 T0 cl NM ST G0 gt CT D cI ad nL Ln sz n0 nE xs own cc) {f : mz_I} {pc : Nat} {L : List (Option Value)} {S : List Value} {n : Nat} {z : Nat → Nat → Bool} {mem : mz_M} {c1 : zz_C} {ins : Instr} {len : Nat} (hin2 : zz_isP ins = true → meth.name = "<init>") (hd : decode cc pc = .ok (ins, len)) (hlen : (len == mz_ln ins) = true) (hl : zz_lk cl NM ST gt CT own ins f = true) (hn0 : n0 ≤ n) (hnS : n ≤ S0.length) (hnE : c1.2.2.2.1 ≤ nE) (hs : zz_step S0 T0 ins f pc L S n z mem = some (.inl c1)) (k : zz_Z p l e R s m args below meth c Q S0 cl D cI ad nL sz n0 c1) : zz_Z p l e R s m args below meth c Q S0 cl D cI ad nL sz n0 (pc, L, S, n, z, mem) := by
  cases ins with
  | dup =>
    obtain rfl : len = 1 := by simpa [mz_ln] using hlen
    exact zz_w_dup F hd hl hn0 hnS hnE hs k
  | iastore =>
    obtain rfl : len = 1 := by simpa [mz_ln] using hlen
    exact zz_w_iastore F hd hl hn0 hnS hnE hs k
  | iconst n =>
    obtain rfl : len = 1 := by simpa [mz_ln] using hlen
    exact zz_w_iconst F hd hl hn0 hnS hnE hs k
  | aload_n n =>
    obtain rfl : len = 1 := by simpa [mz_ln] using hlen
    exact zz_w_aload_n F hd hl hn0 hnS hnE hs k
  | astore_n n =>
    obtain rfl : len = 1 := by simpa [mz_ln] using hlen
    exact zz_w_astore_n F hd hl hn0 hnS hnE hs k
  | istore_n n =>
    obtain rfl : len = 1 := by simpa [mz_ln] using hlen
    exact zz_w_istore_n F hd hl hn0 hnS hnE hs k
  | bipush n =>
    obtain rfl : len = 2 := by simpa [mz_ln] using hlen
    exact zz_w_bipush F hd hl hn0 hnS hnE hs k
  | ldc n =>
    obtain rfl : len = 2 := by simpa [mz_ln] using hlen
    exact zz_w_ldc F hd hl hn0 hnS hnE hs k
  | sipush n =>
    obtain rfl : len = 3 := by simpa [mz_ln] using hlen
    exact zz_w_sipush F hd hl hn0 hnS hnE hs k
  | getfield n =>
    obtain rfl : len = 3 := by simpa [mz_ln] using hlen
    exact zz_w_getfield F hd hl hn0 hnS hnE hs k
  | getstatic n =>
    obtain rfl : len = 3 := by simpa [mz_ln] using hlen
    exact zz_w_getstatic F hd hl hn0 hnS hnE hs k
  | new n =>
    obtain rfl : len = 3 := by simpa [mz_ln] using hlen
    exact zz_w_new F hd hl hn0 hnS hnE hs k
  | invokevirtual n =>
    obtain rfl : len = 3 := by simpa [mz_ln] using hlen
    exact zz_w_clone F hd hl hn0 hnS hnE hs k
  | checkcast n =>
    obtain rfl : len = 3 := by simpa [mz_ln] using hlen
    exact zz_w_checkcast F hd hl hn0 hnS hnE hs k
  | invokespecial n =>
    obtain rfl : len = 3 := by simpa [mz_ln] using hlen
    exact zz_w_objinit F hd hl hn0 hnS hnE hs k
  | putfield n =>
    obtain rfl : len = 3 := by simpa [mz_ln] using hlen
    exact zz_w_putfield F (hin2 rfl) hd hl hn0 hnS hnE hs k
  | newarray t =>
    cases t with
    | int =>
      obtain rfl : len = 2 := by simpa [mz_ln] using hlen
      exact zz_w_newarray F hd hl hn0 hnS hnE hs k
    | _ => cases hs
  | _ => cases hs

/-- a run is a walk -/
def zz_Run (S0 : mz_Sh) (T0 : List (List Int32)) (cl : List vw_C) (NM : List String) (ST : List (String × Nat × String)) (G0 : List Jvm.Cond) (gt : Nat → Option Jvm.Cond) (CT : List zz_R) (N : Nat) : Prop := ∀ {p : Program} {l : Launch} {e : Env} {R : Room} {s : State} {m : MethodId} {args : Array Value} {below : List Frame} {meth : Method} {c : Code} {Q : State → Prop} {D : va_G} {cI : ClassId} {ad : Nat → Nat} {nL Ln sz n0 nE : Nat} {xs : Nat → Int32} {own : String} {cc : ByteArray} (d sp : Nat) (F : zz_Fix p R s m args meth c S0 T0 cl NM ST G0 gt CT D cI ad nL Ln sz n0 nE xs own cc) (hR : d + 1 ≤ R.frames ∧ 64 * (d + 1) ≤ R.locals) (K : mz_K) (ini : Bool) (hini : ini = true → meth.name = "<init>") (hK : ∀ q ∈ K, zz_eok cl NM ST gt CT ini own cc q = true) (pc : Nat) (L : List (Option Value)) (S : List Value) (n : Nat) (z : Nat → Nat → Bool) (mem : mz_M) (c1 : zz_C) (hn0 : n0 ≤ n) (hnS : n ≤ S0.length) (hnE : c1.2.2.2.1 ≤ nE) (hrun : zz_x S0 T0 CT N d sp K (pc, L, S, n, z, mem) = some c1) (k : zz_Z p l e R s m args below meth c Q S0 cl D cI ad nL sz n0 c1), zz_Z p l e R s m args below meth c Q S0 cl D cI ad nL sz n0 (pc, L, S, n, z, mem)
/-- a constructor's record is in order -/
def zz_Rok (cl : List vw_C) (NM : List String) (ST : List (String × Nat × String)) (G0 : List Jvm.Cond) (gt : Nat → Option Jvm.Cond) (CT : List zz_R) (r : zz_R) : Prop :=
  (plainName r.1.cls = true ∧ (r.1.cls ≠ "java/lang/invoke/MethodHandle" ∧ r.1.cls ≠ "java/lang/invoke/VarHandle") ∧ (parseMethodDescriptor r.1.desc).map (fun d => d.parameters.length) = some (r.2.2.2.1 - 1) ∧ r.2.2.1 ≤ 45 ∧ r.1.name = "<init>") ∧
  (Jvm.Cond.code r.1 r.2.1 r.2.2.1 none ∈ mz_G G0 ∧ Jvm.Cond.initialized r.1.cls ∈ mz_G G0 ∧ Jvm.Cond.instanceMethod r.1 ∈ mz_G G0) ∧
  decode r.2.1 r.2.2.2.2.2 = .ok (.return_, 1) ∧ (∀ q ∈ r.2.2.2.2.1, zz_eok cl NM ST gt CT true r.1.cls r.2.1 q = true)
def zz_ws (G0 : List Jvm.Cond) (r : zz_R) : List Jvm.Cond := .code r.1 r.2.1 r.2.2.1 none :: mz_G G0
def zz_rm (d mc ms : Nat) : Room := { frames := d + 1, cells := mc, slots := ms, locals := 64 * (d + 1) }
def zz_Pc (S0 : mz_Sh) (T0 : List (List Int32)) (cl : List vw_C) (NM : List String) (ST : List (String × Nat × String)) (G0 : List Jvm.Cond) (D : va_G) (cI : ClassId) (ad : Nat → Nat) (Ln : Nat) (xs : Nat → Int32) (sz : Nat) (as : List Value) (n : Nat) (z : Nat → Nat → Bool) (mem : mz_M) : Array Value → State → Prop := va_Pc (as.map (mz_cvv ad)) (fun U => U.heap.size = sz + n ∧ va_K D cl [(cI, .int)] U ∧ va_P D cl (zz_w S0 cI ad z mem n) U.heap ∧ mz_rok T0 NM ST G0 ad Ln xs (zz_A sz) U U.heap ∧ zz_rf T0 (ad 1004) (zz_A sz) U U.heap)
def zz_Qc (S0 : mz_Sh) (cl : List vw_C) (D : va_G) (cI : ClassId) (ad : Nat → Nat) (sz : Nat) (n : Nat) (z : Nat → Nat → Bool) (mem : mz_M) : Array Value → State → Outcome → State → Prop := fun _ st o t => o = .returned none ∧ va_P D cl (zz_w S0 cI ad z mem n) t.heap ∧ va_F (zz_A sz) st t
theorem zz_Pc_blind {S0 : mz_Sh} {T0 : List (List Int32)} {cl : List vw_C} {NM : List String} {ST : List (String × Nat × String)} {G0 : List Jvm.Cond} {D : va_G} {cI : ClassId} {ad : Nat → Nat} {Ln : Nat} {xs : Nat → Int32} {sz : Nat} {as : List Value} {n : Nat} {z : Nat → Nat → Bool} {mem : mz_M} : FrameBlind (zz_Pc S0 T0 cl NM ST G0 D cI ad Ln xs sz as n z mem) := by
  intro a U g mk q
  obtain ⟨q0, q1, qK, qP, qR, qs⟩ := q
  exact ⟨q0, q1, va_K.moved (u := U) (U := U.calling g mk a) (Vm.Alike.refl U.vm) qK, qP, mz_rok.same (u := U) (U := U.calling g mk a) rfl qR, zz_rf.moved (u := U) (U := U.calling g mk a) (Vm.Alike.refl U.vm) qs⟩


set_option maxHeartbeats 4000000 in
/-- a constructor's contract, from a run -/
theorem zz_met {S0 : mz_Sh} {T0 : List (List Int32)} {cl : List vw_C} {NM : List String} {ST : List (String × Nat × String)} {G0 : List Jvm.Cond} {gt : Nat → Option Jvm.Cond} {CT : List zz_R} {N : Nat} (IH : zz_Run S0 T0 cl NM ST G0 gt CT N) (hE : ((∀ (k : Nat) (q : vw_C), cl[k]? = some q → mz_cok G0 q) ∧ (mz_sok S0 cl ∧ zz_sok S0 cl) ∧ (∀ w ∈ zz_pw, w ∈ mz_G G0) ∧ S0.length ≤ 1000 ∧ zz_cin cl G0 ∧ NM.length = T0.length ∧ (∀ (i : Nat) (w : Jvm.Cond), gt i = some w → w ∈ G0) ∧ Jvm.Cond.castable "[I" "java/lang/Cloneable" ∈ G0))
    {rc : zz_R} (hrc : zz_Rok cl NM ST G0 gt CT rc) (l : Launch) (D : va_G) (cI : ClassId) (ad : Nat → Nat) (Ln : Nat) (xs : Nat → Int32) (sz d : Nat) (had : ∀ i, i < 1000 → ad i = sz + i) {as : List Value} {n n' p' : Nat} {z z' : Nat → Nat → Bool} {mem mem' : mz_M} {L' : List (Option Value)} (hnS : n ≤ S0.length) (hent : (mz_ent as rc.2.2.1).length = rc.2.2.1) (hrun : zz_x S0 T0 CT N d rc.2.2.2.2.2 rc.2.2.2.2.1 (0, mz_ent as rc.2.2.1, [], n, z, mem) = some (p', L', [], n', z', mem')) :
    Met l rc.1 (zz_ws G0 rc) (zz_rm d (n' - n) (zz_sl S0 n' - zz_sl S0 n)) (zz_Pc S0 T0 cl NM ST G0 D cI ad Ln xs sz as n z mem) (zz_Qc S0 cl D cI ad sz n' z' mem') (n' - n) (zz_sl S0 n' - zz_sl S0 n) (zz_A sz) := by
  obtain ⟨⟨hpl, -, -, -, hname⟩, -, hend, hcode⟩ := hrc
  refine Met.ofW (cc := rc.2.1) (maxL := rc.2.2.1) (ret := none) hpl rfl ?_
  intro p e s m args below meth c s₁ B hml hv
  obtain ⟨rfl, hsz, hK, hP, hRo, hrf⟩ := hv
  have hts := atoms_spec (ws := zz_ws G0 rc) B.pre
  have hown : s.vm.findClass rc.1.cls = some m.cls := findClass_of_methodNamed B.named
  have hnm : meth.name = "<init>" := (name_of_methodNamed B.named B.method).1.trans hname
  have hlocks := B.notSynchronized
  have hret := B.returns
  have hx := B.exec
  have hb := B.bytes
  have F : zz_Fix p (headSpec (zz_ws G0 rc) (zz_rm d (n' - n) (zz_sl S0 n' - zz_sl S0 n))).room s m (as.map (mz_cvv ad)).toArray meth c S0 T0 cl NM ST G0 gt CT D cI ad rc.2.2.1 Ln sz n n' xs rc.1.cls rc.2.1 :=
    ⟨⟨hx, hb, hml, hown, fun w hw => hts w (List.mem_cons_of_mem _ hw)⟩, ⟨hK, hsz, had, hRo, hrf⟩, ⟨Nat.le_add_left 1 d, by show 64 ≤ 64 * (d + 1); omega, Nat.le_refl _, Nat.le_refl _⟩, hE⟩
  rw [lg_entry_eq]
  have hp' : p' = rc.2.2.2.2.2 := (zz_x_mono hrun).1
  subst hp'
  have hgo := IH (below := below) (l := l) (e := e) (Q := MQ below (zz_Qc S0 cl D cI ad sz n' z' mem') (as.map (mz_cvv ad)).toArray s (n' - n) (zz_sl S0 n' - zz_sl S0 n) (zz_A sz)) d rc.2.2.2.2.2 F ⟨Nat.le_refl _, Nat.le_refl _⟩ rc.2.2.2.2.1 true (fun _ => hnm) hcode 0 (mz_ent as rc.2.2.1) [] n z mem (rc.2.2.2.2.2, L', [], n', z', mem') (Nat.le_refl _) hnS (Nat.le_refl _) hrun (by
    intro ls H locs h1 h2 h3
    have hq : ∀ t : State, t.heap = H → s.WarmedH t.vm → zz_Qc S0 cl D cI ad sz n' z' mem' (as.map (mz_cvv ad)).toArray s (.returned none) t := fun t ht hW => ⟨rfl, by rw [ht]; exact h2, h3.F ht⟩
    exact W.vret hx hb hret hq h3.2.2 hend) _ s.heap [] (mz_entry hent) hP va_S.rf
  simp only [Nat.sub_self] at hgo
  exact hgo
/-- behind a call -/
theorem zz_back {p : Program} {l : Launch} {e : Env} {R : Room} {s : State} {m : MethodId} {args : Array Value} {below : List Frame} {meth : Method} {c : Code} {Q : State → Prop} {S0 : mz_Sh} {T0 : List (List Int32)} {cl : List vw_C} {NM : List String} {ST : List (String × Nat × String)} {G0 : List Jvm.Cond} {gt : Nat → Option Jvm.Cond} {CT : List zz_R} {D : va_G} {cI : ClassId} {ad : Nat → Nat} {nL Ln sz n0 nE : Nat} {xs : Nat → Int32} {own : String} {cc : ByteArray} (F : zz_Fix p R s m args meth c S0 T0 cl NM ST G0 gt CT D cI ad nL Ln sz n0 nE xs own cc) {pc : Nat} {L : List (Option Value)} {S rest : List Value} {n n' : Nat} {z' : Nat → Nat → Bool} {mem' : mz_M} {args' : Array Value} {ls : Array Slot} {H : Heap} {locs : List Loc} (hn0 : n0 ≤ n) (hnn : n ≤ n') (h1 : mz_ls ad L ls nL) (h3 : va_S (zz_A sz) s.heap H locs)
    (hr : va_Run p l e R s m args below meth c H locs (n - n0) (zz_sl S0 n - zz_sl S0 n0) (n' - n) (zz_sl S0 n' - zz_sl S0 n) (F0 m pc ls (S.map (mz_cvv ad))) (rest.map (mz_cvv ad)) (zz_Qc S0 cl D cI ad sz n' z' mem' args') (zz_A sz))
    (k : zz_Z p l e R s m args below meth c Q S0 cl D cI ad nL sz n0 (pc + 3, L, rest, n', z', mem')) : W p l e R s m args below meth c H locs (n - n0) (zz_sl S0 n - zz_sl S0 n0) Q (F0 m pc ls (S.map (mz_cvv ad))) := by
  intro T1 hT X
  obtain ⟨v, st₀, t, T', L', h0, X', hL, e1, e2, ⟨hv, hP1, hF1⟩, st⟩ := hr T1 hT X
  have hve : v = none := Outcome.returned.inj hv
  subst hve
  have hS1 : va_S (zz_A sz) s.heap t.heap (locs ++ L') := by
    refine ⟨?_, fun q hq hA => ?_, fun x hx => ?_⟩
    · have := hF1.1
      rw [h0] at this
      exact Nat.le_trans h3.1 this
    · have h5 := hF1.2 q (by rw [h0]; exact Nat.lt_of_lt_of_le hq h3.1) hA
      rw [h5, h0]
      exact h3.2.1 q hq hA
    · rcases List.mem_append.mp hx with hx | hx
      · exact h3.2.2 x hx
      · exact hL x hx
  have hm1 := zz_sl_mono S0 hn0
  have hm2 := zz_sl_mono S0 hnn
  have q1 : n - n0 + (n' - n) = n' - n0 := by omega
  have q2 : zz_sl S0 n - zz_sl S0 n0 + (zz_sl S0 n' - zz_sl S0 n) = zz_sl S0 n' - zz_sl S0 n0 := by omega
  rw [q1, q2] at X'
  have hk := k ls t.heap (locs ++ L') h1 hP1 hS1
  obtain ⟨t2, a1, b1⟩ := hk T' e1 X'
  exact ⟨t2, st t2 a1, b1⟩
set_option maxHeartbeats 4000000 in
theorem zz_run_all {S0 : mz_Sh} {T0 : List (List Int32)} {cl : List vw_C} {NM : List String} {ST : List (String × Nat × String)} {G0 : List Jvm.Cond} {gt : Nat → Option Jvm.Cond} {CT : List zz_R} (hT : ∀ (a : Nat) (rc : zz_R), CT[a]? = some rc → zz_Rok cl NM ST G0 gt CT rc) : ∀ N, zz_Run S0 T0 cl NM ST G0 gt CT N := by
  intro N
  induction N with
  | zero =>
    intro p l e R s m args below meth c Q D cI ad nL Ln sz n0 nE xs own cc d sp F hR K ini hini hK pc L S n z mem c1 hn0 hnS hnE hrun k
    cases hrun
  | succ N ih =>
    intro p l e R s m args below meth c Q D cI ad nL Ln sz n0 nE xs own cc d sp F hR K ini hini hK pc L S n z mem c1 hn0 hnS hnE hrun k
    rcases zz_x_inv hrun with ⟨h1, h2⟩ | ⟨q, hq, hq2⟩
    · subst h2
      exact k
    · obtain ⟨hqK, hqp⟩ := mz_fetch_in hq
      have hok := hK q hqK
      obtain ⟨qp, ins, len, f⟩ := q
      simp only at hqp
      subst hqp
      unfold zz_eok at hok
      simp only [Bool.and_eq_true] at hok
      obtain ⟨⟨hd, hlen, hpf⟩, hl⟩ := hok
      have hd := of_decide_eq_true hd
      simp only at hd hlen hl hpf hq2
      rcases hq2 with ⟨c2, hs, h1⟩ | ⟨a, rc, d1, p1, L1, n1, z1, m1, hs, hrc, rfl, hcal, hin, h2⟩
      · obtain ⟨a1, a2⟩ := zz_step_mono hs
        obtain ⟨-, b2, -⟩ := zz_x_mono h1
        exact zz_w_all F (fun h => hini (by rw [h] at hpf; simpa using hpf)) hd hlen hl hn0 hnS (Nat.le_trans b2 hnE) hs (ih d sp F hR K ini hini hK _ _ _ _ _ _ c1 (Nat.le_trans hn0 a1) (a2 hnS) hnE h1 k)
      · have hRok := hT a rc hrc
        obtain ⟨hfa, x, rfl, hf⟩ := zz_step_call hs
        obtain rfl : len = 3 := by simpa [mz_ln] using hlen
        unfold zz_cal at hcal
        simp only [Bool.and_eq_true, beq_iff_eq] at hcal
        obtain ⟨⟨⟨⟨c1', c2⟩, cn1⟩, c3⟩, c4⟩ := hcal
        have c1' := of_decide_eq_true c1'
        have c2 := of_decide_eq_true c2
        have cn1 := of_decide_eq_true cn1
        obtain ⟨-, hn1, hn1S⟩ := zz_x_mono hin
        simp only at hn1 hn1S
        obtain ⟨-, hn2, -⟩ := zz_x_mono h2
        simp only at hn2
        have hnE1 : n1 ≤ nE := Nat.le_trans hn2 hnE
        have hgo := ih (d1 + 1) sp F hR K ini hini hK (qp + 3) L (S.drop rc.2.2.2.1) n1 z1 m1 c1 (Nat.le_trans hn0 hn1) (hn1S hnS) hnE h2 k
        have hlenA : (S.take rc.2.2.2.1).reverse.length = rc.2.2.2.1 := by rw [List.length_reverse, List.length_take]; omega
        have hroom : (zz_rm d1 (n1 - n) (zz_sl S0 n1 - zz_sl S0 n)).frames + 1 ≤ R.frames ∧ 8 + (rc.2.2.1 + 11) + (zz_rm d1 (n1 - n) (zz_sl S0 n1 - zz_sl S0 n)).locals ≤ R.locals := by
          have h45 := hRok.1.2.2.2.1
          refine ⟨hR.1, ?_⟩
          show 8 + (rc.2.2.1 + 11) + 64 * (d1 + 1) ≤ R.locals
          have := hR.2
          omega
        have hgw : ∀ w ∈ zz_ws G0 rc, w ∈ mz_G G0 ∧ ((w.onTables && w.keeps) = true ∨ ∃ ty, w = .arrayClass ty) := by
          intro w hw
          rcases List.mem_cons.mp hw with rfl | hw
          · exact ⟨hRok.2.1.1, mz_G_good hRok.2.1.1⟩
          · exact ⟨hw, mz_G_good hw⟩
        generalize hasd : (S.take rc.2.2.2.1).reverse = as at c3 c4 hin hlenA
        have hSs : S = as.reverse ++ S.drop rc.2.2.2.1 := by rw [← hasd]; exact mz_split _ _
        generalize hrest : S.drop rc.2.2.2.1 = rest at hgo c2 hSs
        split at c3
        · rename_i i as1
          have hn3 : as1.length = rc.2.2.2.1 - 1 := by
            have := hlenA
            simp only [List.length_cons] at this
            omega
          have had := F.2.1.2.2.1
          intro ls H locs h1 h2 h3
          show W p l e R s m args below meth c H locs (n - n0) (zz_sl S0 n - zz_sl S0 n0) Q (F0 m qp ls (S.map (mz_cvv ad)))
          refine zz_sz (fun hu => ?_)
          have hH := zz_hsz had F.2.1.2.1 hn0 (Nat.le_trans hnS F.2.2.2.2.2.2.1) h2 h3 hu
          have hM := zz_met ih F.2.2.2 hRok l D cI ad Ln xs sz d1 had hnS c4 hin
          have hpre : PreS s H (zz_Pc S0 T0 cl NM ST G0 D cI ad Ln xs sz (.ref i :: as1) n z mem) (.ref (ad i) :: as1.map (mz_cvv ad)) := by
            refine ⟨zz_Pc_blind, fun U hU hW => ⟨rfl, by rw [hU]; exact hH, va_K.moved hW.alike F.2.1.1, by rw [hU]; exact h2, ?_, ?_⟩⟩
            · rw [hU]
              exact mz_rok.kept (mz_rok.warm hW F.2.1.2.2.2.1) h3.1 h3.2.1 (fun q h => h)
            · rw [hU]
              exact (F.2.1.2.2.2.2.moved hW.alike).kept h3.2.1
          have hWs : 2 * (F0 m qp ls (S.map (mz_cvv ad))).monitorRoom + ((rest.map (mz_cvv ad)).map fun v => v.category).sum ≤ 8 := lv_room (by rw [mz_cat_map]; exact c2)
          have hm1 := zz_sl_mono S0 hn0
          have hm2 := zz_sl_mono S0 hn1
          have hm3 := zz_sl_mono S0 hnE1
          have hrc1 := F.2.2.1.2.2.1
          have hrs1 := F.2.2.1.2.2.2
          have hfit2 : n - n0 + (n1 - n) ≤ R.cells ∧ zz_sl S0 n - zz_sl S0 n0 + (zz_sl S0 n1 - zz_sl S0 n) ≤ R.slots := ⟨by omega, by omega⟩
          have hst : S.map (mz_cvv ad) = (as1.map (mz_cvv ad)).reverse ++ .ref (ad i) :: rest.map (mz_cvv ad) := by
            rw [hSs]
            simp [mz_cvv]
          rcases hf with hf | hf
          · simp only [zz_lk, hf, hfa, hrc] at hl
            have hlk := zz_Gi F (of_decide_eq_true hl) rfl
            refine zz_back F hn0 hn1 h1 h3 (va_runI (As := as1.map (mz_cvv ad)) (b := ad i) F.1 hM (cwI _ F.1.2.2.2.2 hgw rfl rfl rfl (F.1.2.2.2.2 _ hRok.2.1.2.1) hlk (F.1.2.2.2.2 _ hRok.2.1.2.2) hRok.1.2.2.2.2 ⟨hRok.1.2.1.1, hRok.1.2.1.2, hRok.1.2.2.1⟩ hroom) hpre rfl (by rw [List.length_map]; exact hn3) h1.1 hst hWs hd hfit2) hgo
          · simp only [zz_lk, hf, hfa, hrc] at hl
            have hnw := F.2.1.2.2.2.1.2.2.2.2.2.1 _ (F.2.2.2.2.2.2.2.2.2.1 _ _ (of_decide_eq_true hl)) rfl
            refine zz_back F hn0 hn1 h1 h3 (va_runIN (As := as1.map (mz_cvv ad)) (b := ad i) F.1 hM ⟨va_cnB _ F.1.2.2.2.2 hgw rfl rfl rfl hnw (F.1.2.2.2.2 _ hRok.2.1.2.1) ⟨hRok.1.2.1.1, hRok.1.2.1.2, hRok.1.2.2.1⟩ hroom, hRok.1.2.2.2.2, F.1.2.2.2.2 _ hRok.2.1.2.2⟩ hpre rfl (by rw [List.length_map]; exact hn3) h1.1 hst hWs hd hfit2) hgo
        · cases c3
