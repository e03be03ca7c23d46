/-! words that stay -/
def xGood (w : Cond) : Prop := ∀ (s U : State) (A A' : Array Value), s.WarmedH U.vm → w.before A s = true → w.before A' U = true
theorem xgb_good {w : Cond} (h : xgb w = true) : xGood w := by
  intro s U A A' hW hb
  by_cases hk : (w.keepsFace && w.onTables) = true
  · simp only [Bool.and_eq_true] at hk
    exact va_tabs hk.2 (rfl : (s.setVm U.vm).vm = U.vm) (Cond.before_shiftedFace (State.Shifted.of_warmed hW) w hk.1 hb)
  · simp only [xgb, hk, Bool.false_or] at h
    cases w with
    | arrayClass ty => exact word_at hW (Or.inr ⟨ty, rfl⟩) hb
    | not c =>
      cases c with
      | castable C T =>
        have hv := Cond.holds_not_iff.mp hb
        refine Cond.holds_not_iff.mpr ?_
        simp only [Cond.value] at hv ⊢
        simp only [hW.alike.findClass, hW.alike.assignable]
        exact hv
      | _ => simp at h
    | _ => simp at h
theorem xTs_good (w : Cond) (hw : w ∈ xTs) : xGood w := xgb_good (List.mem_filter.mp hw).2
/-- the code words of a method -/
def xCd (mi : xMI) : Prop := (Cond.code (xy mi) (xcc mi) (xnL mi) (xrt mi) ∈ xTs ∧ xhs mi = []) ∨ Cond.codeWith (xy mi) (xcc mi) (xnL mi) (xrt mi) (xhs mi) ∈ xTs
theorem xCd.spec {mi : xMI} (h : xCd mi) {s : State} {A : Array Value} (hts : ∀ x ∈ xTs, x.before A s = true) : ∃ (mk : MethodId) (meth : Method) (c : Code), s.methodNamed? (xy mi) = some mk ∧ s.vm.method? mk = some meth ∧ meth.code = some c ∧ c.code = xcc mi ∧ c.maxLocals = xnL mi ∧ meth.sig.returnType = xrt mi ∧ meth.locks = false ∧
    (c.exceptionTable.toList.map fun x => (x.startPc, x.endPc, x.handlerPc, x.catchType)) = xhs mi ∧ parseMethodDescriptor (xy mi).desc = some meth.sig := by
  rcases h with ⟨h, h0⟩ | h
  · obtain ⟨mk, hn⟩ := Cond.code_named (hts _ h)
    obtain ⟨meth, c, a1, a2, a3, a4, a5, a6, a7, a8⟩ := Cond.code_spec hn (hts _ h)
    refine ⟨mk, meth, c, hn, a1, a2, a3, a4, a5, a6, ?_, a8⟩
    have : c.exceptionTable = #[] := Array.isEmpty_iff.mp a7
    rw [this, h0]; rfl
  · obtain ⟨mk, meth, c, hn, a1, a2, a3, a4, a5, a6, a7, a8⟩ := Cond.codeWith_spec (hts _ h)
    exact ⟨mk, meth, c, hn, a1, a2, a3, a4, a6, a7, a5, a8⟩
section XCalls
variable {E : xE} {mi mj : xMI} {d kc ks pc d' kc' ks' : Nat} {Post Post' : xO → xWd → Prop} {L st as : List Value} {w : xWd}
/-- a body's walk from its entry gives the contract -/
theorem XC.of (hpl : plainName (xy mi).cls = true) (hcd : xCd mi) (hca : ∀ v ∈ as, v.category = 1) (hn : as.length ≤ xnL mi) (h : XR E mi d kc ks Post 0 as [] w) : XC E mi d kc ks as w Post := by
  refine MetFree.of_bodyS (code := xcc mi) (maxLocals := xnL mi) (ret := xrt mi) hpl ?_ ?_
  · intro A s m hp hnm
    obtain ⟨mk, meth, c, b1, b2, b3, b4, b5, b6, b7, -, -⟩ := hcd.spec (atoms_spec (ws := xTs) hp)
    cases hnm.symm.trans b1
    exact ⟨meth, c, b2, b3, b4, b5, b6, b7⟩
  · intro p e s m args below meth c s₁ B hml hP _
    obtain ⟨rfl, hH, hC⟩ := hP
    have hts := atoms_spec (ws := xTs) B.pre
    have hh0 : s₁.heap = s.heap := by rw [B.state]; rfl
    obtain ⟨mk, meth', c', b1, b2, b3, b4, b5, b6, b7, b8, -⟩ := hcd.spec hts
    cases B.named.symm.trans b1
    cases B.method.symm.trans b2
    have hc' : meth.code = some c := (Stand.of_body B).code
    cases hc'.symm.trans b3
    have hB : xB0 E mi d p (xrm d kc ks) s m as.toArray meth c := ⟨B.exec, b4, b5, findClass_of_methodNamed B.named, hts, b6, b7, (name_of_methodNamed B.named B.method).1, b8, hC, Nat.le_refl _, Nat.le_refl _⟩
    have hW := h p e (xrm d kc ks) s m as.toArray below meth c hB s.heap [] 0 0 _ (xL.entry hca hn) hH va_S.rf (by simp [xrm]) (by simp [xrm])
    obtain ⟨t, a1, o, b1, b2, b3⟩ := hW s₁ hh0 (Stand.of_body B)
    rw [lg_entry_eq]
    exact ⟨t, o, a1, b1, b2, by simpa using b3⟩
theorem xcallC {p : Program} {e : Env} {R : Room} {s : State} {m : MethodId} {args : Array Value} {below : List Frame} {meth : Method} {c : Code} {T : State} {locs : List Loc} {cells slots : Nat}
    (X : Stand p (xl E) e R s m args below meth c T locs cells slots) (hts : ∀ x ∈ xTs, x.before args s = true) (hC : xCx E s) (hH : xH E w T.heap) (hS : va_S (fun q => xB E ≤ q) s.heap T.heap locs)
    {g : JFrame} (hg : g.method = m) (hsize : g.locals.size = c.maxLocals) {ig : Instr} {len : Nat} (hdg : decode c.code g.pc = .ok (ig, len)) {mk : MethodId} {methY : Method} {cY : Code} {kY : Class} (hn : T.methodNamed? (xy mj) = some mk) (hmY : T.vm.method? mk = some methY) (hcY : methY.code = some cY) (hlY : cY.maxLocals = xnL mj) (hkY : T.vm.classes[mk.cls]? = some kY) (hiY : kY.init = .initialized)
    (hM : XC E mj d' kc' ks' as w Post') (hd : d' + 1 ≤ R.frames) (hlo : 2 * g.monitorRoom + (g.stack.map fun v => v.category).sum + (xnL mj + 11) + xlo d' ≤ R.locals) (hc : cells + (kc' + 1) ≤ R.cells) (hs : slots + (ks' + 6) ≤ R.slots) :
    (∃ (v : Option Value) (w' : xWd) (T' : State) (L : List Loc), Post' (.inl v) w' ∧ xH E w' T'.heap ∧ va_S (fun q => xB E ≤ q) s.heap T'.heap (locs ++ L) ∧ Stand p (xl E) e R s m args below meth c T' (locs ++ L) (cells + kc') (slots + ks') ∧
      Steps p.tables e below (doInvoke e (T.setTop g) [] mk as.toArray).1 (T'.setTop { g with pc := g.pc + len, stack := v.toList ++ g.stack })) ∨
    (∃ (C : String) (w' : xWd) (x : Addr) (T' : State) (L : List Loc), Post' (.inr C) w' ∧ xH E w' T'.heap ∧ xEx E C x s.vm T'.heap ∧ va_S (fun q => xB E ≤ q) s.heap T'.heap (locs ++ L) ∧ Stand p (xl E) e R s m args below meth c T' (locs ++ L) (cells + (kc' + 1)) (slots + (ks' + 6)) ∧
      Steps p.tables e below (doInvoke e (T.setTop g) [] mk as.toArray).1 ((T'.setTop g).pushFrame (.throwing x))) := by
  have h : At T g.method c below := by rw [hg]; exact X.here
  have hpre : ∀ x ∈ xTs, x.before as.toArray T = true := fun x hx => xTs_good x hx s T args as.toArray X.warmed (hts x hx)
  have happ : (headSpec xTs (xrm d' kc' ks')).appliesLoose (xy mj) e.platform (T.calling g mk as.toArray) = true :=
    Spec.appliesLoose_calling (g := g) h hdg hn hkY hiY (X.room_calling (g := g) (R' := xrm d' kc' ks') hsize hmY hcY hd (by rw [hlY]; exact hlo) hc hs) (atoms_intro hpre)
  obtain ⟨mid, hmid⟩ := h.above
  have hfr : (T.setTop g).frames = (.java g :: mid) ++ below := by rw [State.frames_setTop' g h.top, hmid]; rfl
  have hold : ∀ q, q < xB E → T.heap[q]? = s.heap[q]? := xS.old hC hS
  have hC' : xCx E (T.calling g mk as.toArray) := hC.moved X.warmed.alike hS.1 hold
  obtain ⟨o, t, hsteps, -, hend, hq⟩ := Steps.callFree hM p X.admits X.cas X.clock (acts := []) hfr happ ⟨rfl, hH, hC'⟩ trivial
  rw [State.frames_setTop' g h.top, X.tail] at hend
  cases o with
  | returned v =>
    obtain ⟨⟨w', hp, hw'⟩, hW, hold', L, hsame, hL⟩ := hq
    obtain ⟨T', X', -, -, ht⟩ := X.outOf (g := g) hg hdg (mk := mk) (a := as.toArray) hend hW hsame
    have eh : T'.heap = t.heap := by rw [ht]; simp [State.setTop, State.modifyTopJava]
    have hz : T.heap.size ≤ t.heap.size := hsame.2.1
    refine Or.inl ⟨v, w', T', L, hp, by rw [eh]; exact hw', ⟨by rw [eh]; exact Nat.le_trans hS.1 hz, fun q h1 h2 => ?_, fun x hx => ?_⟩, X', by rw [ht] at hsteps; exact hsteps⟩
    · have hqB : q < xB E := Nat.not_le.mp h2
      rw [eh, hold' q hqB]
      exact hold q hqB
    · rcases List.mem_append.mp hx with hx | hx
      · exact hS.2.2 x hx
      · exact hL x hx
  | threw x =>
    obtain ⟨⟨w', C, hp, hw', hex⟩, hW, hold', L, hsame, hL⟩ := hq
    obtain ⟨T', X', -, -, ht⟩ := X.outOfThrown (g := g) hg (mk := mk) (a := as.toArray) hend hW hsame
    have eh : T'.heap = t.heap := by rw [ht]; simp [State.pushFrame, State.setFrames, State.setTop, State.modifyTopJava]
    have ev : T'.vm = t.vm := by rw [ht]; simp [State.pushFrame, State.setFrames, State.setTop, State.modifyTopJava]
    have hz : T.heap.size ≤ t.heap.size := hsame.2.1
    have hex' : xEx E C x s.vm T'.heap := by
      obtain ⟨cell, c1, c2, c3, c4⟩ := hex
      refine ⟨cell, by rw [eh]; exact c1, c2, ?_, c4⟩
      have := X'.warmed.alike.findClass C none
      rw [ev] at this
      rw [← this]; exact c3
    refine Or.inr ⟨C, w', x, T', L, hp, by rw [eh]; exact hw', hex', ⟨by rw [eh]; exact Nat.le_trans hS.1 hz, fun q h1 h2 => ?_, fun x hx => ?_⟩, X', by rw [ht] at hsteps; exact hsteps⟩
    · have hqB : q < xB E := Nat.not_le.mp h2
      rw [eh, hold' q hqB]
      exact hold q hqB
    · rcases List.mem_append.mp hx with hx | hx
      · exact hS.2.2 x hx
      · exact hL x hx
/-- behind a call's link: the callee's contract, then the caller goes on, or stands under what was thrown -/
theorem xcallD {p : Program} {e : Env} {R : Room} {s : State} {m : MethodId} {args : Array Value} {below : List Frame} {meth : Method} {c : Code} {T : State} {locs : List Loc} {cells slots : Nat} {ls : Array Slot}
    (X : Stand p (xl E) e R s m args below meth c T locs cells slots) (hB : xB0 E mi d p R s m args meth c) (hl : xL ls (xnL mi) L) (hH : xH E w T.heap) (hS : va_S (fun q => xB E ≤ q) s.heap T.heap locs) (h1 : cells + kc + 1 ≤ R.cells) (h2 : slots + ks + 6 ≤ R.slots)
    {ig : Instr} (hd : decode (xcc mi) pc = .ok (ig, 3)) {mk : MethodId} {methY : Method} {cY : Code} {kY : Class} (hn : T.methodNamed? (xy mj) = some mk) (hmY : T.vm.method? mk = some methY) (hcY : methY.code = some cY) (hlY : cY.maxLocals = xnL mj) (hkY : T.vm.classes[mk.cls]? = some kY) (hiY : kY.init = .initialized)
    (hM : XC E mj d' kc' ks' as w Post') (hdd : d' + 1 ≤ d) (hst : (st.map fun v => v.category).sum + xnL mj ≤ 17) (hkc : kc' ≤ kc) (hks : ks' ≤ ks)
    (hr : ∀ v w', Post' (.inl v) w' → XR E mi d (kc - kc') (ks - ks') Post (pc + 3) L (v.toList ++ st) w') (ht : ∀ C w', Post' (.inr C) w' → XT E mi d (kc - kc') (ks - ks') Post pc L C w') :
    ∃ t, Steps p.tables e below (doInvoke e (T.setTop (F0 m pc ls st)) [] mk as.toArray).1 t ∧ xMQ E below Post (cells + kc) (slots + ks) s t := by
  have hC := hB.2.2.2.2.2.2.2.2.2.1
  have hR := hB.2.2.2.2.2.2.2.2.2.2
  have hlo : 2 * (F0 m pc ls st).monitorRoom + ((F0 m pc ls st).stack.map fun v => v.category).sum + (xnL mj + 11) + xlo d' ≤ R.locals := by
    have := hR.2
    unfold xlo at this ⊢
    show 2 * 0 + _ + _ + _ ≤ _
    have e1 : ((F0 m pc ls st).stack.map fun v => v.category).sum = (st.map fun v => v.category).sum := rfl
    omega
  rcases xcallC X hB.2.2.2.2.1 hC hH hS (g := F0 m pc ls st) rfl (by rw [hB.2.2.1]; exact hl.1) (by rw [hB.2.1]; exact hd) hn hmY hcY hlY hkY hiY hM (by omega) hlo (by omega) (by omega) with ⟨v, w', T', Lc, hp, hw', hS', X', hsteps⟩ | ⟨C, w', x, T', Lc, hp, hw', hex, hS', X', hsteps⟩
  · obtain ⟨t, a1, a2⟩ := hr v w' hp p e R s m args below meth c hB T'.heap (locs ++ Lc) (cells + kc') (slots + ks') ls hl hw' hS' (by omega) (by omega) T' rfl X'
    refine ⟨t, hsteps.trans a1, ?_⟩
    have e1 : cells + kc' + (kc - kc') = cells + kc := by omega
    have e2 : slots + ks' + (ks - ks') = slots + ks := by omega
    rw [e1, e2] at a2
    exact a2
  · obtain ⟨t, a1, a2⟩ := ht C w' hp p e R s m args below meth c hB T'.heap (locs ++ Lc) (cells + (kc' + 1)) (slots + (ks' + 6)) ls st x hl hw' hex hS' (by omega) (by omega) T' rfl X'
    refine ⟨t, hsteps.trans a1, ?_⟩
    have e1 : cells + (kc' + 1) + (kc - kc') - 1 = cells + kc := by omega
    have e2 : slots + (ks' + 6) + (ks - ks') - 6 = slots + ks := by omega
    rw [e1, e2] at a2
    exact a2
theorem XR.callS {index : Nat} (hd : decode (xcc mi) pc = .ok (.invokestatic index, 3)) (hl : Cond.methodLink (xy mi).cls index (xy mj) ∈ xTs) (hstat : Cond.static (xy mj) ∈ xTs) (hinit : Cond.initialized (xy mj).cls ∈ xTs) (hcd : xCd mj) (hy : (xy mj).cls ≠ "java/lang/invoke/MethodHandle" ∧ (xy mj).cls ≠ "java/lang/invoke/VarHandle")
    (hlen : (parseMethodDescriptor (xy mj).desc).map (fun g => g.parameters.length) = some as.length) {st0 : List Value} (hst0 : st0 = as.reverse ++ st) (hM : XC E mj d' kc' ks' as w Post') (hdd : d' + 1 ≤ d) (hst : (st.map fun v => v.category).sum + xnL mj ≤ 17) (hkc : kc' ≤ kc) (hks : ks' ≤ ks)
    (hr : ∀ v w', Post' (.inl v) w' → XR E mi d (kc - kc') (ks - ks') Post (pc + 3) L (v.toList ++ st) w') (ht : ∀ C w', Post' (.inr C) w' → XT E mi d (kc - kc') (ks - ks') Post pc L C w') : XR E mi d kc ks Post pc L st0 w := by
  intro p e R s m args below meth c hB H locs cells slots ls hl2 hH hS h1 h2 T hT X
  subst hT
  have hts := hB.2.2.2.2.1
  obtain ⟨mk, methM, cM, hnamed, hmethM, hcodeM, -, hlocM, -, -, -, hsigM⟩ := hcd.spec hts
  have hstatic : methM.isStatic = true := Cond.static_spec hnamed hmethM (hts _ hstat)
  obtain ⟨kP, hkP, -⟩ := className_of_methodNamed hnamed
  have hinitP : kP.init = .initialized := Cond.initialized_spec (findClass_of_methodNamed hnamed) hkP (hts _ hinit)
  have hlen' : as.length = methM.sig.parameters.length := by rw [hsigM] at hlen; simpa using hlen.symm
  obtain ⟨vm₁, X₁, hstep₁⟩ := X.invokestatic hB.1 hB.2.2.2.1 (hts _ hl) hnamed hmethM hstatic hkP hinitP hy (g := F0 m pc ls st0) rfl (argsL := as) (rest := st) hlen' hst0 (by rw [hB.2.1]; exact hd)
  obtain ⟨k1, hk1, he1⟩ := X₁.warmed.alike.2.2 _ _ hkP
  obtain ⟨t, a1, a2⟩ := xcallD X₁ hB hl2 hH hS h1 h2 hd (X₁.named hnamed) (X₁.warmed.methodAt hmethM) hcodeM hlocM hk1 (by rw [he1]; exact hinitP) hM hdd hst hkc hks hr ht
  exact ⟨t, hstep₁ _ fun acts => by rw [doInvoke_state]; exact a1, a2⟩
theorem XR.callV {index b : Nat} {C : String} (hd : decode (xcc mi) pc = .ok (.invokevirtual index, 3)) (hl : Cond.methodLink (xy mi).cls index (xy mj) ∈ xTs) (hinst : Cond.instanceMethod (xy mj) ∈ xTs) (hsel : Cond.selects C (xy mj) (xy mj) ∈ xTs) (hinit : Cond.initialized (xy mj).cls ∈ xTs) (hcd : xCd mj) (hy : (xy mj).cls ≠ "java/lang/invoke/MethodHandle" ∧ (xy mj).cls ≠ "java/lang/invoke/VarHandle")
    {q ci N : Nat} {Tu : u_T} {fs : List Value} (hb : b = xB E + q) (hq : q < w.1) (he : xen E w.2.1 q (w.2.2 q) = .inr (ci, fs)) (hc : vwCl[ci]? = some (C, Tu, N))
    (hlen : (parseMethodDescriptor (xy mj).desc).map (fun g => g.parameters.length) = some as.length) {st0 : List Value} (hst0 : st0 = as.reverse ++ .ref b :: st) (hM : XC E mj d' kc' ks' (.ref b :: as) w Post') (hdd : d' + 1 ≤ d) (hst : (st.map fun v => v.category).sum + xnL mj ≤ 17) (hkc : kc' ≤ kc) (hks : ks' ≤ ks)
    (hr : ∀ v w', Post' (.inl v) w' → XR E mi d (kc - kc') (ks - ks') Post (pc + 3) L (v.toList ++ st) w') (ht : ∀ C w', Post' (.inr C) w' → XT E mi d (kc - kc') (ks - ks') Post pc L C w') : XR E mi d kc ks Post pc L st0 w := by
  intro p e R s m args below meth c hB H locs cells slots ls hl2 hH hS h1 h2 T hT X
  subst hT; subst hb
  have hts := hB.2.2.2.2.1
  have hC := hB.2.2.2.2.2.2.2.2.2.1
  obtain ⟨r0, g1, cellB, hcell, q2, q3, -⟩ : va_at (xD E) vwCl (xB E + q, .inr (ci, fs)) T.heap := by have := hH.1 q hq; rw [he] at this; exact this
  have hr0 : r0 = (C, Tu, N) := Option.some.inj (g1.symm.trans hc)
  subst hr0
  have hcls : s.vm.findClass C = some cellB.cls := by rw [q2]; exact (hC.2.1.1 ci _ hc).2.1
  obtain ⟨mk, methM, hnamed, hmethM, hstM, habM⟩ := Cond.instanceMethod_spec (hts _ hinst)
  obtain ⟨mk', methM', cM, hnamed', hmethM', hcodeM, -, hlocM, -, -, -, hsigM⟩ := hcd.spec hts
  cases hnamed.symm.trans hnamed'
  cases hmethM.symm.trans hmethM'
  have hlen' : as.length = methM.sig.parameters.length := by rw [hsigM] at hlen; simpa using hlen.symm
  obtain ⟨c2, r2, m2, z1, z2, z3, z4, kP, hkP, hkPi⟩ := Cond.selects_spec (hts _ hsel)
  cases hcls.symm.trans z1
  cases (State.methodFound?_of_named hnamed hy).symm.trans z2
  cases hnamed.symm.trans z3
  have hselP : selectMethod e.platform s.vm cellB.cls mk = .method mk := by rw [Launch.admits_selectMethod X.admits]; exact z4
  have hobj : ∀ z, cellB.vm ≠ .statics z := fun z h => by rw [q3] at h; cases h
  obtain ⟨kI, hkI, -⟩ := className_of_methodNamed hnamed
  have hini : kI.init = .initialized := Cond.initialized_spec (findClass_of_methodNamed hnamed) hkI (hts _ hinit)
  obtain ⟨vm₁, X₁, hstep₁⟩ : ∃ vm₁, ∃ _ : Stand p (xl E) e R s m args below meth c (T.setVm vm₁) locs cells slots, ∀ target, (∀ acts, Steps p.tables e below (doInvoke e ((T.setVm vm₁).setTop (F0 m pc ls st)) acts mk (Value.ref (xB E + q) :: as).toArray).1 target) → Steps p.tables e below (T.setTop (F0 m pc ls st0)) target := by
    obtain ⟨vm₁, X₁, hh⟩ := X.invokevirtual hB.1 hB.2.2.2.1 (hts _ hl) hnamed hmethM hstM hkP hkPi hy (a := xB E + q) (cell := cellB) hcell hobj hselP hmethM habM hkP hkPi (g := F0 m pc ls st0) rfl (argsL := as) (rest := st) hlen' hst0 (by rw [hB.2.1]; exact hd)
    exact ⟨vm₁, X₁, hh⟩
  obtain ⟨k1, hk1, he1⟩ := X₁.warmed.alike.2.2 _ _ hkI
  obtain ⟨t, a1, a2⟩ := xcallD (as := .ref (xB E + q) :: as) X₁ hB hl2 hH hS h1 h2 hd (X₁.named hnamed) (X₁.warmed.methodAt hmethM) hcodeM hlocM hk1 (by rw [he1]; exact hini) hM hdd hst hkc hks hr ht
  exact ⟨t, hstep₁ _ fun acts => by rw [doInvoke_state]; exact a1, a2⟩
theorem XR.callI {index b : Nat} (hd : decode (xcc mi) pc = .ok (.invokespecial index, 3)) (hy1 : (xy mj).name = "<init>") (hl : Cond.methodLink (xy mi).cls index (xy mj) ∈ xTs) (hinst : Cond.instanceMethod (xy mj) ∈ xTs) (hinit : Cond.initialized (xy mj).cls ∈ xTs) (hcdw : Cond.code (xy mj) (xcc mj) (xnL mj) none ∈ xTs) (hy : (xy mj).cls ≠ "java/lang/invoke/MethodHandle" ∧ (xy mj).cls ≠ "java/lang/invoke/VarHandle")
    (hlen : (parseMethodDescriptor (xy mj).desc).map (fun g => g.parameters.length) = some as.length) {st0 : List Value} (hst0 : st0 = as.reverse ++ .ref b :: st) (hM : XC E mj d' kc' ks' (.ref b :: as) w Post') (hdd : d' + 1 ≤ d) (hst : (st.map fun v => v.category).sum + xnL mj ≤ 17) (hkc : kc' ≤ kc) (hks : ks' ≤ ks)
    (hr : ∀ v w', Post' (.inl v) w' → XR E mi d (kc - kc') (ks - ks') Post (pc + 3) L (v.toList ++ st) w') (ht : ∀ C w', Post' (.inr C) w' → XT E mi d (kc - kc') (ks - ks') Post pc L C w') : XR E mi d kc ks Post pc L st0 w := by
  intro p e R s m args below meth c hB H locs cells slots ls hl2 hH hS h1 h2 T hT X
  subst hT
  have hts := hB.2.2.2.2.1
  have hpl : e.platform.magicAccessors = ({} : Platform).magicAccessors := by rw [X.admits.platform]
  obtain ⟨mk, methM, cM, kP, vm₁, hnamed, hmethM, hcodeM, -, hlocalsM, -, hkP, -, hW₁, hstep₁⟩ := Steps.initColdArgs (e := e) X.here hB.1 X.warmed hpl hB.2.2.2.1 hy1 hy (hts _ hl) (hts _ hinst) (hts _ hcdw) (f := F0 m pc ls st0) rfl (argsL := as) (rest := st) (a := b) (fun sig h => by rw [h] at hlen; simpa using hlen.symm) hst0 (by rw [hB.2.1]; exact hd)
  have X₁ := X.noted hW₁
  have hkPi : kP.init = .initialized := Cond.initialized_spec (findClass_of_methodNamed hnamed) hkP (hts _ hinit)
  obtain ⟨k1, hk1, he1⟩ := X₁.warmed.alike.2.2 _ _ hkP
  obtain ⟨t, a1, a2⟩ := xcallD (as := .ref b :: as) X₁ hB hl2 hH hS h1 h2 hd (X₁.named hnamed) (X₁.warmed.methodAt hmethM) hcodeM hlocalsM hk1 (by rw [he1]; exact hkPi) hM hdd hst hkc hks hr ht
  exact ⟨t, hstep₁ _ fun acts => by rw [doInvoke_state]; exact a1, a2⟩
/-- thrown, and no handler here -/
theorem XT.leave {C : String} (hout : ∀ x ∈ xhs mi, ¬ (x.1 ≤ pc ∧ pc < x.2.1)) (hP : Post (.inr C) w) : XT E mi d kc ks Post pc L C w := by
  intro p e R s m args below meth c hB H locs cells slots ls st x hl hH hex hS h1 h2 T hT X
  have hC := hB.2.2.2.2.2.2.2.2.2.1
  have X := stand_widen X (show cells ≤ cells + kc - 1 + 1 by omega) (show slots ≤ slots + ks - 6 + 6 by omega)
  have hex2 := hB.2.2.2.2.2.2.2.2.1
  obtain ⟨hst, hr, he, hW, hsame⟩ := X.leaveThrown x (g := F0 m pc ls st) rfl rfl rfl (fun z hz => by
    have hm : (z.startPc, z.endPc, z.handlerPc, z.catchType) ∈ xhs mi := by rw [← hex2]; exact List.mem_map.mpr ⟨z, hz, rfl⟩
    have := hout _ hm
    simp only [covers, Bool.and_eq_false_imp, decide_eq_true_eq, decide_eq_false_iff_not]
    intro q1 q2
    exact this ⟨q1, q2⟩) hB.2.2.2.2.2.2.1
  refine ⟨_, hst, .threw x, hr, he, ⟨w, C, hP, ?_, ?_⟩, hW, fun q hq => ?_, locs, hsame, hS.2.2⟩
  · show xH E w (T.setFrames _).heap
    have : (T.setFrames (.throwing x :: below)).heap = T.heap := by simp [State.setFrames]
    rw [this, hT]; exact hH
  · obtain ⟨cell, c1, c2, c3, c4⟩ := hex
    refine ⟨cell, ?_, c2, ?_, c4⟩
    · have : (T.setFrames (.throwing x :: below)).heap = T.heap := by simp [State.setFrames]
      rw [this, hT]; exact c1
    · have : (T.setFrames (.throwing x :: below)).vm = T.vm := by simp [State.setFrames]
      rw [this, X.warmed.alike.findClass]; exact c3
  · have : (T.setFrames (.throwing x :: below)).heap = T.heap := by simp [State.setFrames]
    rw [this, hT]; exact xS.old hC hS q hq
end XCalls
