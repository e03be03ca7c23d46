/-! catching: the table's rows in their order, their classes resolved or not yet -/
def xCat (own C : String) (pc tgt : Nat) : List (Nat × Nat × Nat × Nat) → Prop
  | [] => False
  | h :: r => h.1 ≤ pc ∧ pc < h.2.1 ∧ h.2.2.2 ≠ 0 ∧ ∃ name, Cond.classLink own h.2.2.2 name ∈ xTs ∧ ((Cond.castable C name ∈ xTs ∧ h.2.2.1 = tgt) ∨ (Cond.not (.castable C name) ∈ xTs ∧ xCat own C pc tgt r))
theorem xfind {e : Env} {s : State} {A : Array Value} {f : JFrame} {a : Addr} {cell : Cell} {own C : String} {tgt : Nat} (hts : ∀ x ∈ xTs, x.before A s = true) (hpl : e.platform.magicAccessors = ({} : Platform).magicAccessors) (hown : s.vm.findClass own = some f.method.cls) (hobj : ∀ k, cell.vm ≠ .statics k) (hC : s.vm.findClass C = some cell.cls) :
    ∀ (t : List ClassFile.ExceptionTableEntry) (S : State), s.WarmedH S.vm → S.heap[a]? = some cell → xCat own C f.pc tgt (t.map fun x => (x.startPc, x.endPc, x.handlerPc, x.catchType)) →
      ∃ vm', s.WarmedH vm' ∧ ∀ (Q : Handler → Pre) (F : CtlPost) (d : Bool) (acts : List Action), wp (findHandler.go f a t) Q F e d acts S ↔ Q (.found tgt) d acts (S.setVm vm') := by
  intro t
  induction t with
  | nil => intro S _ _ h; exact absurd h id
  | cons x r ih =>
    intro S hW hcell h
    obtain ⟨p1, p2, p3, name, hlink, hcase⟩ := h
    have p1' : x.startPc ≤ f.pc := p1
    have p2' : f.pc < x.endPc := p2
    have p3' : x.catchType ≠ 0 := p3
    obtain ⟨c', hc', hcl⟩ := Cond.classLink_spec hown (hts _ hlink) e.platform hpl
    obtain ⟨dk, _, _, kt, hd, _, _, _, _, hkt, _, hopen⟩ := hcl.here
    have hW' : s.WarmedH (S.vm.noted f.method.cls x.catchType (.cls c')) := hW.noted hd hopen (State.rightAt_cls hcl)
    obtain ⟨ha, ht⟩ := (resolveClass_links e.toSetting (hW.classLinks hcl)).op (op := VmOp.resolveClass f.method.cls x.catchType) rfl
    obtain ⟨k0, hk0, -⟩ := Vm.findClass_spec hC
    obtain ⟨k1, hk1, -⟩ := hW'.alike.2.2 _ _ hk0
    obtain ⟨k2, hk2, -⟩ := hW'.alike.2.2 _ _ hkt
    rcases hcase with ⟨hy, hpc⟩ | ⟨hno, hr⟩
    · have hpc' : x.handlerPc = tgt := hpc
      obtain ⟨c0, t0, f1, f2, f3⟩ := Cond.castable_spec (hts _ hy)
      cases hC.symm.trans f1
      cases hc'.symm.trans f2
      have hfit : (S.vm.noted f.method.cls x.catchType (.cls c')).assignable cell.cls c' = true := by rw [hW'.alike.assignable]; exact f3
      refine ⟨_, hW', fun Q F d acts => ?_⟩
      simp [findHandler.go, p1', p2', p3', ha, ht, hcell, hobj, hk1, hk2, hfit, hpc', VmOp.dirties, VmOp.acts]
    · have hv := Cond.holds_not_iff.mp (hts _ hno)
      simp only [Cond.value, hC, hc'] at hv
      have hfit : (S.vm.noted f.method.cls x.catchType (.cls c')).assignable cell.cls c' = false := by rw [hW'.alike.assignable]; exact Option.some.inj hv
      obtain ⟨vm', g1, g2⟩ := ih (S.setVm (S.vm.noted f.method.cls x.catchType (.cls c'))) hW' hcell hr
      refine ⟨vm', g1, fun Q F d acts => ?_⟩
      have := g2 Q F d acts
      simp [findHandler.go, p1', p2', p3', ha, ht, hcell, hobj, hk1, hk2, hfit, VmOp.dirties, VmOp.acts] at this ⊢
      exact this
theorem xcaught {tb : Tables} {e : Env} {u target : State} {g : JFrame} {c : Code} {below : List Frame} {a : Addr} (h : At u g.method c below) {pc : Nat} {vm' : Vm}
    (hf : ∀ (Q : Handler → Pre) (F : CtlPost) (d : Bool) (acts : List Action), wp (findHandler g a) Q F e d acts ((u.setTop g).pushFrame (.throwing a)) ↔ Q (.found pc) d acts (((u.setTop g).pushFrame (.throwing a)).setVm vm'))
    (hrest : Steps tb e below ((u.setVm vm').setTop { g with pc := pc, stack := [.ref a] }) target) : Steps tb e below ((u.setTop g).pushFrame (.throwing a)) target := by
  obtain ⟨hgo, hw⟩ := h.throwing a
  refine Steps.head hgo hw ?_
  obtain ⟨g₀, hg⟩ := Option.isSome_iff_exists.mp h.top
  obtain ⟨r, hr⟩ := State.topJava?_eq_some.mp hg
  have key : (stepThrowing e ((u.setTop g).pushFrame (.throwing a)) a (.java g :: u.frames.tail)).1 = (((u.setTop g).pushFrame (.throwing a)).setVm vm').setFrames (.java { g with pc := pc, stack := [.ref a] } :: u.frames.tail) := by
    simp only [stepThrowing, searchFrame, vmDo]
    generalize hz : Sem.go _ e false [] _ = res
    obtain ⟨as, rfl, -⟩ := Sem.eq_ok_of hz (a := Handler.found pc) (s' := ((u.setTop g).pushFrame (.throwing a)).setVm vm') (acts' := []) (by simp [hf _ _ _ _])
    rfl
  rw [stepThread_throwing (frames_entered h.top _), key, hr, List.tail_cons, State.pushFrame, State.setTop_of_frames _ hr]
  have hr' : (u.setVm vm').frames = .java g₀ :: r := hr
  rw [State.setTop_of_frames _ hr'] at hrest
  have e1 : ∀ (F G : List Frame), ((u.setFrames F).setVm vm').setFrames G = (u.setVm vm').setFrames G := fun F G => by
    have : (u.setFrames F).setVm vm' = (u.setVm vm').setFrames F := rfl
    rw [this, State.setFrames_setFrames]
  rw [State.setFrames_setFrames, e1]
  exact hrest
section XThrows
variable {E : xE} {mi : xMI} {d kc ks pc : Nat} {Post : xO → xWd → Prop} {L st : List Value} {w : xWd}
theorem XT.catch {C : String} {tgt : Nat} (hcat : xCat (xy mi).cls C pc tgt (xhs mi)) (k : ∀ x, XR E mi d kc ks Post tgt L [.ref x] w) : XT E mi d (kc + 1) (ks + 6) Post pc L C w := by
  intro p e R s m args below meth c hB H locs cells slots ls st x hl hH hex hS h1 h2 T hT X
  subst hT
  obtain ⟨cell, c1, c2, c3, c4⟩ := hex
  have hpl : e.platform.magicAccessors = ({} : Platform).magicAccessors := by rw [X.admits.platform]
  have hobj : ∀ k, cell.vm ≠ .statics k := fun k h => by rw [h] at c2; cases c2
  have hex2 := hB.2.2.2.2.2.2.2.2.1
  rw [← hex2] at hcat
  obtain ⟨vm', hW', hq⟩ := xfind (e := e) (f := F0 m pc ls st) (a := x) hB.2.2.2.2.1 hpl hB.2.2.2.1 hobj c3 c.exceptionTable.toList ((T.setTop (F0 m pc ls st)).pushFrame (.throwing x)) (by rw [Stand.throwing_vm]; exact X.warmed) (by rw [Stand.throwing_heap]; exact c1) hcat
  have X' := X.noted hW'
  obtain ⟨t, a1, a2⟩ := k x p e R s m args below meth c hB T.heap locs cells slots ls hl hH hS (by omega) (by omega) (T.setVm vm') rfl X'
  refine ⟨t, xcaught (g := F0 m pc ls st) X.here (fun Q F d acts => ?_) a1, ?_⟩
  · rw [W.findHandler_eq (meth := meth) (code := c) (by rw [Stand.throwing_vm]; exact X.method') X.code]
    exact hq Q F d acts
  · have e1 : cells + (kc + 1) - 1 = cells + kc := by omega
    have e2 : slots + (ks + 6) - 6 = slots + ks := by omega
    rw [e1, e2]; exact a2
/-- a walk may begin anew where it stands -/
theorem xrebase {p : Program} {l : Launch} {e : Env} {R : Room} {s : State} {m : MethodId} {args : Array Value} {below : List Frame} {meth : Method} {c : Code} {T : State} {locs : List Loc} {cells slots k n : Nat}
    (X : Stand p l e R s m args below meth c T locs cells slots) (hk : cells + k ≤ R.cells) (hn : slots + n ≤ R.slots) :
    ∃ s' : State, s'.heap = T.heap ∧ s'.vm = s.vm ∧ Stand p l e { R with cells := k, slots := n } s' m args below meth c T [] 0 0 ∧
      ∀ t : State, s'.sameButNew ({ t with vm := s'.vm } : State) [] k n → s.sameButNew ({ t with vm := s.vm } : State) locs (cells + k) (slots + n) := by
  have e1 := X.same.1
  have hdrop : T.heap.toList.drop T.heap.size = [] := List.drop_eq_nil_of_le (by simp)
  refine ⟨({ s with heap := T.heap, slotsUsed := T.slotsUsed } : State), rfl, rfl, ⟨X.admits, X.cas, X.clock, X.frames, ?_, X.hears, X.method, X.code, X.here, X.tail, X.warmed, X.limits, X.bytes, e1, Nat.le_refl _, Nat.le_refl _, ?_, ?_, fun a cl h => ⟨cl, h, rfl, rfl, fun _ _ => rfl⟩⟩, ?_⟩
  · have hr := X.room
    have hb := X.book
    have hz := X.heapSize
    have hu := X.used
    simp only [State.hasRoom, Bool.and_eq_true, decide_eq_true_eq] at hr ⊢
    obtain ⟨⟨⟨⟨r1, r2⟩, r3⟩, r4⟩, r5⟩ := hr
    refine ⟨⟨⟨⟨r1, r2⟩, ?_⟩, ?_⟩, hb⟩
    · show T.heap.size + k ≤ _
      omega
    · show T.slotsUsed + n ≤ _
      omega
  · show T.slotsUsed = T.slotsUsed + ((T.heap.toList.drop T.heap.size).map (·.slots.size)).sum
    rw [hdrop]; rfl
  · show ((T.heap.toList.drop T.heap.size).map (·.slots.size)).sum ≤ 0
    rw [hdrop]; exact Nat.le_refl _
  · intro t h
    have h3 : (T.setVm s.vm).sameButNew ({ t with vm := s.vm } : State) [] k n := by
      obtain ⟨q1, q2, q3, q4, q5, q6⟩ := h
      refine ⟨?_, q2, q3, q4, q5, q6⟩
      have e2 : (T.setVm s.vm) = ({ s with heap := T.heap, slotsUsed := T.slotsUsed } : State).setFrames T.frames := e1
      rw [e2, State.setFrames_setFrames]
      exact q1
    have h4 := X.same.trans h3
    rw [List.append_nil] at h4
    exact h4
theorem xH.grown {H H1 : Heap} (h : xH E w H) (hw : ¬ w.1 < 26) (hz : H.size ≤ H1.size) (ho : ∀ a, a < H.size → H1[a]? = H[a]?) : xH E w H1 :=
  ⟨fun k hk => (h.1 k hk).kept (ho _ (show xB E + k < H.size by have := h.2.1; omega)), Nat.le_trans h.2.1 hz, fun q => absurd q hw⟩
theorem XR.throw {index ic : Nat} {C : String} {names : List String} (hd0 : decode (xcc mi) pc = .ok (.new index, 3)) (hd1 : decode (xcc mi) (pc + 3) = .ok (.dup, 1)) (hd2 : decode (xcc mi) (pc + 3 + 1) = .ok (.invokespecial ic, 3)) (hd3 : decode (xcc mi) (pc + 3 + 1 + 3) = .ok (.athrow, 1))
    (hcl : Cond.classLink (xy mi).cls index C ∈ xTs) (hins : Cond.instantiable C 6 ∈ xTs) (hini : Cond.initialized C ∈ xTs) (hfc : Bundle.fit C = true) (hfn : ∀ n ∈ names, Bundle.fit n = true) (hat : ∀ a ∈ Bundle.ownAtoms0 (xy mi).cls ic C names, a ∈ xTs ∨ a ∈ xTw)
    (hw : ¬ w.1 < 26) (hout : ∀ x ∈ xhs mi, ¬ (x.1 ≤ pc + 3 + 1 + 3 ∧ pc + 3 + 1 + 3 < x.2.1)) (hdd : names.length + 3 < d) (hst : (st.map fun v => v.category).sum ≤ 8) (hP : Post (.inr C) w) : XR E mi d kc ks Post pc L st w := by
  intro p e R s m args below meth c hB H locs cells slots ls hl hH hS h1 h2 T hT X
  subst hT
  have hC := hB.2.2.2.2.2.2.2.2.2.1
  have hR := hB.2.2.2.2.2.2.2.2.2.2
  have hts := hB.2.2.2.2.1
  have hex2 := hB.2.2.2.2.2.2.2.2.1
  have hlocks := hB.2.2.2.2.2.2.1
  obtain ⟨s', eh, ev, X0, hback⟩ := xrebase X (k := 1) (n := 6) (by omega) (by omega)
  have hW0 : s.WarmedH s'.vm := by rw [ev]; exact State.WarmedH.refl s
  have hts0 : ∀ x ∈ xTs, x.before args s' = true := fun x hx => xTs_good x hx s s' args args hW0 (hts x hx)
  have htw0 : ∀ x ∈ xTw, x.before args s' = true := fun x hx => hC.2.2.2.2 s' hW0.alike (fun q hq => by rw [eh]; exact xS.old hC hS q hq) args x hx
  have htr : e.platform.stackTraces = false := by rw [X.admits.platform]; exact hC.1
  have hown : s'.vm.findClass (xy mi).cls = some m.cls := by rw [ev]; exact hB.2.2.2.1
  have hWalk : W p (xl E) e { R with cells := 1, slots := 6 } s' m args below meth c T.heap [] 0 0 (fun t => t.status = .running ∧ Ended t below (.threw T.heap.size) ∧ s'.WarmedH t.vm ∧ s'.sameButNew ({ t with vm := s'.vm } : State) [] (0 + 1) (0 + 6) ∧ ∃ ce, t.heap[T.heap.size]? = some ce ∧ ce.vm = .none ∧ s'.vm.findClass C = some ce.cls) (F0 m pc ls st) := by
    refine W.newc hB.1 hB.2.1 (own := (xy mi).cls) hown (hts0 _ hcl) (hts0 _ hins) (hts0 _ hini) rfl hd0 (Nat.le_refl _) (Nat.le_refl _) fun cC kC g1 g2 g3 g4 => ?_
    refine lv_dup hB.1 hB.2.1 hd1 rfl ?_
    intro T2 hT2 X2
    have hcell : T2.heap[T.heap.size]? = some (freshCell cC kC) := by rw [hT2]; simp [freshCell]
    have hout2 : ∀ x ∈ c.exceptionTable.toList, covers x (pc + 3 + 1 + 3) = false := fun z hz => by
      have hm : (z.startPc, z.endPc, z.handlerPc, z.catchType) ∈ xhs mi := by rw [← hex2]; exact List.mem_map.mpr ⟨z, hz, rfl⟩
      have := hout _ hm
      simp only [covers, Bool.and_eq_false_imp, decide_eq_true_eq, decide_eq_false_iff_not]
      intro q1 q2
      exact this ⟨q1, q2⟩
    have hloc : 2 * (F0 m (pc + 3 + 1) ls (.ref T.heap.size :: .ref T.heap.size :: st)).monitorRoom + ((Value.ref T.heap.size :: st).map fun v => v.category).sum + (13 * (names.length + 1) + 41) ≤ R.locals := by
      have := hR.2
      unfold xlo at this
      show 2 * 0 + (1 + (st.map fun v => v.category).sum) + _ ≤ R.locals
      omega
    have hfr : names.length + 3 < R.frames := by omega
    obtain ⟨U, u1, u2, u3, u4, u5, ce, u6, u7⟩ := X2.ctorThrow0 hB.1 htr (own := (xy mi).cls) (cls := C) (names := names) (ic := ic) hown hfc hfn (fun a ha => by
        rcases hat a ha with q | q
        · exact hts0 a q
        · exact htw0 a q) (fun x hx => by cases hx) (a := T.heap.size) g1 g2 hcell (by rw [eh]; exact Nat.le_refl _) (g := F0 m (pc + 3 + 1) ls (.ref T.heap.size :: .ref T.heap.size :: st)) rfl (by rw [hB.2.2.1]; exact hl.1) rfl rfl (rest := st) rfl
        (by rw [hB.2.1]; exact hd2) (by rw [hB.2.1]; exact hd3) hout2 hfr hloc hlocks
    exact ⟨U, u1, u2, u3, u4, u5, ce, u6, u7.vm, u7.cls⟩
  obtain ⟨t, a1, b1, b2, b3, b4, ce, b5, b6, b7⟩ := hWalk T rfl X0
  have hz : T.heap.size ≤ t.heap.size := by rw [← eh]; exact b4.2.1
  have ho : ∀ a, a < T.heap.size → t.heap[a]? = T.heap[a]? := fun a ha => by
    have hx : T.heap[a]? = some T.heap[a] := Array.getElem?_eq_getElem ha
    rw [hx]
    exact b4.old_cell (by rw [eh]; exact hx)
  have h4 := (hback t b4).mono (show cells + 1 ≤ cells + kc + 1 by omega) (show slots + 6 ≤ slots + ks + 6 by omega)
  have hWt : s.WarmedH t.vm := State.WarmedH.trans hW0 b3
  refine ⟨t, a1, .threw T.heap.size, b1, b2, ⟨w, C, hP, hH.grown hw hz ho, ce, b5, by rw [b6]; rfl, by rw [b3.alike.findClass]; exact b7, Nat.le_trans (Nat.le_add_right _ _) hH.2.1⟩, hWt, fun q hq => ?_, locs, h4, hS.2.2⟩
  rw [ho q (Nat.lt_of_lt_of_le hq (Nat.le_trans (Nat.le_add_right _ _) hH.2.1))]
  exact xS.old hC hS q hq
end XThrows
