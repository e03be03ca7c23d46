/-! THE CLAIM OUT OF ONE WALK OF THE LAW'S BODY. Your part is whole_start (and what it stands on); all else here is the same for every law, but numbers. -/
def R_law : String := "PageBanksLaw"
def lw_P (b : Addr) (xs : List Int32) (args : Array Value) (s : State) : Prop := args = #[.ref b] ∧ s.IntsAt b xs ∧ xs.length ≤ 2048 ∧ (Jvm.Cond.and given_1 narrow_1).before args s = true
def lw_Q (_ : Array Value) (s : State) (o : Outcome) (t : State) : Prop := o = .returned (some (.int 1)) ∧ Framed s o t [] 1056 11923
def lw_Z (below : List Frame) (a : Array Value) (s : State) : State → Prop := fun t => ∃ o, t.status = .running ∧ Ended t below o ∧ lw_Q a s o t
/-- what holds at the law's entry: the machine, the code, the tables' words (any of lw_tbl by 'hts w (by decide +kernel)'), the script of L ints xs at the cell b, what the Statement gives of the start (any of its parts by flat_of_before) -/
def lw_At (p : Program) (s : State) (m : MethodId) (meth : Method) (c : Code) (b L : Nat) (xs : Nat → Int32) : Prop :=
  p.tables.exec = Jvm.exec ∧ c.code = code ∧ meth.sig.returnType = ret ∧ c.maxLocals = 7 ∧ s.vm.findClass R_law = some m.cls ∧ (∀ w ∈ lw_tbl, w.before #[Value.ref b] s = true) ∧ va_X b L xs s s.heap ∧ b < s.heap.size ∧ meth.locks = false ∧ (Jvm.Cond.and given_1 narrow_1).before #[Value.ref b] s = true
theorem xst_keep {s U : State} (hal : s.vm.Alike U.vm) (hk : ∀ (y : Addr) (cy : Cell), s.heap[y]? = some cy → U.heap[y]? = some cy) {c n d : String} {a a' : Array Value} {v : Value} (h : (Term.static c n d).eval a s none [] s = some v) : (Term.static c n d).eval a' U none [] U = some v := by
  cases hf : s.fieldFound? c n d with
  | none => simp [Term.eval, State.fieldNamed?, hf] at h
  | some q =>
    obtain ⟨cf, k, ix, f⟩ := q
    obtain ⟨k', hf', he⟩ := State.fieldFound?_setVm hal hf
    have hf'' : U.fieldFound? c n d = some (cf, k', ix, f) := hf'
    cases hst : f.isStatic with
    | false => simp [Term.eval, State.fieldNamed?, hf, hst] at h
    | true =>
      cases hs : k.statics with
      | none => simp [Term.eval, State.fieldNamed?, hf, hst, hs] at h
      | some ad =>
        have hs' : k'.statics = some ad := by rw [he]; exact hs
        cases hc : s.heap[ad]? with
        | none => simp [Term.eval, State.fieldNamed?, hf, hst, hs, hc] at h
        | some cell =>
          cases hi : cell.vm.isStatics with
          | false => simp [Term.eval, State.fieldNamed?, hf, hst, hs, hc, hi] at h
          | true =>
            have hc' := hk ad cell hc
            simp [Term.eval, State.fieldNamed?, hf, hst, hs, hc, hi] at h
            simp [Term.eval, State.fieldNamed?, hf'', hst, hs', hc', hi, h]
theorem xlays_keep {s U : State} (hal : s.vm.Alike U.vm) (hk : ∀ (y : Addr) (cy : Cell), s.heap[y]? = some cy → U.heap[y]? = some cy) {c n d : String} {a a' : Array Value} (h : (Cond.laysStatic c n d).before a s = true) : (Cond.laysStatic c n d).before a' U = true := by
  obtain ⟨cc, k, ix, f, ad, cell, h1, h2, h3, h4, h5, h6, h7, h8, h9⟩ := Cond.laysStatic_spec h
  obtain ⟨k', hf', he⟩ := State.fieldFound?_setVm hal h2
  exact Cond.laysStatic_of (s := U) (by rw [hal.findClass]; exact h1) hf' h3 (by rw [he]; exact h4) (hk ad cell h5) h6 h7 h8 (by rw [he]; exact h9)
theorem xref_keep {s U : State} (hal : s.vm.Alike U.vm) (hk : ∀ (y : Addr) (cy : Cell), s.heap[y]? = some cy → U.heap[y]? = some cy) {c n d : String} {a a' : Array Value} (h : (Cond.isRef (.static c n d)).before a s = true) : (Cond.isRef (.static c n d)).before a' U = true := by
  cases hv : (Term.static c n d).eval a s none [] s with
  | none => simp [Cond.before, Cond.holds, Cond.value, hv] at h
  | some v =>
    have hv' : (Term.static c n d).eval a' U none [] U = some v := xst_keep hal hk hv
    simp only [Cond.before, Cond.holds, Cond.value, hv, hv'] at h ⊢
    exact h
def lawK : Prop := ∀ E : xE, xsL E ≤ 2048 → XR E i_L_law 13 538 6767 lawP 0 [.ref (xsb E)] [] (0, 0, xz0)
theorem xarr {s : State} {A : Array Value} {ty : FieldType} (hp : (match ty with | .object _ => false | .array _ => false | _ => true) = true) (h : (Cond.arrayClass ty).before A s = true) : ∃ cA : ClassId, ArrOfT s cA ty ∧ va_RA s cA ty := by
  obtain ⟨cA, kA, comp, h1, h2, h3⟩ := Cond.arrayClass_spec h
  refine ⟨cA, fun n z => ⟨fun k h => (by cases h), kA, h2, comp, h3⟩, ?_⟩
  cases ty <;> first | exact h1 | (simp at hp)
/-- from the entry, for every script of at most 2048 ints, the law comes to its end with true -/
theorem whole_start (hK : lawK) {p : Program} {e : Env} {s : State} {m : MethodId} {below : List Frame} {meth : Method} {c : Code} (l : Launch) (hl0 : l.stackTraces = false) (hnm : meth.name = "law") (hex : c.exceptionTable.isEmpty = true) {b L : Nat} {xs : Nat → Int32} (hL : L ≤ 2048) (C0 : lw_At p s m meth c b L xs) : W p l e room_1 s m #[Value.ref b] below meth c s.heap [] 0 0 (lw_Z below #[Value.ref b] s) (entryFrame m ([Value.ref b] : List Value).toArray 7) := by
  obtain ⟨c1, c2, c3, c4, c5, c6, c7, c8, c9, c10⟩ := C0
  have hfl := flat_of_before _ c10
  have hts : ∀ w ∈ xTs, w.before #[Value.ref b] s = true := by
    intro w hw
    rcases List.mem_append.mp (List.mem_filter.mp hw).1 with h | h
    · exact c6 w h
    · exact hfl w (List.all_eq_true.mp (by decide +kernel : (xNeg.all fun w => decide (w ∈ flatC (Jvm.Cond.and given_1 narrow_1))) = true) w h |> of_decide_eq_true)
  obtain ⟨cS, iS, kS⟩ := u_known hts uin_S (hts _ in_PageBanks_Store)
  obtain ⟨cT, iT, kT⟩ := u_known hts uin_T (hts _ in_PageBanks_Tree)
  obtain ⟨cB, iB, kB⟩ := u_known hts uin_B (hts _ in_PageBanks)
  obtain ⟨cM, iM, kM⟩ := u_known hts uin_M (hts _ in_PageBanksModel)
  obtain ⟨aI, aI1, aI2⟩ := xarr rfl (hts _ ar_int)
  obtain ⟨aJ, aJ1, aJ2⟩ := xarr rfl (hts _ ar_long)
  obtain ⟨aZ, aZ1, aZ2⟩ := xarr rfl (hts _ ar_boolean)
  obtain ⟨E, hE⟩ : ∃ E : xE, E = (l, (fun k => [cS, cT, cB, cM].getD k cS, fun k => [iS, iT, iB, iM].getD k iS), (aI, aJ, aZ), s.heap.size, (b, L, xs)) := ⟨_, rfl⟩
  have e1 : xl E = l := by rw [hE]
  have e2 : xB E = s.heap.size := by rw [hE]
  have e3 : xsb E = b := by rw [hE]
  have e4 : xsL E = L := by rw [hE]
  have hthr : xThr E s := by
    intro V hal hq A w hw
    have hk : ∀ (y : Addr) (cy : Cell), s.heap[y]? = some cy → V.heap[y]? = some cy := fun y cy hy => by
      rw [hq y (by rw [e2]; exact (Array.getElem?_eq_some_iff.mp hy).1)]; exact hy
    have hw' : w = .isRef (.static "java/lang/Throwable" "UNASSIGNED_STACK" "[Ljava/lang/StackTraceElement;") ∨ w = .isRef (.static "java/lang/Throwable" "SUPPRESSED_SENTINEL" "Ljava/util/List;") ∨ w = .laysStatic "java/lang/Throwable" "UNASSIGNED_STACK" "[Ljava/lang/StackTraceElement;" ∨ w = .laysStatic "java/lang/Throwable" "SUPPRESSED_SENTINEL" "Ljava/util/List;" := by
      simpa [xTw] using hw
    rcases hw' with rfl | rfl | rfl | rfl
    · exact xref_keep hal hk (hfl _ (by decide +kernel))
    · exact xref_keep hal hk (hfl _ (by decide +kernel))
    · exact xlays_keep hal hk (c6 _ (by decide +kernel))
    · exact xlays_keep hal hk (c6 _ (by decide +kernel))
  have hcx : xCx E s := by
    refine ⟨by rw [e1]; exact hl0, ⟨?_, ?_⟩, by rw [e2]; exact Nat.le_refl _, ⟨by rw [hE]; exact c7, by rw [e2, e3]; exact c8⟩, hthr⟩
    · rw [hE]
      intro k q hk
      match k, hk with
      | 0, hk => cases hk; exact kS
      | 1, hk => cases hk; exact kT
      | 2, hk => cases hk; exact kB
      | 3, hk => cases hk; exact kM
      | n + 4, hk => cases hk
    · rw [hE]
      intro k q hk
      match k, hk with
      | 0, hk => cases hk; exact ⟨aI1, aI2⟩
      | 1, hk => cases hk; exact ⟨aJ1, aJ2⟩
      | 2, hk => cases hk; exact ⟨aZ1, aZ2⟩
      | n + 3, hk => cases hk
  have hB : xB0 E i_L_law 13 p room_1 s m #[Value.ref b] meth c := ⟨c1, c2, c4, c5, hts, c3, c9, hnm, by
    have : c.exceptionTable = #[] := Array.isEmpty_iff.mp hex
    rw [this]; rfl, hcx, by decide, by decide⟩
  have hH : xH E (0, 0, xz0) s.heap := ⟨fun k hk => absurd hk (Nat.not_lt_zero k), by rw [e2]; exact Nat.le_refl _, fun _ => by rw [e2]; rfl⟩
  have hca : ∀ v ∈ [Value.ref b], v.category = 1 := fun v hv => by
    have : v = .ref b := by simpa using hv
    rw [this]; rfl
  have hw := hK E (by rw [e4]; exact hL) p e room_1 s m #[Value.ref b] below meth c hB s.heap [] 0 0 _ (xL.entry (n := 7) (by rw [e3]; exact hca) (xle rfl)) hH va_S.rf (by decide) (by decide)
  rw [e3] at hw
  intro T hT X
  obtain ⟨t, a1, o, a2, a3, a4⟩ := hw T hT (e1 ▸ X)
  rw [lg_entry_eq]
  refine ⟨t, a1, o, a2, a3, ?_⟩
  cases o with
  | returned v =>
    obtain ⟨⟨w, h1, -⟩, h2, h3, L', h4, h5⟩ := a4
    have hv : v = some (.int 1) := by cases h1; rfl
    refine ⟨by rw [hv], ⟨v, rfl⟩, h2, ?_⟩
    have := State.sameButNew.drop_fresh (L := []) (J := L') h4 (fun x hx => by have := h5 x hx; rw [e2] at this; exact this)
    exact this.mono (by decide) (by decide)
  | threw x =>
    obtain ⟨⟨w, C, h1, -⟩, -⟩ := a4
    cases h1
set_option maxHeartbeats 4000000 in
theorem lw_walk (hK : lawK) (l : Launch) (hl0 : l.stackTraces = false) (b : Addr) (xs : List Int32) : MetFree l x (headSpec (Jvm.Cond.code x code maxLocals ret :: tables_1) room_1) (lw_P b xs) (fun _ _ _ _ _ => True) lw_Q := by
  refine MetFree.of_bodyS (code := code) (maxLocals := maxLocals) (ret := ret) (by decide) ?_ ?_
  · intro args s m h hn
    obtain ⟨meth, c, h1, h2, h3, h4, h5, h6, -, -⟩ := Cond.code_spec hn (atoms_spec (ws := Jvm.Cond.code x code maxLocals ret :: tables_1) h _ List.mem_cons_self)
    exact ⟨meth, c, h1, h2, h3, h4, h5, h6⟩
  · intro p e s m args below meth c s₁ B hml0 hP _
    obtain ⟨rfl, hx, hbd, hgv⟩ := hP
    obtain ⟨scr, harrAt, hlist, hof, hsmall⟩ := hx
    obtain ⟨hcb, hkn, -, -⟩ := State.arrayAt?_spec harrAt
    have hown : s.vm.findClass R_law = some m.cls := findClass_of_methodNamed B.named
    have hts0 : ∀ c ∈ (Jvm.Cond.code x code maxLocals ret :: tables_1), c.before #[Value.ref b] s = true := atoms_spec (ws := Jvm.Cond.code x code maxLocals ret :: tables_1) B.pre
    have hts : ∀ w ∈ lw_tbl, w.before #[Value.ref b] s = true := k2_hts_sels lw_privs (fun w hw => hts0 w (List.mem_cons_of_mem _ hw)) lw_privs_ok
    have hml : c.maxLocals = 7 := B.maxLocals_eq (hts0 _ List.mem_cons_self)
    have hexc : c.exceptionTable.isEmpty = true := by
      obtain ⟨meth', c', g1, g2, -, -, -, -, g7, -⟩ := Cond.code_spec B.named (hts0 _ List.mem_cons_self)
      cases B.method.symm.trans g1
      have hc' : meth.code = some c := (Stand.of_body B).code
      cases hc'.symm.trans g2
      exact g7
    have X₀ : Stand p l e room_1 s m #[Value.ref b] below meth c s₁ [] 0 0 := Stand.of_body B
    have hh0 : s₁.heap = s.heap := by rw [B.state]; rfl
    have hsz : scr.slots.size = xs.length := by rw [← Array.length_toList, hlist, List.length_map]
    have hval : ∀ j : Nat, j < xs.length → scr.slots[j]? = some (.int (xs.getD j 0)) := fun j hj => by
      rw [← Array.getElem?_toList, hlist]
      simp [hj]
    have hbl : b < s.heap.size := (Array.getElem?_eq_some_iff.mp hcb).1
    have hX : va_X b xs.length (fun j => xs.getD j 0) s s.heap := ⟨scr, hcb, hof, hkn, hsz, hval⟩
    have K : W p l e room_1 s m #[Value.ref b] below meth c s₁.heap [] 0 0 (lw_Z below #[Value.ref b] s) (entryFrame m ([Value.ref b] : List Value).toArray 7) := by
      rw [hh0]
      exact whole_start hK l hl0 (name_of_methodNamed B.named B.method).1 hexc hbd ⟨B.exec, B.bytes, B.returns, hml, hown, hts, hX, hbl, B.notSynchronized, hgv⟩
    obtain ⟨t, a1, o, b1, b2, b3⟩ := K s₁ rfl X₀
    exact ⟨t, o, a1, b1, b2, b3⟩
theorem lw_pre_spec {args : Array Value} {s : State} (h : (Jvm.Cond.and given_1 narrow_1).before args s = true) (hr : rest_1_c.before args s = true) : ∃ (b : Addr) (xs : List Int32), lw_P b xs args s := by
  have hs := flat_of_before _ h
  have hq := flat_of_before _ hr
  have hc : (Cond.count 1).before args s = true := hs _ (by decide +kernel)
  have harr : (Cond.arrayOf (.arg 0) .int).before args s = true := hs _ (by decide +kernel)
  have hle : (Cond.le (.length (.arg 0)) (.int 2048)).before args s = true := hs _ (by decide +kernel)
  have hlen : (Cond.isInt (.length (.arg 0))).before args s = true := hq _ (by decide +kernel)
  have hall : (Cond.all (.arg 0) (.isInt (.elem (.arg 0) (.index 0)))).before args s = true := hq _ (by decide +kernel)
  obtain ⟨b, xs, hb, hx⟩ := State.ints_of_pre rfl harr hlen hall
  have hsm : xs.length < 2 ^ 31 := hx.choose_spec.2.2.2
  have hev : (Term.length (.arg 0)).eval args s none [] s = some (.int xs.length.toInt32) := hx.length_eval hb
  have hv := Cond.le_ints hev (show (Term.int 2048).eval args s none [] s = some (.int 2048) from rfl)
  have hd : xs.length.toInt32 ≤ 2048 := by
    simpa [Cond.before, Cond.holds, hv] using hle
  have hN : xs.length ≤ 2048 := (Int32.ofNat_le_ofNat hsm (by decide)).mp (show Int32.ofNat xs.length ≤ Int32.ofNat 2048 from hd)
  exact ⟨b, xs, Cond.one_arg hc (show args[0]? = some (.ref b) from hb), hx, hN, h⟩
theorem lw_comes (hK : lawK) (l : Launch) (hl0 : l.stackTraces = false) : Comes l x (Jvm.Cond.code x code maxLocals ret :: tables_1) room_1 (fun tb e args s => Calls_1 tb e args s ∧ rest_1 tb e args s ∧ Pre_1 tb e args s)
    (fun _ _ args s o t => lw_Q args s o t) := by
  intro p e ha hc hk s m args below hf hfit hheap happ hpre
  obtain ⟨b, xs, hP⟩ := lw_pre_spec hpre.2.2 hpre.2.1
  obtain ⟨k, o, h1, h2, h3, hQ⟩ := lw_walk hK l hl0 b xs p e ha hc hk s m args below hf ((Spec.applies_iff_loose hf).mp happ).1 hP trivial
  exact ⟨k, o, h1, h2, h3, hQ⟩
theorem lw_frame {s t : State} {o : Outcome} {args : Array Value} (h : Framed s o t [] 1056 11923) :
    Framed s o t (fieldLocs frame_1_writes args s ++ arrayLocs frame_1_arrays args s ++ staticLocs frame_1_statics s) 1056 11923 := h
theorem lw_limb (hK : lawK) (L : Cond) (hL : ∀ (args : Array Value) (s t : State), L.after args s (.returned (some (.int 1))) t = true) :
    ArmFor flags0 classFile x code maxLocals ret World_1 tables_1 room_1 Calls_1 rest_1 Pre_1
      (fun tb e a s o t => postC L tb e a s o t ∧ Framed s o t (fieldLocs frame_1_writes a s ++ arrayLocs frame_1_arrays a s ++ staticLocs frame_1_statics s) 1056 11923) := by
  intro l hfl _ _ p e ha hc hk s m args below hf hfit hheap happ hpre
  obtain ⟨k, o, h1, h2, h3, rfl, hF⟩ := lw_comes hK l (by rw [Launch.stackTraces, hfl]; decide) p e ha hc hk s m args below hf hfit hheap happ hpre
  exact ⟨k, _, h1, h2, h3, hL args s _, lw_frame hF⟩
