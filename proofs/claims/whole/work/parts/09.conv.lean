/-! rules as the walks take them -/
abbrev xm (σ : xS) : xWd := (26, 23, σ)
def bz (b : Bool) : Int32 := if b then 1 else 0
abbrev xn (x : Int32) : Nat := x.toNatClampNeg
theorem narrow_bz (b : Bool) : narrow .boolean (.int (bz b)) = .int (bz b) := by cases b <;> rfl
theorem xo1 : Int32.ofInt 1 = 1 := by decide
theorem xom1 : Int32.ofInt (-1) = -1 := by decide
theorem xle {a b : Nat} (h : Nat.ble a b = true) : a ≤ b := Nat.le_of_ble_eq_true h
theorem xnlt {a b : Nat} (h : Nat.ble b a = true) : ¬ a < b := Nat.not_lt.mpr (Nat.le_of_ble_eq_true h)
theorem pl_B : plainFor (xy i_B_bank) = true := by decide +kernel
/-- it returns v and leaves the world w' -/
def xok (v : Option Value) (w' : xWd) : xO → xWd → Prop := fun o w => o = .inl v ∧ w = w'
/-- where c holds it throws C and leaves the world wC, else it returns v and leaves wv -/
def xtry (c : Prop) (C : String) (wC : xWd) (v : Option Value) (wv : xWd) : xO → xWd → Prop := fun o w => (c → o = .inr C ∧ w = wC) ∧ (¬ c → o = .inl v ∧ w = wv)
section XConv
variable {E : xE} {mi mj : xMI} {d kc ks pc d' : Nat} {Post Post' : xO → xWd → Prop} {L st as st0 : List Value} {w w' : xWd}
theorem XC.ofF (hpl : plainFor (xy mi) = true) (hcd : xCd mi) (hca0 : (as.all fun v => v.category == 1) = true) (hn : as.length ≤ xnL mi) (h : XR E mi d kc ks Post 0 as [] w) : XC E mi d kc ks as w Post := by
  have hca : ∀ v ∈ as, v.category = 1 := fun v hv => by simpa using List.all_eq_true.mp hca0 v hv
  refine MetFree.of_bodySF (code := xcc mi) (maxLocals := xnL mi) (ret := xrt mi) hpl ?_ ?_
  · intro A s m hp hnm
    obtain ⟨mk, meth, c, b1, b2, b3, b4, b5, b6, b7, -, -⟩ := hcd.spec (atoms_spec (ws := xTs) hp)
    cases hnm.symm.trans b1
    exact ⟨meth, c, b2, b3, b4, b5, b6, b7⟩
  · intro p e s m args below meth c s₁ B hml hP _
    obtain ⟨rfl, hH, hC⟩ := hP
    have hts := atoms_spec (ws := xTs) B.pre
    have hh0 : s₁.heap = s.heap := by rw [B.state]; rfl
    obtain ⟨mk, meth', c', b1, b2, b3, b4, b5, b6, b7, b8, -⟩ := hcd.spec hts
    cases B.named.symm.trans b1
    cases B.method.symm.trans b2
    have hc' : meth.code = some c := (Stand.of_body B).code
    cases hc'.symm.trans b3
    have hB : xB0 E mi d p (xrm d kc ks) s m as.toArray meth c := ⟨B.exec, b4, b5, findClass_of_methodNamed B.named, hts, b6, b7, (name_of_methodNamed B.named B.method).1, b8, hC, Nat.le_refl _, Nat.le_refl _⟩
    have hW := h p e (xrm d kc ks) s m as.toArray below meth c hB s.heap [] 0 0 _ (xL.entry hca hn) hH va_S.rf (by simp [xrm]) (by simp [xrm])
    obtain ⟨t, a1, o, b1, b2, b3⟩ := hW s₁ hh0 (Stand.of_body B)
    rw [lg_entry_eq]
    exact ⟨t, o, a1, b1, b2, by simpa using b3⟩
theorem XC.mono (h : XC E mi d kc ks as w Post) (hp : ∀ o w', Post o w' → Post' o w') : XC E mi d kc ks as w Post' := by
  intro p e ha hc hk s m args below hf happ hP hK
  obtain ⟨n, o, h1, h2, h3, h4⟩ := h p e ha hc hk s m args below hf happ hP hK
  refine ⟨n, o, h1, h2, h3, ?_⟩
  cases o with
  | returned v =>
    obtain ⟨⟨w', a, b⟩, c⟩ := h4
    exact ⟨⟨w', hp _ _ a, b⟩, c⟩
  | threw x =>
    obtain ⟨⟨w', C, a, b⟩, c⟩ := h4
    exact ⟨⟨w', C, hp _ _ a, b⟩, c⟩
theorem XR.mono (h : XR E mi d kc ks Post' pc L st w) (hp : ∀ o w', Post' o w' → Post o w') : XR E mi d kc ks Post pc L st w := by
  intro p e R s m args below meth c hB H locs cells slots ls hl hH hS h1 h2
  refine xW.imp (fun t ht => ?_) (h p e R s m args below meth c hB H locs cells slots ls hl hH hS h1 h2)
  obtain ⟨o, q1, q2, q3⟩ := ht
  refine ⟨o, q1, q2, ?_⟩
  cases o with
  | returned v =>
    obtain ⟨⟨w', a, b⟩, c⟩ := q3
    exact ⟨⟨w', hp _ _ a, b⟩, c⟩
  | threw x =>
    obtain ⟨⟨w', C, a, b⟩, c⟩ := q3
    exact ⟨⟨w', C, hp _ _ a, b⟩, c⟩
theorem XR.iincN {i n : Nat} {L' : List Value} (hd : decode (xcc mi) pc = .ok (.iinc i 1, 3)) (hi : L[i]? = some (.int (nI n))) (hj : i < xnL mi) (hl : xst L i (.int (nI (n + 1))) = L') (k : XR E mi d kc ks Post (pc + 3) L' st w) : XR E mi d kc ks Post pc L st w :=
  XR.iinc hd hi (by rw [xo1, nI_1]) hj hl k
theorem XR.iinc1 {i : Nat} {x : Int32} {L' : List Value} (hd : decode (xcc mi) pc = .ok (.iinc i 1, 3)) (hi : L[i]? = some (.int x)) (hj : i < xnL mi) (hl : xst L i (.int (x + 1)) = L') (k : XR E mi d kc ks Post (pc + 3) L' st w) : XR E mi d kc ks Post pc L st w :=
  XR.iinc hd hi (by rw [xo1]) hj hl k
theorem XR.iincm {i : Nat} {x : Int32} {L' : List Value} (hd : decode (xcc mi) pc = .ok (.iinc i (-1), 3)) (hi : L[i]? = some (.int x)) (hj : i < xnL mi) (hl : xst L i (.int (x - 1)) = L') (k : XR E mi d kc ks Post (pc + 3) L' st w) : XR E mi d kc ks Post pc L st w :=
  XR.iinc hd hi (by rw [xom1, Int32.sub_eq_add_neg]) hj hl k
theorem XR.ialoadN {q n i : Nat} (hd : decode (xcc mi) pc = .ok (.iaload, 1)) (hq : q < w.1) (he : ∀ f, xen E w.2.1 q f = .inl (xcI E, n, .inl f)) (hx : i < n) (hn : n < 2 ^ 31) (k : XR E mi d kc ks Post (pc + 1) L (.int (w.2.2 q i) :: st) w) : XR E mi d kc ks Post pc L (.int (nI i) :: .ref (xB E + q) :: st) w :=
  XR.iaload hd hq he (vp_in_nI hx hn) (by rw [nI_clamp (by omega)]; exact k)
theorem XR.baloadN {q n i : Nat} (hd : decode (xcc mi) pc = .ok (.baload, 1)) (hq : q < w.1) (he : ∀ f, xen E w.2.1 q f = .inl (xcZ E, n, .inl f)) (hx : i < n) (hn : n < 2 ^ 31) (k : XR E mi d kc ks Post (pc + 1) L (.int (w.2.2 q i) :: st) w) : XR E mi d kc ks Post pc L (.int (nI i) :: .ref (xB E + q) :: st) w :=
  XR.baload hd hq he (vp_in_nI hx hn) (by rw [nI_clamp (by omega)]; exact k)
theorem XR.iastoreN {n r q a i : Nat} {σ : xS} {x : Int32} (hd : decode (xcc mi) pc = .ok (.iastore, 1)) (hq : q < n) (he : ∀ f, xen E r q f = .inl (xcI E, a, .inl f)) (hx : i < a) (ha : a < 2 ^ 31) (k : XR E mi d kc ks Post (pc + 1) L st (n, r, xu σ q i x)) : XR E mi d kc ks Post pc L (.int x :: .int (nI i) :: .ref (xB E + q) :: st) (n, r, σ) :=
  XR.iastore hd hq he (vp_in_nI hx ha) (by rw [nI_clamp (by omega)]; exact k)
theorem XR.bastoreN {n r q a i : Nat} {σ : xS} {x : Int32} (hd : decode (xcc mi) pc = .ok (.bastore, 1)) (hq : q < n) (he : ∀ f, xen E r q f = .inl (xcZ E, a, .inl f)) (hx : i < a) (ha : a < 2 ^ 31) (hn : narrow .boolean (.int x) = .int x) (k : XR E mi d kc ks Post (pc + 1) L st (n, r, xu σ q i x)) : XR E mi d kc ks Post pc L (.int x :: .int (nI i) :: .ref (xB E + q) :: st) (n, r, σ) :=
  XR.bastore hd hq he (vp_in_nI hx ha) hn (by rw [nI_clamp (by omega)]; exact k)
theorem XR.getref {q ci fk index N o q2 : Nat} {C : String} {T : u_T} {fs : List Value} (hd : decode (xcc mi) pc = .ok (.getfield index, 3)) (hq : q < w.1) (he : xen E w.2.1 q (w.2.2 q) = .inr (ci, fs)) (hc : vwCl[ci]? = some (C, T, N)) (hin : ∀ x ∈ u_ws C T N, x ∈ xTs) (hk : fk < N) (hl : Cond.fieldLink (xy mi).cls index (T fk).1 (T fk).2.1 (T fk).2.2.1 ∈ xTs) (hv : fs[fk]? = some (xob E w.2.1 o q2)) (ho : o < w.2.1)
    (k : XR E mi d kc ks Post (pc + 3) L (.ref (xB E + q2) :: st) w) : XR E mi d kc ks Post pc L (.ref (xB E + q) :: st) w := by
  refine XR.getfield hd hq he hc hin hk hl (v := .ref (xB E + q2)) ?_ k
  rw [hv]
  simp only [xob, if_pos ho]
theorem XR.getint {q ci fk index N : Nat} {C : String} {T : u_T} {fs : List Value} {x : Int32} (hd : decode (xcc mi) pc = .ok (.getfield index, 3)) (hq : q < w.1) (he : xen E w.2.1 q (w.2.2 q) = .inr (ci, fs)) (hc : vwCl[ci]? = some (C, T, N)) (hin : ∀ x ∈ u_ws C T N, x ∈ xTs) (hk : fk < N) (hl : Cond.fieldLink (xy mi).cls index (T fk).1 (T fk).2.1 (T fk).2.2.1 ∈ xTs) (hv : fs[fk]? = some (.int x))
    (k : XR E mi d kc ks Post (pc + 3) L (.int x :: st) w) : XR E mi d kc ks Post pc L (.ref (xB E + q) :: st) w := XR.getfield hd hq he hc hin hk hl hv k
theorem XR.zreturn {b : Bool} (hd : decode (xcc mi) pc = .ok (.ireturn, 1)) (hty : xrt mi = some .boolean) (hP : Post (.inl (some (.int (bz b)))) w) : XR E mi d kc ks Post pc L [.int (bz b)] w := XR.ireturn hd hty (narrow_bz b) hP
theorem XR.zret0 (hd : decode (xcc mi) pc = .ok (.ireturn, 1)) (hty : xrt mi = some .boolean) (hP : Post (.inl (some (.int 0))) w) : XR E mi d kc ks Post pc L [.int 0] w := XR.ireturn hd hty (narrow_bz false) hP
theorem XR.zret1 (hd : decode (xcc mi) pc = .ok (.ireturn, 1)) (hty : xrt mi = some .boolean) (hP : Post (.inl (some (.int 1))) w) : XR E mi d kc ks Post pc L [.int 1] w := XR.ireturn hd hty (narrow_bz true) hP
theorem XR.xreturn {x : Int32} (hd : decode (xcc mi) pc = .ok (.ireturn, 1)) (hty : xrt mi = some .int) (hP : Post (.inl (some (.int x))) w) : XR E mi d kc ks Post pc L [.int x] w := XR.ireturn hd hty rfl hP
/-- a call of an object's method that returns -/
theorem XR.cV {index q ci N : Nat} {C : String} {Tu : u_T} {fs : List Value} {v : Option Value} (hd : decode (xcc mi) pc = .ok (.invokevirtual index, 3)) (hl : Cond.methodLink (xy mi).cls index (xy mj) ∈ xTs) (hk : xKV mj C as.length) (hM : XC E mj d' 0 0 (.ref (xB E + q) :: as) w (xok v w'))
    (hst0 : st0 = as.reverse ++ .ref (xB E + q) :: st) (hq : q < w.1) (he : xen E w.2.1 q (w.2.2 q) = .inr (ci, fs)) (hc : vwCl[ci]? = some (C, Tu, N)) (hdd : d' + 1 ≤ d) (hst : (st.map fun v => v.category).sum + xnL mj ≤ 17)
    (k : XR E mi d kc ks Post (pc + 3) L (v.toList ++ st) w') : XR E mi d kc ks Post pc L st0 w :=
  XR.callV hd hl hk.1 hk.2.1 hk.2.2.1 hk.2.2.2.1 hk.2.2.2.2.1 rfl hq he hc hk.2.2.2.2.2 hst0 hM hdd hst (Nat.zero_le _) (Nat.zero_le _) (fun u w1 h => by obtain ⟨h1, rfl⟩ := h; cases h1; exact k) (fun C w1 h => by obtain ⟨h1, -⟩ := h; cases h1)
theorem XR.cS {index : Nat} {v : Option Value} (hd : decode (xcc mi) pc = .ok (.invokestatic index, 3)) (hl : Cond.methodLink (xy mi).cls index (xy mj) ∈ xTs) (hk : xKS mj as.length) (hM : XC E mj d' 0 0 as w (xok v w'))
    (hst0 : st0 = as.reverse ++ st) (hdd : d' + 1 ≤ d) (hst : (st.map fun v => v.category).sum + xnL mj ≤ 17)
    (k : XR E mi d kc ks Post (pc + 3) L (v.toList ++ st) w') : XR E mi d kc ks Post pc L st0 w :=
  XR.callS hd hl hk.1 hk.2.1 hk.2.2.1 hk.2.2.2.1 hk.2.2.2.2 hst0 hM hdd hst (Nat.zero_le _) (Nat.zero_le _) (fun u w1 h => by obtain ⟨h1, rfl⟩ := h; cases h1; exact k) (fun C w1 h => by obtain ⟨h1, -⟩ := h; cases h1)
/-- .. that may throw: the caller has no handlers -/
theorem XR.cVt {index q ci N : Nat} {C X : String} {Tu : u_T} {fs : List Value} {v : Option Value} {cnd : Prop} {wC : xWd} (hd : decode (xcc mi) pc = .ok (.invokevirtual index, 3)) (hl : Cond.methodLink (xy mi).cls index (xy mj) ∈ xTs) (hk : xKV mj C as.length) (hM : XC E mj d' 0 0 (.ref (xB E + q) :: as) w (xtry cnd X wC v w'))
    (hst0 : st0 = as.reverse ++ .ref (xB E + q) :: st) (hq : q < w.1) (he : xen E w.2.1 q (w.2.2 q) = .inr (ci, fs)) (hc : vwCl[ci]? = some (C, Tu, N)) (hdd : d' + 1 ≤ d) (hst : (st.map fun v => v.category).sum + xnL mj ≤ 17) (hno : xhs mi = [])
    (kt : cnd → Post (.inr X) wC) (k : ¬ cnd → XR E mi d kc ks Post (pc + 3) L (v.toList ++ st) w') : XR E mi d kc ks Post pc L st0 w := by
  by_cases hcn : cnd
  · exact XR.callV hd hl hk.1 hk.2.1 hk.2.2.1 hk.2.2.2.1 hk.2.2.2.2.1 rfl hq he hc hk.2.2.2.2.2 hst0 hM hdd hst (Nat.zero_le _) (Nat.zero_le _) (fun u w1 h => by obtain ⟨h1, -⟩ := h.1 hcn; cases h1)
      (fun C w1 h => by obtain ⟨h1, rfl⟩ := h.1 hcn; cases h1; exact XT.leave (by rw [hno]; intro x hx; cases hx) (kt hcn))
  · exact XR.callV hd hl hk.1 hk.2.1 hk.2.2.1 hk.2.2.2.1 hk.2.2.2.2.1 rfl hq he hc hk.2.2.2.2.2 hst0 hM hdd hst (Nat.zero_le _) (Nat.zero_le _) (fun u w1 h => by obtain ⟨h1, rfl⟩ := h.2 hcn; cases h1; exact k hcn)
      (fun C w1 h => by obtain ⟨h1, -⟩ := h.2 hcn; cases h1)
theorem XR.cSt {index : Nat} {X : String} {v : Option Value} {cnd : Prop} {wC : xWd} (hd : decode (xcc mi) pc = .ok (.invokestatic index, 3)) (hl : Cond.methodLink (xy mi).cls index (xy mj) ∈ xTs) (hk : xKS mj as.length) (hM : XC E mj d' 0 0 as w (xtry cnd X wC v w'))
    (hst0 : st0 = as.reverse ++ st) (hdd : d' + 1 ≤ d) (hst : (st.map fun v => v.category).sum + xnL mj ≤ 17) (hno : xhs mi = [])
    (kt : cnd → Post (.inr X) wC) (k : ¬ cnd → XR E mi d kc ks Post (pc + 3) L (v.toList ++ st) w') : XR E mi d kc ks Post pc L st0 w := by
  by_cases hcn : cnd
  · exact XR.callS hd hl hk.1 hk.2.1 hk.2.2.1 hk.2.2.2.1 hk.2.2.2.2 hst0 hM hdd hst (Nat.zero_le _) (Nat.zero_le _) (fun u w1 h => by obtain ⟨h1, -⟩ := h.1 hcn; cases h1)
      (fun C w1 h => by obtain ⟨h1, rfl⟩ := h.1 hcn; cases h1; exact XT.leave (by rw [hno]; intro x hx; cases hx) (kt hcn))
  · exact XR.callS hd hl hk.1 hk.2.1 hk.2.2.1 hk.2.2.2.1 hk.2.2.2.2 hst0 hM hdd hst (Nat.zero_le _) (Nat.zero_le _) (fun u w1 h => by obtain ⟨h1, rfl⟩ := h.2 hcn; cases h1; exact k hcn)
      (fun C w1 h => by obtain ⟨h1, -⟩ := h.2 hcn; cases h1)
/-- a call whose end is told by a predicate, and which returns -/
theorem XR.cVp {index q ci N : Nat} {C : String} {Tu : u_T} {fs : List Value} (hd : decode (xcc mi) pc = .ok (.invokevirtual index, 3)) (hl : Cond.methodLink (xy mi).cls index (xy mj) ∈ xTs) (hk : xKV mj C as.length) {P : Option Value → xWd → Prop} (hM : XC E mj d' 0 0 (.ref (xB E + q) :: as) w (fun o w1 => ∃ v, o = .inl v ∧ P v w1))
    (hst0 : st0 = as.reverse ++ .ref (xB E + q) :: st) (hq : q < w.1) (he : xen E w.2.1 q (w.2.2 q) = .inr (ci, fs)) (hc : vwCl[ci]? = some (C, Tu, N)) (hdd : d' + 1 ≤ d) (hst : (st.map fun v => v.category).sum + xnL mj ≤ 17)
    (k : ∀ v w1, P v w1 → XR E mi d kc ks Post (pc + 3) L (v.toList ++ st) w1) : XR E mi d kc ks Post pc L st0 w :=
  XR.callV hd hl hk.1 hk.2.1 hk.2.2.1 hk.2.2.2.1 hk.2.2.2.2.1 rfl hq he hc hk.2.2.2.2.2 hst0 hM hdd hst (Nat.zero_le _) (Nat.zero_le _) (fun u w1 h => by obtain ⟨v, h1, h2⟩ := h; cases h1; exact k _ _ h2) (fun C w1 h => by obtain ⟨v, h1, -⟩ := h; cases h1)
end XConv
