/-! System.arraycopy, and handing all pages of a bank over -/
abbrev xacp : MethodName := ⟨"java/lang/System", "arraycopy", "(Ljava/lang/Object;ILjava/lang/Object;II)V"⟩
theorem l_S_62 : Cond.methodLink "PageBanks$Store" 62 xacp ∈ xTs := xT 621 (by decide +kernel) (by decide +kernel)
theorem ac_nat : Cond.native xacp ∈ xTs := xT 623 (by decide +kernel) (by decide +kernel)
theorem ac_stat : Cond.static xacp ∈ xTs := xT 622 (by decide +kernel) (by decide +kernel)
theorem ac_words : nativeFrameWords "java/lang/System" "arraycopy" 5 ≤ 60 := by decide +kernel
section XCopy
variable {E : xE} {mi : xMI} {d kc ks pc : Nat} {Post : xO → xWd → Prop} {L st : List Value} {σ : xS}
def xws (E : xE) (σ : xS) : va_W := (List.range 26).map fun k => (xB E + k, xen E 23 k (σ k))
theorem xws_get {k : Nat} (hk : k < 26) : (xws E σ)[k]? = some (xB E + k, xen E 23 k (σ k)) := by
  simp [xws, hk]
theorem xws_lt {k : Nat} {q : Nat × va_E} (h : (xws E σ)[k]? = some q) : k < 26 := by
  have := (List.getElem?_eq_some_iff.mp h).1
  simpa [xws] using this
theorem XR.copyI {q0 q1 n0 n1 index : Nat} {sp dp n : Int32} (hd : decode (xcc mi) pc = .ok (.invokestatic index, 3)) (hl : Cond.methodLink (xy mi).cls index xacp ∈ xTs) (hq0 : q0 < 26) (hq1 : q1 < 26) (he0 : ∀ f, xen E 23 q0 f = .inl (xcI E, n0, .inl f)) (he1 : ∀ f, xen E 23 q1 f = .inl (xcI E, n1, .inl f))
    (h1 : ¬ sp < 0) (h2 : ¬ dp < 0) (h3 : ¬ n < 0) (h4 : xn sp + xn n ≤ n0) (h5 : xn dp + xn n ≤ n1) (hd1 : 1 ≤ d) (hst : (st.map fun v => v.category).sum ≤ 8)
    (k : XR E mi d kc ks Post (pc + 3) L st (xm (xup σ q1 (va_cpy (σ q0) (σ q1) (xn sp) (xn dp) (xn n))))) : XR E mi d kc ks Post pc L (.int n :: .int dp :: .ref (xB E + q1) :: .int sp :: .ref (xB E + q0) :: st) (xm σ) := by
  intro p e R s m args below meth c hB H locs cells slots ls hl2 hH hS g1 g2
  have hC := hB.2.2.2.2.2.2.2.2.2.1
  have hR := hB.2.2.2.2.2.2.2.2.2.2
  have hts := hB.2.2.2.2.1
  have hP : va_P (xD E) vwCl (xws E σ) H := fun j q hj => by
    have hj26 := xws_lt hj
    rw [xws_get hj26] at hj
    cases hj
    exact hH.1 j hj26
  have hD : va_D (fun q => xB E ≤ q) (xws E σ) := ⟨fun i j a b hi hj hab => by
    rw [xws_get (xws_lt hi)] at hi
    rw [xws_get (xws_lt hj)] at hj
    cases hi; cases hj
    have : xB E + i = xB E + j := hab
    omega, fun j q hj => by
    rw [xws_get (xws_lt hj)] at hj
    cases hj
    exact Nat.le_add_right _ _⟩
  refine va_copyi (D := xD E) (cl := vwCl) (A := fun q => xB E ≤ q) hB.1 hB.2.1 (by rw [hB.2.2.1]; exact hl2.1.symm) hB.2.2.2.1 (hts _ hl) (hts _ ac_nat) (hts _ ac_stat) (hts _ it_java_lang_System) hC.2.1 hP hD hS q0 q1 0 0 (ty := .int) (by rw [xws_get hq0, he0]) (by rw [xws_get hq1, he1]) rfl rfl rfl h1 h2 h3 h4 h5 (fun _ _ => rfl) (by omega) ?_ hd fun H1 locs1 hP1 hD1 hS1 => ?_
  · have h6 := hR.2
    unfold xlo at h6
    have h7 := ac_words
    omega
  · refine k p e R s m args below meth c hB H1 locs1 cells slots ls hl2 ⟨fun j hj => ?_, ?_, fun h => absurd h (Nat.lt_irrefl 26)⟩ hS1 g1 g2
    · have hj' : j < 26 := hj
      by_cases e1 : j = q1
      · subst e1
        have := hP1 j (xB E + j, .inl (xcI E, n1, .inl (va_cpy (σ q0) (σ j) (xn sp) (xn dp) (xn n)))) (by rw [List.getElem?_set_self (by simp [xws]; exact hj')])
        show va_at (xD E) vwCl (xB E + j, xen E 23 j (xup σ j _ j)) H1
        rw [xup_same, he1]
        exact this
      · have := hP1 j (xB E + j, xen E 23 j (σ j)) (by rw [List.getElem?_set_ne (Ne.symm e1)]; exact xws_get hj')
        show va_at (xD E) vwCl (xB E + j, xen E 23 j (xup σ q1 _ j)) H1
        rw [xup_ne e1]
        exact this
    · show xB E + 26 ≤ H1.size
      have h25 : va_at (xD E) vwCl (xB E + 25, xen E 23 25 (xup σ q1 (va_cpy (σ q0) (σ q1) (xn sp) (xn dp) (xn n)) 25)) H1 := by
        by_cases e1 : 25 = q1
        · subst e1
          exact absurd (he1 (fun _ => 0)) (by intro h; simp [xen] at h)
        · have := hP1 25 (xB E + 25, xen E 23 25 (σ 25)) (by rw [List.getElem?_set_ne (Ne.symm e1)]; exact xws_get (by decide))
          rw [xup_ne e1]
          exact this
      have : H1[xB E + 25]? = some (vp_cell (xcJ E) (1, .inr (.inl (fun i => (xup σ q1 (va_cpy (σ q0) (σ q1) (xn sp) (xn dp) (xn n)) 25 i).toInt64)))) := h25
      have := (Array.getElem?_eq_some_iff.mp this).1
      omega
end XCopy
def sGaF (frm heir : Int32) : Nat → Nat → Nat → Nat → xS → Nat × Nat × xS
  | 0, _, k, g, σ => (k, g, σ)
  | f + 1, i, k, g, σ => if σ 9 (xn (σ 12 i)) = frm then sGaF frm heir f (i + 1) k (g + 1) (xu (xu σ 9 (xn (σ 12 i)) heir) 13 g (σ 12 i)) else sGaF frm heir f (i + 1) (k + 1) g (xu σ 12 k (σ 12 i))
def sGaE (t : Nat × Nat × xS) : xS := xup t.2.2 12 (va_cpy (t.2.2 13) (t.2.2 12) 0 t.1 t.2.1)
def sGa (σ : xS) (m : Nat) (frm heir : Int32) : xS := sGaE (sGaF frm heir m 0 0 0 σ)
section XGive
variable {E : xE} {σ : xS} {x y : Int32}
theorem c_S_giveAll {m : Nat} (ho : oOK σ m) : XC E i_S_giveAll 1 0 0 [.ref (xB E + 7), .int x, .int y] (xm σ) (xok none (xm (sGa σ m x y))) := by
  refine XC.ofF (by decide +kernel) cd_S_giveAll rfl (xle rfl) ?_
  have loop : ∀ (f i k g : Nat) (τ : xS) (z : List Value), z.length ≤ 1 → i + f = m → k + g = i → oOK τ m → XR E i_S_giveAll 1 0 0 (xok none (xm (sGaE (sGaF x y f i k g τ)))) 8 ([.ref (xB E + 7), .int x, .int y, .int (nI k), .int (nI g), .int (nI i)] ++ z) [] (xm τ) := by
    intro f
    induction f with
    | zero =>
      intro i k g τ z hz hi hk ho
      have : i = m := by omega
      subst this
      have hm := ho.2.1
      have ek : xn (nI k) = k := nI_clamp (by omega)
      have eg : xn (nI g) = g := nI_clamp (by omega)
      refine XR.locals (L' := [.ref (xB E + 7), .int x, .int y, .int (nI k), .int (nI g), .int (nI i)]) (fun j v hj => by rw [List.getElem?_append_left (List.getElem?_eq_some_iff.mp hj).1]; exact hj) ?_
      refine XR.iload d_S_giveAll_8 rfl ?_
      refine XR.aload_n d_S_giveAll_10 rfl ?_
      refine XR.getint d_S_giveAll_11 (xle rfl) rfl rfl uin_S (fk := 6) (xle rfl) f_S_40 rfl ?_
      refine XR.icmp_ge d_S_giveAll_14 (tgt := 77) (by decide) (fun _ => ?_) (fun h => absurd (by show τ 7 6 ≤ nI i; rw [ho.1]; exact Int32.le_refl _) h)
      refine XR.aload_n d_S_giveAll_77 rfl ?_
      refine XR.getref d_S_giveAll_78 (xle rfl) rfl rfl uin_S (fk := 5) (xle rfl) f_S_27 rfl (xle rfl) ?_
      refine XR.iconst d_S_giveAll_81 (v := nI 0) (by decide) ?_
      refine XR.aload_n d_S_giveAll_82 rfl ?_
      refine XR.getref d_S_giveAll_83 (xle rfl) rfl rfl uin_S (fk := 4) (xle rfl) f_S_24 rfl (xle rfl) ?_
      refine XR.iload_n d_S_giveAll_86 rfl ?_
      refine XR.iload d_S_giveAll_87 rfl ?_
      refine XR.copyI d_S_giveAll_89 l_S_62 (xle rfl) (xle rfl) (fun _ => rfl) (fun _ => rfl) (by decide) (nI_pos (by omega)) (nI_pos (by omega)) (by rw [eg, show xn (nI 0) = 0 from rfl]; omega) (by rw [eg, ek]; omega) (xle rfl) (xle rfl) ?_
      rw [eg, ek, show xn (nI 0) = 0 from rfl]
      exact XR.return_ d_S_giveAll_92 rfl ⟨rfl, rfl⟩
    | succ f ih =>
      intro i k g τ z hz hi hk ho
      have h4 := ho.2.2 i (by omega)
      have hm := ho.2.1
      have e1 : ¬ τ 9 (xn (τ 12 i)) = x → sGaF x y (f + 1) i k g τ = sGaF x y f (i + 1) (k + 1) g (xu τ 12 k (τ 12 i)) := fun h => by simp only [sGaF, if_neg h]
      have e2 : τ 9 (xn (τ 12 i)) = x → sGaF x y (f + 1) i k g τ = sGaF x y f (i + 1) k (g + 1) (xu (xu τ 9 (xn (τ 12 i)) y) 13 g (τ 12 i)) := fun h => by simp only [sGaF, if_pos h]
      have ho1 : oOK (xu τ 12 k (τ 12 i)) m := ⟨ho.1, hm, fun j hj => by
        rw [xu_at]
        split
        · exact h4
        · exact ho.2.2 j hj⟩
      refine XR.locals (L' := [.ref (xB E + 7), .int x, .int y, .int (nI k), .int (nI g), .int (nI i)]) (fun j v hj => by rw [List.getElem?_append_left (List.getElem?_eq_some_iff.mp hj).1]; exact hj) ?_
      refine XR.iload d_S_giveAll_8 rfl ?_
      refine XR.aload_n d_S_giveAll_10 rfl ?_
      refine XR.getint d_S_giveAll_11 (xle rfl) rfl rfl uin_S (fk := 6) (xle rfl) f_S_40 rfl ?_
      refine XR.icmp_ge d_S_giveAll_14 (tgt := 77) (by decide) (fun h => absurd h (by show ¬ τ 7 6 ≤ nI i; rw [ho.1]; exact nI_ge (by omega) (by omega))) (fun _ => ?_)
      refine XR.aload_n d_S_giveAll_17 rfl ?_
      refine XR.getref d_S_giveAll_18 (xle rfl) rfl rfl uin_S (fk := 4) (xle rfl) f_S_24 rfl (xle rfl) ?_
      refine XR.iload d_S_giveAll_21 rfl ?_
      refine XR.ialoadN d_S_giveAll_23 (xle rfl) (fun _ => rfl) (by omega) (xle rfl) ?_
      refine XR.istore d_S_giveAll_24 (xle rfl) rfl ?_
      refine XR.aload_n d_S_giveAll_26 rfl ?_
      refine XR.getref d_S_giveAll_27 (xle rfl) rfl rfl uin_S (fk := 1) (xle rfl) f_S_15 rfl (xle rfl) ?_
      refine XR.iload d_S_giveAll_30 rfl ?_
      refine XR.iaload d_S_giveAll_32 (xle rfl) (fun _ => rfl) h4 ?_
      refine XR.iload_n d_S_giveAll_33 rfl ?_
      refine XR.icmp_ne d_S_giveAll_34 (tgt := 60) (by decide) (fun h34 => ?_) (fun h34 => ?_)
      · refine XR.aload_n d_S_giveAll_60 rfl ?_
        refine XR.getref d_S_giveAll_61 (xle rfl) rfl rfl uin_S (fk := 4) (xle rfl) f_S_24 rfl (xle rfl) ?_
        refine XR.iload_n d_S_giveAll_64 rfl ?_
        refine XR.iload d_S_giveAll_65 rfl ?_
        refine XR.iastoreN d_S_giveAll_67 (xle rfl) (fun _ => rfl) (by omega) (xle rfl) ?_
        refine XR.iincN d_S_giveAll_68 rfl (xle rfl) rfl ?_
        refine XR.iincN d_S_giveAll_71 rfl (xle rfl) rfl ?_
        refine XR.goto d_S_giveAll_74 (tgt := 8) (by decide) ?_
        first | (rw [e1 h34]; exact ih (i + 1) (k + 1) g _ [_] (Nat.le_refl _) (by omega) (by omega) ho1) | (rw [e2 h34]; exact ih (i + 1) k (g + 1) _ [_] (Nat.le_refl _) (by omega) (by omega) ho)
      refine XR.aload_n d_S_giveAll_37 rfl ?_
      refine XR.getref d_S_giveAll_38 (xle rfl) rfl rfl uin_S (fk := 1) (xle rfl) f_S_15 rfl (xle rfl) ?_
      refine XR.iload d_S_giveAll_41 rfl ?_
      refine XR.iload_n d_S_giveAll_43 rfl ?_
      refine XR.iastore d_S_giveAll_44 (xle rfl) (fun _ => rfl) h4 ?_
      refine XR.aload_n d_S_giveAll_45 rfl ?_
      refine XR.getref d_S_giveAll_46 (xle rfl) rfl rfl uin_S (fk := 5) (xle rfl) f_S_27 rfl (xle rfl) ?_
      refine XR.iload d_S_giveAll_49 rfl ?_
      refine XR.iload d_S_giveAll_51 rfl ?_
      refine XR.iastoreN d_S_giveAll_53 (xle rfl) (fun _ => rfl) (by omega) (xle rfl) ?_
      refine XR.iincN d_S_giveAll_54 rfl (xle rfl) rfl ?_
      refine XR.goto d_S_giveAll_57 (tgt := 71) (by decide) ?_
      refine XR.iincN d_S_giveAll_71 rfl (xle rfl) rfl ?_
      refine XR.goto d_S_giveAll_74 (tgt := 8) (by decide) ?_
      first | (rw [e1 h34]; exact ih (i + 1) (k + 1) g _ [_] (Nat.le_refl _) (by omega) (by omega) ho1) | (rw [e2 h34]; exact ih (i + 1) k (g + 1) _ [_] (Nat.le_refl _) (by omega) (by omega) ho)
  refine XR.iconst d_S_giveAll_0 (v := nI 0) (by decide) ?_
  refine XR.istore_n d_S_giveAll_1 (xle rfl) rfl ?_
  refine XR.iconst d_S_giveAll_2 (v := nI 0) (by decide) ?_
  refine XR.istore d_S_giveAll_3 (xle rfl) rfl ?_
  refine XR.iconst d_S_giveAll_5 (v := nI 0) (by decide) ?_
  refine XR.istore d_S_giveAll_6 (xle rfl) rfl ?_
  exact loop m 0 0 0 σ [] (by decide) (by omega) (by omega) ho
end XGive
