/-! the class's face -/
abbrev eI : String := "java/lang/IndexOutOfBoundsException"
abbrev eA : String := "java/lang/IllegalArgumentException"
abbrev eS : String := "java/lang/IllegalStateException"
abbrev eU : String := "java/lang/UnsupportedOperationException"
abbrev eN : String := "java/util/NoSuchElementException"
/-- it ends so -/
def xfn (r : xO × xS) : xO → xWd → Prop := fun o w => o = r.1 ∧ w = xm r.2
abbrev rI (x : Int32) : xO := .inl (some (.int x))
section XFaceRules
variable {E : xE} {mi mj : xMI} {d kc ks pc d' : Nat} {Post : xO → xWd → Prop} {L st as st0 : List Value} {w : xWd}
theorem XR.cVt2 {index q ci N : Nat} {C X1 X2 : String} {Tu : u_T} {fs : List Value} {c1 c2 : Prop} [Decidable c1] [Decidable c2] (hd : decode (xcc mi) pc = .ok (.invokevirtual index, 3)) (hl : Cond.methodLink (xy mi).cls index (xy mj) ∈ xTs) (hk : xKV mj C as.length) (hM : XC E mj d' 0 0 (.ref (xB E + q) :: as) w (fun o w1 => w1 = w ∧ o = (if c1 then .inr X1 else if c2 then .inr X2 else .inl none)))
    (hst0 : st0 = as.reverse ++ .ref (xB E + q) :: st) (hq : q < w.1) (he : xen E w.2.1 q (w.2.2 q) = .inr (ci, fs)) (hc : vwCl[ci]? = some (C, Tu, N)) (hdd : d' + 1 ≤ d) (hst : (st.map fun v => v.category).sum + xnL mj ≤ 17) (hno : xhs mi = [])
    (k1 : c1 → Post (.inr X1) w) (k2 : ¬ c1 → c2 → Post (.inr X2) w) (k : ¬ c1 → ¬ c2 → XR E mi d kc ks Post (pc + 3) L st w) : XR E mi d kc ks Post pc L st0 w := by
  have hlv : ∀ {X : String}, Post (.inr X) w → XT E mi d (kc - 0) (ks - 0) Post pc L X w := fun h => XT.leave (by rw [hno]; intro x hx; cases hx) h
  by_cases h1 : c1
  · simp only [if_pos h1] at hM
    exact XR.callV hd hl hk.1 hk.2.1 hk.2.2.1 hk.2.2.2.1 hk.2.2.2.2.1 rfl hq he hc hk.2.2.2.2.2 hst0 hM hdd hst (Nat.zero_le _) (Nat.zero_le _) (fun u w1 h => by obtain ⟨-, h⟩ := h; cases h) (fun C w1 h => by obtain ⟨rfl, h⟩ := h; cases h; exact hlv (k1 h1))
  · simp only [if_neg h1] at hM
    by_cases h2 : c2
    · simp only [if_pos h2] at hM
      exact XR.callV hd hl hk.1 hk.2.1 hk.2.2.1 hk.2.2.2.1 hk.2.2.2.2.1 rfl hq he hc hk.2.2.2.2.2 hst0 hM hdd hst (Nat.zero_le _) (Nat.zero_le _) (fun u w1 h => by obtain ⟨-, h⟩ := h; cases h) (fun C w1 h => by obtain ⟨rfl, h⟩ := h; cases h; exact hlv (k2 h1 h2))
    · simp only [if_neg h2] at hM
      exact XR.callV hd hl hk.1 hk.2.1 hk.2.2.1 hk.2.2.2.1 hk.2.2.2.2.1 rfl hq he hc hk.2.2.2.2.2 hst0 hM hdd hst (Nat.zero_le _) (Nat.zero_le _) (fun u w1 h => by obtain ⟨rfl, h⟩ := h; cases h; exact k h1 h2) (fun C w1 h => by obtain ⟨-, h⟩ := h; cases h)
theorem XR.cVx {index q ci N : Nat} {C X : String} {Tu : u_T} {fs : List Value} {wC : xWd} (hd : decode (xcc mi) pc = .ok (.invokevirtual index, 3)) (hl : Cond.methodLink (xy mi).cls index (xy mj) ∈ xTs) (hk : xKV mj C as.length) (hM : XC E mj d' 0 0 (.ref (xB E + q) :: as) w (fun o w1 => o = .inr X ∧ w1 = wC))
    (hst0 : st0 = as.reverse ++ .ref (xB E + q) :: st) (hq : q < w.1) (he : xen E w.2.1 q (w.2.2 q) = .inr (ci, fs)) (hc : vwCl[ci]? = some (C, Tu, N)) (hdd : d' + 1 ≤ d) (hst : (st.map fun v => v.category).sum + xnL mj ≤ 17) (hno : xhs mi = [])
    (k1 : Post (.inr X) wC) : XR E mi d kc ks Post pc L st0 w :=
  XR.callV hd hl hk.1 hk.2.1 hk.2.2.1 hk.2.2.2.1 hk.2.2.2.2.1 rfl hq he hc hk.2.2.2.2.2 hst0 hM hdd hst (Nat.zero_le _) (Nat.zero_le _) (fun u w1 h => by obtain ⟨h, -⟩ := h; cases h) (fun C w1 h => by obtain ⟨h, rfl⟩ := h; cases h; exact XT.leave (by rw [hno]; intro x hx; cases hx) k1)
theorem XR.cVf {index q ci N : Nat} {C : String} {Tu : u_T} {fs : List Value} {r : xO × xS} (hd : decode (xcc mi) pc = .ok (.invokevirtual index, 3)) (hl : Cond.methodLink (xy mi).cls index (xy mj) ∈ xTs) (hk : xKV mj C as.length) (hM : XC E mj d' 0 0 (.ref (xB E + q) :: as) w (xfn r))
    (hst0 : st0 = as.reverse ++ .ref (xB E + q) :: st) (hq : q < w.1) (he : xen E w.2.1 q (w.2.2 q) = .inr (ci, fs)) (hc : vwCl[ci]? = some (C, Tu, N)) (hdd : d' + 1 ≤ d) (hst : (st.map fun v => v.category).sum + xnL mj ≤ 17) (hno : xhs mi = [])
    (k1 : ∀ X, r.1 = .inr X → Post (.inr X) (xm r.2)) (k : ∀ v, r.1 = .inl v → XR E mi d kc ks Post (pc + 3) L (v.toList ++ st) (xm r.2)) : XR E mi d kc ks Post pc L st0 w :=
  XR.callV hd hl hk.1 hk.2.1 hk.2.2.1 hk.2.2.2.1 hk.2.2.2.2.1 rfl hq he hc hk.2.2.2.2.2 hst0 hM hdd hst (Nat.zero_le _) (Nat.zero_le _) (fun u w1 h => by obtain ⟨h, rfl⟩ := h; exact k u h.symm) (fun C w1 h => by obtain ⟨h, rfl⟩ := h; exact XT.leave (by rw [hno]; intro x hx; cases hx) (k1 C h.symm))
end XFaceRules
theorem tBk_in {σ : xS} {x : Int32} (h : ¬ tBk σ x = false) : vp_in x 40 := by
  simp only [tBk, Bool.not_eq_false, Bool.and_eq_true, Bool.not_eq_true', decide_eq_false_iff_not] at h
  exact vp_in_lt h.1.1 h.1.2 (by decide)
theorem tLunF_in {σ : xS} : ∀ (f i : Nat), i + f = 40 → ¬ tLunF σ f i = -1 → vp_in (tLunF σ f i) 40
  | 0, i, _, h => absurd rfl h
  | f + 1, i, hi, h => by
    simp only [tLunF] at h ⊢
    split at h
    · next e => rw [if_pos e]; exact vp_in_nI (by omega) (by decide)
    · next e => rw [if_neg e]; exact tLunF_in f (i + 1) (by omega) h
theorem tLun_in {σ : xS} (h : ¬ tLun σ = -1) : vp_in (tLun σ) 40 := tLunF_in 39 1 rfl h
def cBank (σ : xS) (x y : Int32) : xO × xS :=
  if tBk σ x = false then (.inr eI, σ) else if bz (bUp y) = 0 then (.inr eA, σ) else if ¬ σ 2 (xn x) = 0 then (.inr eS, σ) else if tLun σ = -1 then (.inr eU, xu σ 0 2 (-1))
  else if nI (tDep σ x) < 6 then (rI (tLun σ), tOpen σ (tLun σ) x y) else (.inr eU, xu σ 0 2 (-1))
def bTk (σ : xS) (x n : Int32) : Int32 := if σ 5 (xn x) < n then σ 5 (xn x) else n
abbrev bNbS (σ : xS) (x n : Int32) : xS := sFi (tAu (xu σ 5 (xn x) (σ 5 (xn x) + -bTk σ x n)) x (n - bTk σ x n)) (xn (sLf σ n)) (xn n) x
def bNb (σ : xS) (x n : Int32) : xO × xS :=
  if ¬ tRf σ x (n - bTk σ x n) = -1 then (.inr eU, xu σ 0 2 (tRf σ x (n - bTk σ x n))) else if sLf σ n = -1 then (.inr eU, xu σ 0 2 (-1))
  else (rI (1024 * bNbS σ x n 8 (xn (sLf σ n)) + 2 * sLf σ n), bNbS σ x n)
def cLimit (σ : xS) (x y : Int32) : xO × xS :=
  if tBk σ x = false then (.inr eI, σ) else if bz (bUp y) = 0 then (.inr eA, σ) else if x = 0 then (.inr eA, σ) else if y < σ 6 (xn x) then (.inr eS, σ) else if bz (tDy σ x) = 0 then (rI (σ 4 (xn x)), xu σ 4 (xn x) y) else (.inr eS, σ)
def cReserve (σ : xS) (x y : Int32) : xO × xS :=
  if tBk σ x = false then (.inr eI, σ) else if bz (bUp y) = 0 then (.inr eA, σ) else if ¬ σ 2 (xn x) = 0 then (.inr eS, σ) else if ¬ tRf σ x y = -1 then (.inr eU, xu σ 0 2 (tRf σ x y))
  else (rI (tAu (xu σ 5 (xn x) (σ 5 (xn x) + y)) x y 5 (xn x)), tAu (xu σ 5 (xn x) (σ 5 (xn x) + y)) x y)
def cUnreserve (σ : xS) (x y : Int32) : xO × xS :=
  if tBk σ x = false then (.inr eI, σ) else if y < 0 then (.inr eA, σ) else if σ 5 (xn x) < y then (.inr eA, σ)
  else (rI (tAu (xu σ 5 (xn x) (σ 5 (xn x) + -y)) x (-y) 5 (xn x)), tAu (xu σ 5 (xn x) (σ 5 (xn x) + -y)) x (-y))
def cFreeze (σ : xS) (x y : Int32) : xO × xS :=
  if tBk σ x = false then (.inr eI, σ) else if x = 0 then (.inr eA, σ) else if bz (tDy σ x) = 0 then
    (if y = 0 then (if σ 2 (xn x) = 1 then (rI 1, xu σ 2 (xn x) 0) else (rI 0, xu σ 2 (xn x) 0)) else (if σ 2 (xn x) = 1 then (rI 1, xu σ 2 (xn x) 1) else (rI 0, xu σ 2 (xn x) 1)))
  else (.inr eS, σ)
section XFace
variable {E : xE} {σ : xS} {x y n : Int32}
theorem c_B_requireUse (hp : pOK σ) (hx : vp_in x 40) : XC E i_B_requireUse 7 0 0 [.ref (xB E + 0), .int x, .int n] (xm σ) (xtry (¬ tRf σ x n = -1) eU (xm (xu σ 0 2 (tRf σ x n))) none (xm σ)) := by
  refine XC.ofF (by decide +kernel) cd_B_requireUse rfl (xle rfl) ?_
  refine XR.aload_n d_B_requireUse_0 rfl ?_
  refine XR.getref d_B_requireUse_1 (xle rfl) rfl rfl uin_B (fk := 0) (xle rfl) f_B_10 rfl (xle rfl) ?_
  refine XR.iload_n d_B_requireUse_4 rfl ?_
  refine XR.iload_n d_B_requireUse_5 rfl ?_
  refine XR.cV (as := [_, _]) d_B_requireUse_6 l_B_106 kv_T_refuserOf (c_T_refuserOf hp (Or.inr hx)) rfl (xle rfl) rfl rfl (xle rfl) (xle rfl) ?_
  refine XR.istore_n d_B_requireUse_9 (xle rfl) rfl ?_
  refine XR.iload_n d_B_requireUse_10 rfl ?_
  refine XR.iconst d_B_requireUse_11 (v := -1) (by decide) ?_
  refine XR.icmp_eq d_B_requireUse_12 (tgt := 20) (by decide) (fun h12 => ?_) (fun h12 => ?_)
  · refine XR.return_ d_B_requireUse_20 rfl ?_
    exact ⟨fun h => absurd h12 h, fun _ => ⟨rfl, rfl⟩⟩
  refine XR.aload_n d_B_requireUse_15 rfl ?_
  refine XR.iload_n d_B_requireUse_16 rfl ?_
  refine XR.cVx (as := [_]) d_B_requireUse_17 l_B_50 kv_B_refuse (c_B_refuse) rfl (xle rfl) rfl rfl (xle rfl) (xle rfl) rfl ?_
  exact ⟨fun _ => ⟨rfl, rfl⟩, fun h => absurd h12 h⟩
theorem c_B_bank (hp : pOK σ) : XC E i_B_bank 8 0 0 [.ref (xB E + 0), .int x, .int y] (xm σ) (xfn (cBank σ x y)) := by
  refine XC.ofF (by decide +kernel) cd_B_bank rfl (xle rfl) ?_
  refine XR.aload_n d_B_bank_0 rfl ?_
  refine XR.iload_n d_B_bank_1 rfl ?_
  refine XR.cVt (as := [_]) d_B_bank_2 l_B_27 kv_B_requireBank (c_B_requireBank) rfl (xle rfl) rfl rfl (xle rfl) (xle rfl) rfl (fun h2 => ?_) (fun h2 => ?_)
  · exact ⟨by rw [cBank, if_pos h2], by rw [cBank, if_pos h2]⟩
  refine XR.iload_n d_B_bank_5 rfl ?_
  refine XR.cS (as := [_]) d_B_bank_6 l_B_31 ks_B_isUpToAllPages (c_B_isUpToAllPages) rfl (xle rfl) (xle rfl) ?_
  refine XR.cSt (as := [_]) d_B_bank_9 l_B_35 ks_B_requireArgument (c_B_requireArgument) rfl (xle rfl) (xle rfl) rfl (fun h9 => ?_) (fun h9 => ?_)
  · exact ⟨by rw [cBank, if_neg h2, if_pos h9], by rw [cBank, if_neg h2, if_pos h9]⟩
  refine XR.aload_n d_B_bank_12 rfl ?_
  refine XR.iload_n d_B_bank_13 rfl ?_
  refine XR.cVt (as := [_]) d_B_bank_14 l_B_39 kv_B_requireLive (c_B_requireLive (tBk_in h2)) rfl (xle rfl) rfl rfl (xle rfl) (xle rfl) rfl (fun h14 => ?_) (fun h14 => ?_)
  · exact ⟨by rw [cBank, if_neg h2, if_neg h9, if_pos h14], by rw [cBank, if_neg h2, if_neg h9, if_pos h14]⟩
  refine XR.aload_n d_B_bank_17 rfl ?_
  refine XR.getref d_B_bank_18 (xle rfl) rfl rfl uin_B (fk := 0) (xle rfl) f_B_10 rfl (xle rfl) ?_
  refine XR.cV (as := []) d_B_bank_21 l_B_42 kv_T_leastUnusedNumber (c_T_leastUnusedNumber) rfl (xle rfl) rfl rfl (xle rfl) (xle rfl) ?_
  refine XR.istore_n d_B_bank_24 (xle rfl) rfl ?_
  refine XR.iload_n d_B_bank_25 rfl ?_
  refine XR.iconst d_B_bank_26 (v := -1) (by decide) ?_
  refine XR.icmp_eq d_B_bank_27 (tgt := 43) (by decide) (fun h27 => ?_) (fun h27 => ?_)
  · refine XR.aload_n d_B_bank_43 rfl ?_
    refine XR.iconst d_B_bank_44 (v := -1) (by decide) ?_
    refine XR.cVx (as := [_]) d_B_bank_45 l_B_50 kv_B_refuse (c_B_refuse) rfl (xle rfl) rfl rfl (xle rfl) (xle rfl) rfl ?_
    exact ⟨by rw [cBank, if_neg h2, if_neg h9, if_neg h14, if_pos h27], by rw [cBank, if_neg h2, if_neg h9, if_neg h14, if_pos h27]⟩
  refine XR.aload_n d_B_bank_30 rfl ?_
  refine XR.getref d_B_bank_31 (xle rfl) rfl rfl uin_B (fk := 0) (xle rfl) f_B_10 rfl (xle rfl) ?_
  refine XR.iload_n d_B_bank_34 rfl ?_
  refine XR.cV (as := [_]) d_B_bank_35 l_B_46 kv_T_depthOf (c_T_depthOf hp (tBk_in h2)) rfl (xle rfl) rfl rfl (xle rfl) (xle rfl) ?_
  refine XR.bipush d_B_bank_38 (v := 6) (by decide) ?_
  refine XR.icmp_lt d_B_bank_40 (tgt := 48) (by decide) (fun h40 => ?_) (fun h40 => ?_)
  · refine XR.aload_n d_B_bank_48 rfl ?_
    refine XR.getref d_B_bank_49 (xle rfl) rfl rfl uin_B (fk := 0) (xle rfl) f_B_10 rfl (xle rfl) ?_
    refine XR.iload_n d_B_bank_52 rfl ?_
    refine XR.iload_n d_B_bank_53 rfl ?_
    refine XR.iload_n d_B_bank_54 rfl ?_
    refine XR.cV (as := [_, _, _]) d_B_bank_55 l_B_53 kv_T_open (c_T_open (tLun_in h27)) rfl (xle rfl) rfl rfl (xle rfl) (xle rfl) ?_
    refine XR.iload_n d_B_bank_58 rfl ?_
    refine XR.xreturn d_B_bank_59 rfl ?_
    exact ⟨by rw [cBank, if_neg h2, if_neg h9, if_neg h14, if_neg h27, if_pos h40], by rw [cBank, if_neg h2, if_neg h9, if_neg h14, if_neg h27, if_pos h40]⟩
  refine XR.aload_n d_B_bank_43 rfl ?_
  refine XR.iconst d_B_bank_44 (v := -1) (by decide) ?_
  refine XR.cVx (as := [_]) d_B_bank_45 l_B_50 kv_B_refuse (c_B_refuse) rfl (xle rfl) rfl rfl (xle rfl) (xle rfl) rfl ?_
  exact ⟨by rw [cBank, if_neg h2, if_neg h9, if_neg h14, if_neg h27, if_neg h40], by rw [cBank, if_neg h2, if_neg h9, if_neg h14, if_neg h27, if_neg h40]⟩
theorem c_B_limit (hp : pOK σ) : XC E i_B_limit 8 0 0 [.ref (xB E + 0), .int x, .int y] (xm σ) (xfn (cLimit σ x y)) := by
  refine XC.ofF (by decide +kernel) cd_B_limit rfl (xle rfl) ?_
  refine XR.aload_n d_B_limit_0 rfl ?_
  refine XR.iload_n d_B_limit_1 rfl ?_
  refine XR.cVt (as := [_]) d_B_limit_2 l_B_27 kv_B_requireBank (c_B_requireBank) rfl (xle rfl) rfl rfl (xle rfl) (xle rfl) rfl (fun h2 => ?_) (fun h2 => ?_)
  · exact ⟨by rw [cLimit, if_pos h2], by rw [cLimit, if_pos h2]⟩
  refine XR.iload_n d_B_limit_5 rfl ?_
  refine XR.cS (as := [_]) d_B_limit_6 l_B_31 ks_B_isUpToAllPages (c_B_isUpToAllPages) rfl (xle rfl) (xle rfl) ?_
  refine XR.if_eq d_B_limit_9 (tgt := 20) (by decide) (fun h9 => ?_) (fun h9 => ?_)
  · refine XR.iconst d_B_limit_20 (v := 0) (by decide) ?_
    refine XR.cSt (as := [_]) d_B_limit_21 l_B_35 ks_B_requireArgument (c_B_requireArgument) rfl (xle rfl) (xle rfl) rfl (fun h21 => ?_) (fun h21 => ?_)
    · exact ⟨by rw [cLimit, if_neg h2, if_pos h9], by rw [cLimit, if_neg h2, if_pos h9]⟩
    exact absurd rfl h21
  refine XR.iload_n d_B_limit_12 rfl ?_
  refine XR.if_eq d_B_limit_13 (tgt := 20) (by decide) (fun h13 => ?_) (fun h13 => ?_)
  · refine XR.iconst d_B_limit_20 (v := 0) (by decide) ?_
    refine XR.cSt (as := [_]) d_B_limit_21 l_B_35 ks_B_requireArgument (c_B_requireArgument) rfl (xle rfl) (xle rfl) rfl (fun h21 => ?_) (fun h21 => ?_)
    · exact ⟨by rw [cLimit, if_neg h2, if_neg h9, if_pos h13], by rw [cLimit, if_neg h2, if_neg h9, if_pos h13]⟩
    exact absurd rfl h21
  refine XR.iconst d_B_limit_16 (v := 1) (by decide) ?_
  refine XR.goto d_B_limit_17 (tgt := 21) (by decide) ?_
  refine XR.cSt (as := [_]) d_B_limit_21 l_B_35 ks_B_requireArgument (c_B_requireArgument) rfl (xle rfl) (xle rfl) rfl (fun h21 => ?_) (fun h21 => ?_)
  · exact absurd h21 (by decide)
  refine XR.aload_n d_B_limit_24 rfl ?_
  refine XR.getref d_B_limit_25 (xle rfl) rfl rfl uin_B (fk := 0) (xle rfl) f_B_10 rfl (xle rfl) ?_
  refine XR.iload_n d_B_limit_28 rfl ?_
  refine XR.cV (as := [_]) d_B_limit_29 l_B_112 kv_T_useOf (c_T_useOf (tBk_in h2)) rfl (xle rfl) rfl rfl (xle rfl) (xle rfl) ?_
  refine XR.iload_n d_B_limit_32 rfl ?_
  refine XR.icmp_gt d_B_limit_33 (tgt := 51) (by decide) (fun h33 => ?_) (fun h33 => ?_)
  · refine XR.iconst d_B_limit_51 (v := 0) (by decide) ?_
    refine XR.cSt (as := [_]) d_B_limit_52 l_B_115 ks_B_requireState (c_B_requireState) rfl (xle rfl) (xle rfl) rfl (fun h52 => ?_) (fun h52 => ?_)
    · exact ⟨by rw [cLimit, if_neg h2, if_neg h9, if_neg h13, if_pos h33], by rw [cLimit, if_neg h2, if_neg h9, if_neg h13, if_pos h33]⟩
    exact absurd rfl h52
  refine XR.aload_n d_B_limit_36 rfl ?_
  refine XR.getref d_B_limit_37 (xle rfl) rfl rfl uin_B (fk := 0) (xle rfl) f_B_10 rfl (xle rfl) ?_
  refine XR.iload_n d_B_limit_40 rfl ?_
  refine XR.cV (as := [_]) d_B_limit_41 l_B_77 kv_T_isDying (c_T_isDying (tBk_in h2)) rfl (xle rfl) rfl rfl (xle rfl) (xle rfl) ?_
  refine XR.if_ne d_B_limit_44 (tgt := 51) (by decide) (fun h44 => ?_) (fun h44 => ?_)
  · refine XR.iconst d_B_limit_51 (v := 0) (by decide) ?_
    refine XR.cSt (as := [_]) d_B_limit_52 l_B_115 ks_B_requireState (c_B_requireState) rfl (xle rfl) (xle rfl) rfl (fun h52 => ?_) (fun h52 => ?_)
    · exact ⟨by rw [cLimit, if_neg h2, if_neg h9, if_neg h13, if_neg h33, if_neg h44], by rw [cLimit, if_neg h2, if_neg h9, if_neg h13, if_neg h33, if_neg h44]⟩
    exact absurd rfl h52
  refine XR.iconst d_B_limit_47 (v := 1) (by decide) ?_
  refine XR.goto d_B_limit_48 (tgt := 52) (by decide) ?_
  refine XR.cSt (as := [_]) d_B_limit_52 l_B_115 ks_B_requireState (c_B_requireState) rfl (xle rfl) (xle rfl) rfl (fun h52 => ?_) (fun h52 => ?_)
  · exact absurd h52 (by decide)
  refine XR.aload_n d_B_limit_55 rfl ?_
  refine XR.getref d_B_limit_56 (xle rfl) rfl rfl uin_B (fk := 0) (xle rfl) f_B_10 rfl (xle rfl) ?_
  refine XR.iload_n d_B_limit_59 rfl ?_
  refine XR.iload_n d_B_limit_60 rfl ?_
  refine XR.cV (as := [_, _]) d_B_limit_61 l_B_118 kv_T_replaceLimit (c_T_replaceLimit (tBk_in h2)) rfl (xle rfl) rfl rfl (xle rfl) (xle rfl) ?_
  refine XR.xreturn d_B_limit_64 rfl ?_
  exact ⟨by rw [cLimit, if_neg h2, if_neg h9, if_neg h13, if_neg h33, if_pos h44], by rw [cLimit, if_neg h2, if_neg h9, if_neg h13, if_neg h33, if_pos h44]⟩
theorem c_B_reserve (hp : pOK σ) : XC E i_B_reserve 8 0 0 [.ref (xB E + 0), .int x, .int y] (xm σ) (xfn (cReserve σ x y)) := by
  refine XC.ofF (by decide +kernel) cd_B_reserve rfl (xle rfl) ?_
  have hp2 : pOK (xu σ 5 (xn x) (σ 5 (xn x) + y)) := hp.of (xu_other (by decide))
  refine XR.aload_n d_B_reserve_0 rfl ?_
  refine XR.iload_n d_B_reserve_1 rfl ?_
  refine XR.cVt (as := [_]) d_B_reserve_2 l_B_27 kv_B_requireBank (c_B_requireBank) rfl (xle rfl) rfl rfl (xle rfl) (xle rfl) rfl (fun h2 => ?_) (fun h2 => ?_)
  · exact ⟨by rw [cReserve, if_pos h2], by rw [cReserve, if_pos h2]⟩
  refine XR.iload_n d_B_reserve_5 rfl ?_
  refine XR.cS (as := [_]) d_B_reserve_6 l_B_31 ks_B_isUpToAllPages (c_B_isUpToAllPages) rfl (xle rfl) (xle rfl) ?_
  refine XR.cSt (as := [_]) d_B_reserve_9 l_B_35 ks_B_requireArgument (c_B_requireArgument) rfl (xle rfl) (xle rfl) rfl (fun h9 => ?_) (fun h9 => ?_)
  · exact ⟨by rw [cReserve, if_neg h2, if_pos h9], by rw [cReserve, if_neg h2, if_pos h9]⟩
  refine XR.aload_n d_B_reserve_12 rfl ?_
  refine XR.iload_n d_B_reserve_13 rfl ?_
  refine XR.cVt (as := [_]) d_B_reserve_14 l_B_39 kv_B_requireLive (c_B_requireLive (tBk_in h2)) rfl (xle rfl) rfl rfl (xle rfl) (xle rfl) rfl (fun h14 => ?_) (fun h14 => ?_)
  · exact ⟨by rw [cReserve, if_neg h2, if_neg h9, if_pos h14], by rw [cReserve, if_neg h2, if_neg h9, if_pos h14]⟩
  refine XR.aload_n d_B_reserve_17 rfl ?_
  refine XR.iload_n d_B_reserve_18 rfl ?_
  refine XR.iload_n d_B_reserve_19 rfl ?_
  refine XR.cVt (as := [_, _]) d_B_reserve_20 l_B_121 kv_B_requireUse (c_B_requireUse hp (tBk_in h2)) rfl (xle rfl) rfl rfl (xle rfl) (xle rfl) rfl (fun h20 => ?_) (fun h20 => ?_)
  · exact ⟨by rw [cReserve, if_neg h2, if_neg h9, if_neg h14, if_pos h20], by rw [cReserve, if_neg h2, if_neg h9, if_neg h14, if_pos h20]⟩
  refine XR.aload_n d_B_reserve_23 rfl ?_
  refine XR.getref d_B_reserve_24 (xle rfl) rfl rfl uin_B (fk := 0) (xle rfl) f_B_10 rfl (xle rfl) ?_
  refine XR.iload_n d_B_reserve_27 rfl ?_
  refine XR.iload_n d_B_reserve_28 rfl ?_
  refine XR.cV (as := [_, _]) d_B_reserve_29 l_B_124 kv_T_addReserved (c_T_addReserved (tBk_in h2)) rfl (xle rfl) rfl rfl (xle rfl) (xle rfl) ?_
  refine XR.aload_n d_B_reserve_32 rfl ?_
  refine XR.getref d_B_reserve_33 (xle rfl) rfl rfl uin_B (fk := 0) (xle rfl) f_B_10 rfl (xle rfl) ?_
  refine XR.iload_n d_B_reserve_36 rfl ?_
  refine XR.iload_n d_B_reserve_37 rfl ?_
  refine XR.cV (as := [_, _]) d_B_reserve_38 l_B_89 kv_T_addUse (c_T_addUse hp2 (Or.inr (tBk_in h2))) rfl (xle rfl) rfl rfl (xle rfl) (xle rfl) ?_
  refine XR.aload_n d_B_reserve_41 rfl ?_
  refine XR.getref d_B_reserve_42 (xle rfl) rfl rfl uin_B (fk := 0) (xle rfl) f_B_10 rfl (xle rfl) ?_
  refine XR.iload_n d_B_reserve_45 rfl ?_
  refine XR.cV (as := [_]) d_B_reserve_46 l_B_127 kv_T_reservedBy (c_T_reservedBy (tBk_in h2)) rfl (xle rfl) rfl rfl (xle rfl) (xle rfl) ?_
  refine XR.xreturn d_B_reserve_49 rfl ?_
  exact ⟨by rw [cReserve, if_neg h2, if_neg h9, if_neg h14, if_neg h20], by rw [cReserve, if_neg h2, if_neg h9, if_neg h14, if_neg h20]⟩
theorem c_B_unreserve (hp : pOK σ) : XC E i_B_unreserve 8 0 0 [.ref (xB E + 0), .int x, .int y] (xm σ) (xfn (cUnreserve σ x y)) := by
  refine XC.ofF (by decide +kernel) cd_B_unreserve rfl (xle rfl) ?_
  have hp2 : pOK (xu σ 5 (xn x) (σ 5 (xn x) + -y)) := hp.of (xu_other (by decide))
  refine XR.aload_n d_B_unreserve_0 rfl ?_
  refine XR.iload_n d_B_unreserve_1 rfl ?_
  refine XR.cVt (as := [_]) d_B_unreserve_2 l_B_27 kv_B_requireBank (c_B_requireBank) rfl (xle rfl) rfl rfl (xle rfl) (xle rfl) rfl (fun h2 => ?_) (fun h2 => ?_)
  · exact ⟨by rw [cUnreserve, if_pos h2], by rw [cUnreserve, if_pos h2]⟩
  refine XR.iload_n d_B_unreserve_5 rfl ?_
  refine XR.if_lt d_B_unreserve_6 (tgt := 25) (by decide) (fun h6 => ?_) (fun h6 => ?_)
  · refine XR.iconst d_B_unreserve_25 (v := 0) (by decide) ?_
    refine XR.cSt (as := [_]) d_B_unreserve_26 l_B_35 ks_B_requireArgument (c_B_requireArgument) rfl (xle rfl) (xle rfl) rfl (fun h26 => ?_) (fun h26 => ?_)
    · exact ⟨by rw [cUnreserve, if_neg h2, if_pos h6], by rw [cUnreserve, if_neg h2, if_pos h6]⟩
    exact absurd rfl h26
  refine XR.iload_n d_B_unreserve_9 rfl ?_
  refine XR.aload_n d_B_unreserve_10 rfl ?_
  refine XR.getref d_B_unreserve_11 (xle rfl) rfl rfl uin_B (fk := 0) (xle rfl) f_B_10 rfl (xle rfl) ?_
  refine XR.iload_n d_B_unreserve_14 rfl ?_
  refine XR.cV (as := [_]) d_B_unreserve_15 l_B_127 kv_T_reservedBy (c_T_reservedBy (tBk_in h2)) rfl (xle rfl) rfl rfl (xle rfl) (xle rfl) ?_
  refine XR.icmp_gt d_B_unreserve_18 (tgt := 25) (by decide) (fun h18 => ?_) (fun h18 => ?_)
  · refine XR.iconst d_B_unreserve_25 (v := 0) (by decide) ?_
    refine XR.cSt (as := [_]) d_B_unreserve_26 l_B_35 ks_B_requireArgument (c_B_requireArgument) rfl (xle rfl) (xle rfl) rfl (fun h26 => ?_) (fun h26 => ?_)
    · exact ⟨by rw [cUnreserve, if_neg h2, if_neg h6, if_pos h18], by rw [cUnreserve, if_neg h2, if_neg h6, if_pos h18]⟩
    exact absurd rfl h26
  refine XR.iconst d_B_unreserve_21 (v := 1) (by decide) ?_
  refine XR.goto d_B_unreserve_22 (tgt := 26) (by decide) ?_
  refine XR.cSt (as := [_]) d_B_unreserve_26 l_B_35 ks_B_requireArgument (c_B_requireArgument) rfl (xle rfl) (xle rfl) rfl (fun h26 => ?_) (fun h26 => ?_)
  · exact absurd h26 (by decide)
  refine XR.aload_n d_B_unreserve_29 rfl ?_
  refine XR.getref d_B_unreserve_30 (xle rfl) rfl rfl uin_B (fk := 0) (xle rfl) f_B_10 rfl (xle rfl) ?_
  refine XR.iload_n d_B_unreserve_33 rfl ?_
  refine XR.iload_n d_B_unreserve_34 rfl ?_
  refine XR.ineg d_B_unreserve_35 ?_
  refine XR.cV (as := [_, _]) d_B_unreserve_36 l_B_124 kv_T_addReserved (c_T_addReserved (tBk_in h2)) rfl (xle rfl) rfl rfl (xle rfl) (xle rfl) ?_
  refine XR.aload_n d_B_unreserve_39 rfl ?_
  refine XR.getref d_B_unreserve_40 (xle rfl) rfl rfl uin_B (fk := 0) (xle rfl) f_B_10 rfl (xle rfl) ?_
  refine XR.iload_n d_B_unreserve_43 rfl ?_
  refine XR.iload_n d_B_unreserve_44 rfl ?_
  refine XR.ineg d_B_unreserve_45 ?_
  refine XR.cV (as := [_, _]) d_B_unreserve_46 l_B_89 kv_T_addUse (c_T_addUse hp2 (Or.inr (tBk_in h2))) rfl (xle rfl) rfl rfl (xle rfl) (xle rfl) ?_
  refine XR.aload_n d_B_unreserve_49 rfl ?_
  refine XR.getref d_B_unreserve_50 (xle rfl) rfl rfl uin_B (fk := 0) (xle rfl) f_B_10 rfl (xle rfl) ?_
  refine XR.iload_n d_B_unreserve_53 rfl ?_
  refine XR.cV (as := [_]) d_B_unreserve_54 l_B_127 kv_T_reservedBy (c_T_reservedBy (tBk_in h2)) rfl (xle rfl) rfl rfl (xle rfl) (xle rfl) ?_
  refine XR.xreturn d_B_unreserve_57 rfl ?_
  exact ⟨by rw [cUnreserve, if_neg h2, if_neg h6, if_neg h18], by rw [cUnreserve, if_neg h2, if_neg h6, if_neg h18]⟩
theorem c_B_freeze : XC E i_B_freeze 9 0 0 [.ref (xB E + 0), .int x, .int y] (xm σ) (xfn (cFreeze σ x y)) := by
  refine XC.ofF (by decide +kernel) cd_B_freeze rfl (xle rfl) ?_
  refine XR.aload_n d_B_freeze_0 rfl ?_
  refine XR.iload_n d_B_freeze_1 rfl ?_
  refine XR.cVt2 (as := [_]) d_B_freeze_2 l_B_130 kv_B_requireOtherThanRoot (c_B_requireOtherThanRoot) rfl (xle rfl) rfl rfl (xle rfl) (xle rfl) rfl (fun h2a => ?_) (fun h2a h2b => ?_) (fun h2a h2b => ?_)
  · exact ⟨by rw [cFreeze, if_pos h2a], by rw [cFreeze, if_pos h2a]⟩
  · exact ⟨by rw [cFreeze, if_neg h2a, if_pos h2b], by rw [cFreeze, if_neg h2a, if_pos h2b]⟩
  refine XR.aload_n d_B_freeze_5 rfl ?_
  refine XR.getref d_B_freeze_6 (xle rfl) rfl rfl uin_B (fk := 0) (xle rfl) f_B_10 rfl (xle rfl) ?_
  refine XR.iload_n d_B_freeze_9 rfl ?_
  refine XR.cV (as := [_]) d_B_freeze_10 l_B_77 kv_T_isDying (c_T_isDying (tBk_in h2a)) rfl (xle rfl) rfl rfl (xle rfl) (xle rfl) ?_
  refine XR.if_ne d_B_freeze_13 (tgt := 20) (by decide) (fun h13 => ?_) (fun h13 => ?_)
  · refine XR.iconst d_B_freeze_20 (v := 0) (by decide) ?_
    refine XR.cSt (as := [_]) d_B_freeze_21 l_B_115 ks_B_requireState (c_B_requireState) rfl (xle rfl) (xle rfl) rfl (fun h21 => ?_) (fun h21 => ?_)
    · exact ⟨by rw [cFreeze, if_neg h2a, if_neg h2b, if_neg h13], by rw [cFreeze, if_neg h2a, if_neg h2b, if_neg h13]⟩
    exact absurd rfl h21
  refine XR.iconst d_B_freeze_16 (v := 1) (by decide) ?_
  refine XR.goto d_B_freeze_17 (tgt := 21) (by decide) ?_
  refine XR.cSt (as := [_]) d_B_freeze_21 l_B_115 ks_B_requireState (c_B_requireState) rfl (xle rfl) (xle rfl) rfl (fun h21 => ?_) (fun h21 => ?_)
  · exact absurd h21 (by decide)
  refine XR.aload_n d_B_freeze_24 rfl ?_
  refine XR.getref d_B_freeze_25 (xle rfl) rfl rfl uin_B (fk := 0) (xle rfl) f_B_10 rfl (xle rfl) ?_
  refine XR.iload_n d_B_freeze_28 rfl ?_
  refine XR.iload_n d_B_freeze_29 rfl ?_
  refine XR.if_eq d_B_freeze_30 (tgt := 37) (by decide) (fun h30 => ?_) (fun h30 => ?_)
  · refine XR.iconst d_B_freeze_37 (v := 0) (by decide) ?_
    refine XR.cV (as := [_, _]) d_B_freeze_38 l_B_133 kv_T_replaceState (c_T_replaceState (tBk_in h2a)) rfl (xle rfl) rfl rfl (xle rfl) (xle rfl) ?_
    refine XR.iconst d_B_freeze_41 (v := 1) (by decide) ?_
    refine XR.icmp_ne d_B_freeze_42 (tgt := 49) (by decide) (fun h42 => ?_) (fun h42 => ?_)
    · refine XR.iconst d_B_freeze_49 (v := 0) (by decide) ?_
      refine XR.zret0 d_B_freeze_50 rfl ?_
      exact ⟨by rw [cFreeze, if_neg h2a, if_neg h2b, if_pos h13, if_pos h30, if_neg h42], by rw [cFreeze, if_neg h2a, if_neg h2b, if_pos h13, if_pos h30, if_neg h42]⟩
    refine XR.iconst d_B_freeze_45 (v := 1) (by decide) ?_
    refine XR.goto d_B_freeze_46 (tgt := 50) (by decide) ?_
    refine XR.zret1 d_B_freeze_50 rfl ?_
    exact ⟨by rw [cFreeze, if_neg h2a, if_neg h2b, if_pos h13, if_pos h30, if_pos h42], by rw [cFreeze, if_neg h2a, if_neg h2b, if_pos h13, if_pos h30, if_pos h42]⟩
  refine XR.iconst d_B_freeze_33 (v := 1) (by decide) ?_
  refine XR.goto d_B_freeze_34 (tgt := 38) (by decide) ?_
  refine XR.cV (as := [_, _]) d_B_freeze_38 l_B_133 kv_T_replaceState (c_T_replaceState (tBk_in h2a)) rfl (xle rfl) rfl rfl (xle rfl) (xle rfl) ?_
  refine XR.iconst d_B_freeze_41 (v := 1) (by decide) ?_
  refine XR.icmp_ne d_B_freeze_42 (tgt := 49) (by decide) (fun h42 => ?_) (fun h42 => ?_)
  · refine XR.iconst d_B_freeze_49 (v := 0) (by decide) ?_
    refine XR.zret0 d_B_freeze_50 rfl ?_
    exact ⟨by rw [cFreeze, if_neg h2a, if_neg h2b, if_pos h13, if_neg h30, if_neg h42], by rw [cFreeze, if_neg h2a, if_neg h2b, if_pos h13, if_neg h30, if_neg h42]⟩
  refine XR.iconst d_B_freeze_45 (v := 1) (by decide) ?_
  refine XR.goto d_B_freeze_46 (tgt := 50) (by decide) ?_
  refine XR.zret1 d_B_freeze_50 rfl ?_
  exact ⟨by rw [cFreeze, if_neg h2a, if_neg h2b, if_pos h13, if_neg h30, if_pos h42], by rw [cFreeze, if_neg h2a, if_neg h2b, if_pos h13, if_neg h30, if_pos h42]⟩
end XFace
