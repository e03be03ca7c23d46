/-! filling, giving, closing gaps -/
def xfl (σ : xS) (q : Nat) (v : Int32) (i : Nat) : xS := xup σ q (fun j => if j < i then v else σ q j)
theorem xfl_0 (σ : xS) (q : Nat) (v : Int32) : xfl σ q v 0 = σ := by
  unfold xfl
  have : (fun j => if j < 0 then v else σ q j) = σ q := by funext j; simp
  rw [this, xup_id]
theorem xfl_s (σ : xS) (q : Nat) (v : Int32) (i : Nat) : xu (xfl σ q v i) q i v = xfl σ q v (i + 1) := by
  funext k j
  simp only [xu, xfl, xup]
  by_cases hk : k = q
  · subst hk
    simp only [if_true]
    by_cases h1 : j = i
    · subst h1; simp
    · by_cases h2 : j < i
      · simp [h1, h2, Nat.lt_succ_of_lt h2]
      · have : ¬ j < i + 1 := by omega
        simp [h1, h2, this]
  · simp [hk]
theorem sClr_0 (σ : xS) (p : Nat) : sClr σ p 0 = σ := by
  unfold sClr
  have : (fun j => if p * 4 ≤ j ∧ j < p * 4 + 0 then 0 else σ 11 j) = σ 11 := by
    funext j
    have : ¬ (p * 4 ≤ j ∧ j < p * 4 + 0) := by omega
    simp only [this, if_false]
  rw [this, xup_id]
theorem sClr_s (σ : xS) (p k : Nat) : xu (sClr σ p k) 11 (p * 4 + k) 0 = sClr σ p (k + 1) := by
  funext q j
  simp only [xu, sClr, xup]
  by_cases hq : q = 11
  · subst hq
    simp only [if_true]
    by_cases h1 : j = p * 4 + k
    · subst h1
      have : p * 4 ≤ p * 4 + k ∧ p * 4 + k < p * 4 + (k + 1) := by omega
      simp [this]
    · by_cases h2 : p * 4 ≤ j ∧ j < p * 4 + k
      · have h3 : p * 4 ≤ j ∧ j < p * 4 + (k + 1) := by omega
        simp [h1, h2, h3]
      · have h3 : ¬ (p * 4 ≤ j ∧ j < p * 4 + (k + 1)) := by omega
        simp only [h1, h2, h3, if_false]
  · simp [hq]
section XStore2
variable {E : xE} {σ : xS} {x y v b n : Int32}
theorem c_A_fill {N r q a : Nat} {τ : xS} (hq : q < N) (he : ∀ f, xen E r q f = .inl (xcI E, a, .inl f)) (ha : a < 2 ^ 31) : XC E i_A_fill 1 0 0 [.ref (xB E + q), .int v] (N, r, τ) (xok none (N, r, xfl τ q v a)) := by
  refine XC.ofF (by decide +kernel) cd_A_fill rfl (xle rfl) ?_
  have loop : ∀ (f i : Nat), i + f = a → XR E i_A_fill 1 0 0 (xok none (N, r, xfl τ q v a)) 5 [.ref (xB E + q), .int v, .int (nI i), .int (nI a)] [] (N, r, xfl τ q v i) := by
    intro f
    induction f with
    | zero =>
      intro i hi
      have : i = a := by omega
      subst this
      refine XR.iload_n d_A_fill_5 rfl ?_
      refine XR.iload_n d_A_fill_6 rfl ?_
      refine XR.icmp_ge d_A_fill_7 (tgt := 20) (by decide) (fun _ => ?_) (fun h => absurd (Int32.le_refl _) h)
      refine XR.return_ d_A_fill_20 rfl ?_
      exact ⟨rfl, rfl⟩
    | succ f ih =>
      intro i hi
      refine XR.iload_n d_A_fill_5 rfl ?_
      refine XR.iload_n d_A_fill_6 rfl ?_
      refine XR.icmp_ge d_A_fill_7 (tgt := 20) (by decide) (fun h => absurd h (nI_ge (by omega) ha)) (fun _ => ?_)
      refine XR.aload_n d_A_fill_10 rfl ?_
      refine XR.iload_n d_A_fill_11 rfl ?_
      refine XR.iload_n d_A_fill_12 rfl ?_
      refine XR.iastoreN d_A_fill_13 hq he (by omega) ha ?_
      rw [xfl_s]
      first | refine XR.iincN d_A_fill_14 rfl (by decide) rfl ?_
      refine XR.goto d_A_fill_17 (tgt := 5) (by decide) ?_
      exact ih (i + 1) (by omega)
  have h0 := loop a 0 (by omega)
  rw [xfl_0] at h0
  refine XR.iconst d_A_fill_0 (v := nI 0) (by decide) ?_
  refine XR.istore_n d_A_fill_1 (xle rfl) rfl ?_
  refine XR.aload_n d_A_fill_2 rfl ?_
  refine XR.alen (n := 0) (cA := 0) (ty := .int) d_A_fill_3 hq (he _) (v := nI a) rfl ?_
  refine XR.istore_n d_A_fill_4 (by decide) rfl ?_
  exact h0
theorem c_S_clearWords {p : Nat} (hp : p < 192) : XC E i_S_clearWords 1 0 0 [.ref (xB E + 7), .int (nI p)] (xm σ) (xok none (xm (sClr σ p 4))) := by
  refine XC.ofF (by decide +kernel) cd_S_clearWords rfl (xle rfl) ?_
  have loop : ∀ (f k : Nat), k + f = 4 → XR E i_S_clearWords 1 0 0 (xok none (xm (sClr σ p 4))) 2 [.ref (xB E + 7), .int (nI p), .int (nI k)] [] (xm (sClr σ p k)) := by
    intro f
    induction f with
    | zero =>
      intro k hk
      have : k = 4 := by omega
      subst this
      refine XR.iload_n d_S_clearWords_2 rfl ?_
      refine XR.iconst d_S_clearWords_3 (v := 4) (by decide) ?_
      refine XR.icmp_ge d_S_clearWords_4 (tgt := 24) (by decide) (fun _ => ?_) (fun h => absurd (by decide) h)
      refine XR.return_ d_S_clearWords_24 rfl ?_
      exact ⟨rfl, rfl⟩
    | succ f ih =>
      intro k hk
      have e : nI p * 4 + nI k = nI (p * 4 + k) := by rw [show (4 : Int32) = nI 4 from rfl, pk_mul, nI_add]
      refine XR.iload_n d_S_clearWords_2 rfl ?_
      refine XR.iconst d_S_clearWords_3 (v := 4) (by decide) ?_
      refine XR.icmp_ge d_S_clearWords_4 (tgt := 24) (by decide) (fun h => absurd h (nn_le (n := 4) (by omega) (by decide))) (fun _ => ?_)
      refine XR.aload_n d_S_clearWords_7 rfl ?_
      refine XR.getref d_S_clearWords_8 (xle rfl) rfl rfl uin_S (fk := 3) (xle rfl) f_S_21 rfl (xle rfl) ?_
      refine XR.iload_n d_S_clearWords_11 rfl ?_
      refine XR.iconst d_S_clearWords_12 (v := 4) (by decide) ?_
      refine XR.imul d_S_clearWords_13 ?_
      refine XR.iload_n d_S_clearWords_14 rfl ?_
      refine XR.iadd d_S_clearWords_15 ?_
      rw [e]
      refine XR.iconst d_S_clearWords_16 (v := 0) (by decide) ?_
      refine XR.iastoreN d_S_clearWords_17 (xle rfl) (fun _ => rfl) (by omega) (xle rfl) ?_
      rw [sClr_s]
      refine XR.iincN d_S_clearWords_18 rfl (xle rfl) rfl ?_
      refine XR.goto d_S_clearWords_21 (tgt := 2) (by decide) ?_
      exact ih (k + 1) (by omega)
  have h0 := loop 4 0 (by omega)
  rw [sClr_0] at h0
  refine XR.iconst d_S_clearWords_0 (v := nI 0) (by decide) ?_
  refine XR.istore_n d_S_clearWords_1 (xle rfl) rfl ?_
  exact h0
theorem c_S_give (hx : vp_in x 192) (hl : vp_in (σ 7 6) 192) : XC E i_S_give 1 0 0 [.ref (xB E + 7), .int x, .int b] (xm σ) (xok none (xm (sGive σ x b))) := by
  refine XC.ofF (by decide +kernel) cd_S_give rfl (xle rfl) ?_
  refine XR.aload_n d_S_give_0 rfl ?_
  refine XR.getref d_S_give_1 (xle rfl) rfl rfl uin_S (fk := 1) (xle rfl) f_S_15 rfl (xle rfl) ?_
  refine XR.iload_n d_S_give_4 rfl ?_
  refine XR.iload_n d_S_give_5 rfl ?_
  refine XR.iastore d_S_give_6 (xle rfl) (fun _ => rfl) hx ?_
  refine XR.aload_n d_S_give_7 rfl ?_
  refine XR.getref d_S_give_8 (xle rfl) rfl rfl uin_S (fk := 4) (xle rfl) f_S_24 rfl (xle rfl) ?_
  refine XR.aload_n d_S_give_11 rfl ?_
  refine XR.getint d_S_give_12 (xle rfl) rfl rfl uin_S (fk := 6) (xle rfl) f_S_40 rfl ?_
  refine XR.iload_n d_S_give_15 rfl ?_
  refine XR.iastore d_S_give_16 (xle rfl) (fun _ => rfl) hl ?_
  refine XR.aload_n d_S_give_17 rfl ?_
  refine XR.dup d_S_give_18 rfl ?_
  refine XR.getint d_S_give_19 (xle rfl) rfl rfl uin_S (fk := 6) (xle rfl) f_S_40 rfl ?_
  refine XR.iconst d_S_give_22 (v := 1) (by decide) ?_
  refine XR.iadd d_S_give_23 ?_
  refine XR.putfield d_S_give_24 (xle rfl) (fun _ => rfl) rfl uin_S tyS_ok nmS (fk := 6) (xle rfl) f_S_40 rfl rfl (fun _ => rfl) (fun _ => xle rfl) ?_
  refine XR.return_ d_S_give_27 rfl ?_
  exact ⟨rfl, rfl⟩
theorem c_S_fill {a m l : Nat} (ha : a + m ≤ 192) (hl : σ 7 6 = nI l) (hlm : l + m ≤ 192) : XC E i_S_fill 2 0 0 [.ref (xB E + 7), .int (nI a), .int (nI m), .int b] (xm σ) (xok none (xm (sFi σ a m b))) := by
  refine XC.ofF (by decide +kernel) cd_S_fill rfl (xle rfl) ?_
  have ea : nI a + nI m = nI (a + m) := nI_add a m
  have loop : ∀ (f i j : Nat) (τ : xS), i + f = a + m → τ 7 6 = nI j → j + f ≤ 192 → XR E i_S_fill 2 0 0 (xok none (xm (sFiF b f i τ))) 13 [.ref (xB E + 7), .int (nI a), .int (nI m), .int b, .int (nI i)] [] (xm τ) := by
    intro f
    induction f with
    | zero =>
      intro i j τ hi hj hf
      have : i = a + m := by omega
      subst this
      refine XR.iload d_S_fill_13 rfl ?_
      refine XR.iload_n d_S_fill_15 rfl ?_
      refine XR.iload_n d_S_fill_16 rfl ?_
      refine XR.iadd d_S_fill_17 ?_
      refine XR.icmp_ge d_S_fill_18 (tgt := 62) (by decide) (fun _ => ?_) (fun h => absurd (by rw [ea]; exact Int32.le_refl _) h)
      refine XR.return_ d_S_fill_62 rfl ?_
      exact ⟨rfl, rfl⟩
    | succ f ih =>
      intro i j τ hi hj hf
      have hg : vp_in (sClr (xu (xu τ 8 i (τ 8 i + 1)) 10 i (τ 7 7)) i 4 7 6) 192 := by
        show vp_in (τ 7 6) 192
        rw [hj]; exact vp_in_nI (by omega) (by decide)
      refine XR.iload d_S_fill_13 rfl ?_
      refine XR.iload_n d_S_fill_15 rfl ?_
      refine XR.iload_n d_S_fill_16 rfl ?_
      refine XR.iadd d_S_fill_17 ?_
      refine XR.icmp_ge d_S_fill_18 (tgt := 62) (by decide) (fun h => absurd h (by rw [ea]; exact nI_ge (by omega) (by omega))) (fun _ => ?_)
      refine XR.aload_n d_S_fill_21 rfl ?_
      refine XR.getref d_S_fill_22 (xle rfl) rfl rfl uin_S (fk := 0) (xle rfl) f_S_9 rfl (xle rfl) ?_
      refine XR.iload d_S_fill_25 rfl ?_
      refine XR.dup2 d_S_fill_27 rfl rfl ?_
      refine XR.ialoadN d_S_fill_28 (xle rfl) (fun _ => rfl) (by omega) (xle rfl) ?_
      refine XR.iconst d_S_fill_29 (v := 1) (by decide) ?_
      refine XR.iadd d_S_fill_30 ?_
      refine XR.iastoreN d_S_fill_31 (xle rfl) (fun _ => rfl) (by omega) (xle rfl) ?_
      refine XR.aload_n d_S_fill_32 rfl ?_
      refine XR.getref d_S_fill_33 (xle rfl) rfl rfl uin_S (fk := 2) (xle rfl) f_S_18 rfl (xle rfl) ?_
      refine XR.iload d_S_fill_36 rfl ?_
      refine XR.aload_n d_S_fill_38 rfl ?_
      refine XR.getint d_S_fill_39 (xle rfl) rfl rfl uin_S (fk := 7) (xle rfl) f_S_51 rfl ?_
      refine XR.iastoreN d_S_fill_42 (xle rfl) (fun _ => rfl) (by omega) (xle rfl) ?_
      refine XR.aload_n d_S_fill_43 rfl ?_
      refine XR.iload d_S_fill_44 rfl ?_
      refine XR.cV (as := [_]) d_S_fill_46 l_S_54 kv_S_clearWords (c_S_clearWords (by omega)) rfl (xle rfl) rfl rfl (xle rfl) (xle rfl) ?_
      refine XR.aload_n d_S_fill_49 rfl ?_
      refine XR.iload d_S_fill_50 rfl ?_
      refine XR.iload_n d_S_fill_52 rfl ?_
      refine XR.cV (as := [_, _]) d_S_fill_53 l_S_58 kv_S_give (c_S_give (vp_in_nI (by omega) (by decide)) hg) rfl (xle rfl) rfl rfl (xle rfl) (xle rfl) ?_
      refine XR.iincN d_S_fill_56 rfl (xle rfl) rfl ?_
      refine XR.goto d_S_fill_59 (tgt := 13) (by decide) ?_
      exact ih (i + 1) (j + 1) _ (by omega) (by show τ 7 6 + 1 = nI (j + 1); rw [hj, nI_1]) (by omega)
  refine XR.aload_n d_S_fill_0 rfl ?_
  refine XR.dup d_S_fill_1 rfl ?_
  refine XR.getint d_S_fill_2 (xle rfl) rfl rfl uin_S (fk := 7) (xle rfl) f_S_51 rfl ?_
  refine XR.iconst d_S_fill_5 (v := 1) (by decide) ?_
  refine XR.iadd d_S_fill_6 ?_
  refine XR.putfield d_S_fill_7 (xle rfl) (fun _ => rfl) rfl uin_S tyS_ok nmS (fk := 7) (xle rfl) f_S_51 rfl rfl (fun _ => rfl) (fun _ => xle rfl) ?_
  refine XR.iload_n d_S_fill_10 rfl ?_
  refine XR.istore d_S_fill_11 (xle rfl) rfl ?_
  exact loop m a l _ rfl hl (by omega)
theorem c_S_closeGaps {m : Nat} (ho : oOK σ m) : XC E i_S_closeGaps 2 0 0 [.ref (xB E + 7)] (xm σ) (xok none (xm (sGap σ m))) := by
  refine XC.ofF (by decide +kernel) cd_S_closeGaps rfl (xle rfl) ?_
  have loop : ∀ (f i k : Nat) (τ : xS), i + f = m → k ≤ i → oOK τ m → XR E i_S_closeGaps 2 0 0 (xok none (xm (xu (sGapF f i k τ).2 7 6 (nI (sGapF f i k τ).1)))) 4 [.ref (xB E + 7), .int (nI k), .int (nI i)] [] (xm τ) := by
    intro f
    induction f with
    | zero =>
      intro i k τ hi hk ho
      have : i = m := by omega
      subst this
      refine XR.iload_n d_S_closeGaps_4 rfl ?_
      refine XR.aload_n d_S_closeGaps_5 rfl ?_
      refine XR.getint d_S_closeGaps_6 (xle rfl) rfl rfl uin_S (fk := 6) (xle rfl) f_S_40 rfl ?_
      refine XR.icmp_ge d_S_closeGaps_9 (tgt := 46) (by decide) (fun _ => ?_) (fun h => absurd (by show τ 7 6 ≤ nI i; rw [ho.1]; exact Int32.le_refl _) h)
      refine XR.aload_n d_S_closeGaps_46 rfl ?_
      refine XR.iload_n d_S_closeGaps_47 rfl ?_
      refine XR.putfield d_S_closeGaps_48 (xle rfl) (fun _ => rfl) rfl uin_S tyS_ok nmS (fk := 6) (xle rfl) f_S_40 rfl rfl (fun _ => rfl) (fun _ => xle rfl) ?_
      refine XR.return_ d_S_closeGaps_51 rfl ?_
      exact ⟨rfl, rfl⟩
    | succ f ih =>
      intro i k τ hi hk ho
      have h4 := ho.2.2 i (by omega)
      have hm := ho.2.1
      have e1 : ¬ sTk τ (xn (τ 12 i)) = true → sGapF (f + 1) i k τ = sGapF f (i + 1) k τ := fun h => by simp only [sGapF, if_neg h]
      have e2 : sTk τ (xn (τ 12 i)) = true → sGapF (f + 1) i k τ = sGapF f (i + 1) (k + 1) (xu τ 12 k (τ 12 i)) := fun h => by simp only [sGapF, if_pos h]
      have ho2 : oOK (xu τ 12 k (τ 12 i)) m := ⟨ho.1, hm, fun j hj => by
        rw [xu_at]
        split
        · exact h4
        · exact ho.2.2 j hj⟩
      refine XR.iload_n d_S_closeGaps_4 rfl ?_
      refine XR.aload_n d_S_closeGaps_5 rfl ?_
      refine XR.getint d_S_closeGaps_6 (xle rfl) rfl rfl uin_S (fk := 6) (xle rfl) f_S_40 rfl ?_
      refine XR.icmp_ge d_S_closeGaps_9 (tgt := 46) (by decide) (fun h => absurd h (by show ¬ τ 7 6 ≤ nI i; rw [ho.1]; exact nI_ge (by omega) (by omega))) (fun _ => ?_)
      refine XR.aload_n d_S_closeGaps_12 rfl ?_
      refine XR.aload_n d_S_closeGaps_13 rfl ?_
      refine XR.getref d_S_closeGaps_14 (xle rfl) rfl rfl uin_S (fk := 4) (xle rfl) f_S_24 rfl (xle rfl) ?_
      refine XR.iload_n d_S_closeGaps_17 rfl ?_
      refine XR.ialoadN d_S_closeGaps_18 (xle rfl) (fun _ => rfl) (by omega) (xle rfl) ?_
      refine XR.cV (as := [_]) d_S_closeGaps_19 l_S_36 kv_S_isTaken (c_S_isTaken h4) rfl (xle rfl) rfl rfl (xle rfl) (xle rfl) ?_
      refine XR.if_eq d_S_closeGaps_22 (tgt := 40) (by decide) (fun h22 => ?_) (fun h22 => ?_)
      · refine XR.iincN d_S_closeGaps_40 rfl (xle rfl) rfl ?_
        refine XR.goto d_S_closeGaps_43 (tgt := 4) (by decide) ?_
        first | (rw [e1 (by simp_all [bz_z])]; exact ih (i + 1) _ _ (by omega) (by omega) ho) | (rw [e2 (by simp_all [bz_z])]; exact ih (i + 1) _ _ (by omega) (by omega) ho2)
      refine XR.aload_n d_S_closeGaps_25 rfl ?_
      refine XR.getref d_S_closeGaps_26 (xle rfl) rfl rfl uin_S (fk := 4) (xle rfl) f_S_24 rfl (xle rfl) ?_
      refine XR.iload_n d_S_closeGaps_29 rfl ?_
      refine XR.aload_n d_S_closeGaps_30 rfl ?_
      refine XR.getref d_S_closeGaps_31 (xle rfl) rfl rfl uin_S (fk := 4) (xle rfl) f_S_24 rfl (xle rfl) ?_
      refine XR.iload_n d_S_closeGaps_34 rfl ?_
      refine XR.ialoadN d_S_closeGaps_35 (xle rfl) (fun _ => rfl) (by omega) (xle rfl) ?_
      refine XR.iastoreN d_S_closeGaps_36 (xle rfl) (fun _ => rfl) (by omega) (xle rfl) ?_
      refine XR.iincN d_S_closeGaps_37 rfl (xle rfl) rfl ?_
      refine XR.iincN d_S_closeGaps_40 rfl (xle rfl) rfl ?_
      refine XR.goto d_S_closeGaps_43 (tgt := 4) (by decide) ?_
      first | (rw [e1 (by simp_all [bz_z])]; exact ih (i + 1) _ _ (by omega) (by omega) ho) | (rw [e2 (by simp_all [bz_z])]; exact ih (i + 1) _ _ (by omega) (by omega) ho2)
  refine XR.iconst d_S_closeGaps_0 (v := nI 0) (by decide) ?_
  refine XR.istore_n d_S_closeGaps_1 (xle rfl) rfl ?_
  refine XR.iconst d_S_closeGaps_2 (v := nI 0) (by decide) ?_
  refine XR.istore_n d_S_closeGaps_3 (xle rfl) rfl ?_
  exact loop m 0 0 σ (by omega) (by omega) ho
/-- how often each place is listed -/
def sCoF : Nat → Nat → xS → xS
  | 0, _, σ => σ
  | f + 1, i, σ => sCoF f (i + 1) (xu σ 13 (xn (σ 12 i)) (σ 13 (xn (σ 12 i)) + 1))
theorem c_S_countListings {m : Nat} (ho : oOK σ m) : XC E i_S_countListings 2 0 0 [.ref (xB E + 7)] (xm σ) (xok none (xm (sCoF m 0 (xfl σ 13 0 192)))) := by
  refine XC.ofF (by decide +kernel) cd_S_countListings rfl (xle rfl) ?_
  have loop : ∀ (f i : Nat) (τ : xS), i + f = m → oOK τ m → XR E i_S_countListings 2 0 0 (xok none (xm (sCoF f i τ))) 10 [.ref (xB E + 7), .int (nI i)] [] (xm τ) := by
    intro f
    induction f with
    | zero =>
      intro i τ hi ho
      have : i = m := by omega
      subst this
      refine XR.iload_n d_S_countListings_10 rfl ?_
      refine XR.aload_n d_S_countListings_11 rfl ?_
      refine XR.getint d_S_countListings_12 (xle rfl) rfl rfl uin_S (fk := 6) (xle rfl) f_S_40 rfl ?_
      refine XR.icmp_ge d_S_countListings_15 (tgt := 39) (by decide) (fun _ => ?_) (fun h => absurd (by show τ 7 6 ≤ nI i; rw [ho.1]; exact Int32.le_refl _) h)
      refine XR.return_ d_S_countListings_39 rfl ?_
      exact ⟨rfl, rfl⟩
    | succ f ih =>
      intro i τ hi ho
      have h4 := ho.2.2 i (by omega)
      have hm := ho.2.1
      refine XR.iload_n d_S_countListings_10 rfl ?_
      refine XR.aload_n d_S_countListings_11 rfl ?_
      refine XR.getint d_S_countListings_12 (xle rfl) rfl rfl uin_S (fk := 6) (xle rfl) f_S_40 rfl ?_
      refine XR.icmp_ge d_S_countListings_15 (tgt := 39) (by decide) (fun h => absurd h (by show ¬ τ 7 6 ≤ nI i; rw [ho.1]; exact nI_ge (by omega) (by omega))) (fun _ => ?_)
      refine XR.aload_n d_S_countListings_18 rfl ?_
      refine XR.getref d_S_countListings_19 (xle rfl) rfl rfl uin_S (fk := 5) (xle rfl) f_S_27 rfl (xle rfl) ?_
      refine XR.aload_n d_S_countListings_22 rfl ?_
      refine XR.getref d_S_countListings_23 (xle rfl) rfl rfl uin_S (fk := 4) (xle rfl) f_S_24 rfl (xle rfl) ?_
      refine XR.iload_n d_S_countListings_26 rfl ?_
      refine XR.ialoadN d_S_countListings_27 (xle rfl) (fun _ => rfl) (by omega) (xle rfl) ?_
      refine XR.dup2 d_S_countListings_28 rfl rfl ?_
      refine XR.iaload d_S_countListings_29 (xle rfl) (fun _ => rfl) h4 ?_
      refine XR.iconst d_S_countListings_30 (v := 1) (by decide) ?_
      refine XR.iadd d_S_countListings_31 ?_
      refine XR.iastore d_S_countListings_32 (xle rfl) (fun _ => rfl) h4 ?_
      refine XR.iincN d_S_countListings_33 rfl (xle rfl) rfl ?_
      refine XR.goto d_S_countListings_36 (tgt := 10) (by decide) ?_
      exact ih (i + 1) _ (by omega) ho
  refine XR.aload_n d_S_countListings_0 rfl ?_
  refine XR.getref d_S_countListings_1 (xle rfl) rfl rfl uin_S (fk := 5) (xle rfl) f_S_27 rfl (xle rfl) ?_
  refine XR.iconst d_S_countListings_4 (v := 0) (by decide) ?_
  refine XR.cS (as := [_, _]) d_S_countListings_5 l_S_30 ks_A_fill (c_A_fill (by decide) (fun _ => rfl) (by decide)) rfl (xle rfl) (xle rfl) ?_
  refine XR.iconst d_S_countListings_8 (v := nI 0) (by decide) ?_
  refine XR.istore_n d_S_countListings_9 (xle rfl) rfl ?_
  exact loop m 0 _ (by omega) ho
end XStore2
