/-! the tree's loops over all banks -/
def tCdF (top : Int32) : Nat → Nat → xS → xS
  | 0, _, σ => σ
  | f + 1, i, σ => tCdF top f (i + 1) (if tBk σ (nI i) && tWi σ (nI i) top then xu (tAu (xu σ 2 i 2) (nI i) (-(σ 5 i))) 5 i 0 else σ)
def tCd (σ : xS) (top : Int32) : xS := tCdF top 40 0 σ
def tClF : Nat → Nat → xS → xS
  | 0, _, σ => σ
  | f + 1, i, σ => tClF f (i + 1) (if σ 2 i = 2 ∧ σ 6 i = 0 then xu σ 2 i 3 else σ)
def tCl (σ : xS) : xS := tClF 40 0 σ
def tMgF (gone heir : Int32) : Nat → Nat → xS → xS
  | 0, _, σ => σ
  | f + 1, i, σ => tMgF gone heir f (i + 1) (if tBk σ (nI i) = true ∧ σ 3 i = gone then xu σ 3 i heir else σ)
def tMg (σ : xS) (gone : Int32) : xS :=
  tMgF gone (σ 3 (xn gone)) 40 0 (xu (xu σ 5 (xn (σ 3 (xn gone))) (σ 5 (xn (σ 3 (xn gone))) + σ 5 (xn gone))) 2 (xn gone) 3)
def tChF (σ : xS) (b : Int32) : Nat → Nat → Int32 → Int32
  | 0, _, s => s
  | f + 1, i, s => tChF σ b f (i + 1) (if tBk σ (nI i) = true ∧ σ 3 i = b then s + σ 6 i else s)
def tStray (σ : xS) (b owned : Int32) : Bool :=
  !(tChF σ b 40 0 (owned + σ 5 (xn b)) == σ 6 (xn b)) || decide (σ 4 (xn b) < σ 6 (xn b)) || !tWi σ b 0
theorem xu_3 {σ : xS} {i : Nat} {v : Int32} : xu σ 2 i v 3 = σ 3 := xu_other (by decide)
theorem tAuF_other {n : Int32} {q : Nat} (hq : q ≠ 6) : ∀ (f : Nat) (a : Int32) (σ : xS), tAuF n f a σ q = σ q
  | 0, _, _ => rfl
  | f + 1, a, σ => by
    simp only [tAuF]
    split
    · rfl
    · rw [tAuF_other hq f _ _, xu_other hq]
theorem tAu_other {σ : xS} {x n : Int32} {q : Nat} (hq : q ≠ 6) : tAu σ x n q = σ q := tAuF_other hq 7 x σ
theorem pOK.of {σ τ : xS} (h : pOK σ) (e : τ 3 = σ 3) : pOK τ := fun b hb => by rw [e]; exact h b hb
section XTree2
variable {E : xE} {σ : xS} {x top n : Int32}
theorem c_T_condemn (hp : pOK σ) : XC E i_T_condemn 2 0 0 [.ref (xB E + 1), .int top] (xm σ) (xok none (xm (tCd σ top))) := by
  refine XC.ofF (by decide +kernel) cd_T_condemn rfl (xle rfl) ?_
  have loop : ∀ (f i : Nat) (τ : xS), i + f = 40 → pOK τ → XR E i_T_condemn 2 0 0 (xok none (xm (tCdF top f i τ))) 2 [.ref (xB E + 1), .int top, .int (nI i)] [] (xm τ) := by
    intro f
    induction f with
    | zero =>
      intro i τ hi hp
      have : i = 40 := by omega
      subst this
      refine XR.iload_n d_T_condemn_2 rfl ?_
      refine XR.bipush d_T_condemn_3 (v := 40) (by decide) ?_
      refine XR.icmp_ge d_T_condemn_5 (tgt := 57) (by decide) (fun _ => ?_) (fun h => absurd (by decide) h)
      refine XR.return_ d_T_condemn_57 rfl ?_
      exact ⟨rfl, rfl⟩
    | succ f ih =>
      intro i τ hi hp
      have hi40 : vp_in (nI i) 40 := vp_in_nI (by omega) (by decide)
      have ei : xn (nI i) = i := nI_clamp (by omega)
      have e1 : ¬ (tBk τ (nI i) && tWi τ (nI i) top) = true → tCdF top (f + 1) i τ = tCdF top f (i + 1) τ := fun h => by simp only [tCdF, if_neg h]
      have e2 : (tBk τ (nI i) && tWi τ (nI i) top) = true → tCdF top (f + 1) i τ = tCdF top f (i + 1) (xu (tAu (xu τ 2 i 2) (nI i) (-(τ 5 i))) 5 i 0) := fun h => by simp only [tCdF, if_pos h]
      have hp2 : pOK (xu (tAu (xu τ 2 i 2) (nI i) (-(τ 5 i))) 5 i 0) := hp.of (by rw [xu_other (by decide), tAu_other (by decide), xu_other (by decide)])
      refine XR.iload_n d_T_condemn_2 rfl ?_
      refine XR.bipush d_T_condemn_3 (v := 40) (by decide) ?_
      refine XR.icmp_ge d_T_condemn_5 (tgt := 57) (by decide) (fun h => absurd h (nn_le (n := 40) (by omega) (by decide))) (fun _ => ?_)
      refine XR.aload_n d_T_condemn_8 rfl ?_
      refine XR.iload_n d_T_condemn_9 rfl ?_
      refine XR.cV d_T_condemn_10 l_T_33 kv_T_isBank (c_T_isBank) rfl (xle rfl) rfl rfl (xle rfl) (xle rfl) ?_
      refine XR.if_eq d_T_condemn_13 (tgt := 51) (by decide) (fun h13 => ?_) (fun h13 => ?_)
      · refine XR.iincN d_T_condemn_51 rfl (xle rfl) rfl ?_
        refine XR.goto d_T_condemn_54 (tgt := 2) (by decide) ?_
        first | (rw [e1 (by simp_all [bz_z])]; exact ih (i + 1) _ (by omega) hp) | (rw [e2 (by simp_all [bz_z])]; exact ih (i + 1) _ (by omega) hp2)
      refine XR.aload_n d_T_condemn_16 rfl ?_
      refine XR.iload_n d_T_condemn_17 rfl ?_
      refine XR.iload_n d_T_condemn_18 rfl ?_
      refine XR.cV d_T_condemn_19 l_T_37 kv_T_isWithin (c_T_isWithin hp (Or.inr hi40)) rfl (xle rfl) rfl rfl (xle rfl) (xle rfl) ?_
      refine XR.if_eq d_T_condemn_22 (tgt := 51) (by decide) (fun h22 => ?_) (fun h22 => ?_)
      · refine XR.iincN d_T_condemn_51 rfl (xle rfl) rfl ?_
        refine XR.goto d_T_condemn_54 (tgt := 2) (by decide) ?_
        first | (rw [e1 (by simp_all [bz_z])]; exact ih (i + 1) _ (by omega) hp) | (rw [e2 (by simp_all [bz_z])]; exact ih (i + 1) _ (by omega) hp2)
      refine XR.aload_n d_T_condemn_25 rfl ?_
      refine XR.getref d_T_condemn_26 (xle rfl) rfl rfl uin_T (fk := 0) (xle rfl) f_T_9 rfl (xle rfl) ?_
      refine XR.iload_n d_T_condemn_29 rfl ?_
      refine XR.iconst d_T_condemn_30 (v := 2) (by decide) ?_
      refine XR.iastoreN d_T_condemn_31 (xle rfl) (fun _ => rfl) (by omega) (xle rfl) ?_
      refine XR.aload_n d_T_condemn_32 rfl ?_
      refine XR.iload_n d_T_condemn_33 rfl ?_
      refine XR.aload_n d_T_condemn_34 rfl ?_
      refine XR.getref d_T_condemn_35 (xle rfl) rfl rfl uin_T (fk := 3) (xle rfl) f_T_21 rfl (xle rfl) ?_
      refine XR.iload_n d_T_condemn_38 rfl ?_
      refine XR.ialoadN d_T_condemn_39 (xle rfl) (fun _ => rfl) (by omega) (xle rfl) ?_
      refine XR.ineg d_T_condemn_40 ?_
      refine XR.cV d_T_condemn_41 l_T_41 kv_T_addUse (c_T_addUse (hp.of xu_3) (Or.inr hi40)) rfl (xle rfl) rfl rfl (xle rfl) (xle rfl) ?_
      refine XR.aload_n d_T_condemn_44 rfl ?_
      refine XR.getref d_T_condemn_45 (xle rfl) rfl rfl uin_T (fk := 3) (xle rfl) f_T_21 rfl (xle rfl) ?_
      refine XR.iload_n d_T_condemn_48 rfl ?_
      refine XR.iconst d_T_condemn_49 (v := 0) (by decide) ?_
      refine XR.iastoreN d_T_condemn_50 (xle rfl) (fun _ => rfl) (by omega) (xle rfl) ?_
      refine XR.iincN d_T_condemn_51 rfl (xle rfl) rfl ?_
      refine XR.goto d_T_condemn_54 (tgt := 2) (by decide) ?_
      first | (rw [e1 (by simp_all [bz_z])]; exact ih (i + 1) _ (by omega) hp) | (rw [e2 (by simp_all [bz_z])]; exact ih (i + 1) _ (by omega) hp2)
  refine XR.iconst d_T_condemn_0 (v := nI 0) (by decide) ?_
  refine XR.istore_n d_T_condemn_1 (xle rfl) rfl ?_
  exact loop 40 0 σ rfl hp
theorem c_T_closeEmptyDying : XC E i_T_closeEmptyDying 2 0 0 [.ref (xB E + 1)] (xm σ) (xok none (xm (tCl σ))) := by
  refine XC.ofF (by decide +kernel) cd_T_closeEmptyDying rfl (xle rfl) ?_
  have loop : ∀ (f i : Nat) (τ : xS), i + f = 40 → XR E i_T_closeEmptyDying 2 0 0 (xok none (xm (tClF f i τ))) 2 [.ref (xB E + 1), .int (nI i)] [] (xm τ) := by
    intro f
    induction f with
    | zero =>
      intro i τ hi
      have : i = 40 := by omega
      subst this
      refine XR.iload_n d_T_closeEmptyDying_2 rfl ?_
      refine XR.bipush d_T_closeEmptyDying_3 (v := 40) (by decide) ?_
      refine XR.icmp_ge d_T_closeEmptyDying_5 (tgt := 38) (by decide) (fun _ => ?_) (fun h => absurd (by decide) h)
      refine XR.return_ d_T_closeEmptyDying_38 rfl ?_
      exact ⟨rfl, rfl⟩
    | succ f ih =>
      intro i τ hi
      have hi40 : vp_in (nI i) 40 := vp_in_nI (by omega) (by decide)
      have ei : xn (nI i) = i := nI_clamp (by omega)
      have e1 : ¬ (τ 2 i = 2 ∧ τ 6 i = 0) → tClF (f + 1) i τ = tClF f (i + 1) τ := fun h => by simp only [tClF, if_neg h]
      have e2 : (τ 2 i = 2 ∧ τ 6 i = 0) → tClF (f + 1) i τ = tClF f (i + 1) (xu τ 2 i 3) := fun h => by simp only [tClF, if_pos h]
      refine XR.iload_n d_T_closeEmptyDying_2 rfl ?_
      refine XR.bipush d_T_closeEmptyDying_3 (v := 40) (by decide) ?_
      refine XR.icmp_ge d_T_closeEmptyDying_5 (tgt := 38) (by decide) (fun h => absurd h (nn_le (n := 40) (by omega) (by decide))) (fun _ => ?_)
      refine XR.aload_n d_T_closeEmptyDying_8 rfl ?_
      refine XR.iload_n d_T_closeEmptyDying_9 rfl ?_
      refine XR.cV d_T_closeEmptyDying_10 l_T_45 kv_T_isDying (c_T_isDying hi40) rfl (xle rfl) rfl rfl (xle rfl) (xle rfl) ?_
      refine XR.if_eq d_T_closeEmptyDying_13 (tgt := 32) (by decide) (fun h13 => ?_) (fun h13 => ?_)
      · refine XR.iincN d_T_closeEmptyDying_32 rfl (xle rfl) rfl ?_
        refine XR.goto d_T_closeEmptyDying_35 (tgt := 2) (by decide) ?_
        first | (rw [e1 (by simp_all [bz_z, tDy])]; exact ih (i + 1) _ (by omega)) | (rw [e2 (by simp_all [bz_z, tDy])]; exact ih (i + 1) _ (by omega))
      refine XR.aload_n d_T_closeEmptyDying_16 rfl ?_
      refine XR.getref d_T_closeEmptyDying_17 (xle rfl) rfl rfl uin_T (fk := 4) (xle rfl) f_T_24 rfl (xle rfl) ?_
      refine XR.iload_n d_T_closeEmptyDying_20 rfl ?_
      refine XR.ialoadN d_T_closeEmptyDying_21 (xle rfl) (fun _ => rfl) (by omega) (xle rfl) ?_
      refine XR.if_ne d_T_closeEmptyDying_22 (tgt := 32) (by decide) (fun h22 => ?_) (fun h22 => ?_)
      · refine XR.iincN d_T_closeEmptyDying_32 rfl (xle rfl) rfl ?_
        refine XR.goto d_T_closeEmptyDying_35 (tgt := 2) (by decide) ?_
        first | (rw [e1 (by simp_all [bz_z, tDy])]; exact ih (i + 1) _ (by omega)) | (rw [e2 (by simp_all [bz_z, tDy])]; exact ih (i + 1) _ (by omega))
      refine XR.aload_n d_T_closeEmptyDying_25 rfl ?_
      refine XR.getref d_T_closeEmptyDying_26 (xle rfl) rfl rfl uin_T (fk := 0) (xle rfl) f_T_9 rfl (xle rfl) ?_
      refine XR.iload_n d_T_closeEmptyDying_29 rfl ?_
      refine XR.iconst d_T_closeEmptyDying_30 (v := 3) (by decide) ?_
      refine XR.iastoreN d_T_closeEmptyDying_31 (xle rfl) (fun _ => rfl) (by omega) (xle rfl) ?_
      refine XR.iincN d_T_closeEmptyDying_32 rfl (xle rfl) rfl ?_
      refine XR.goto d_T_closeEmptyDying_35 (tgt := 2) (by decide) ?_
      first | (rw [e1 (by simp_all [bz_z, tDy])]; exact ih (i + 1) _ (by omega)) | (rw [e2 (by simp_all [bz_z, tDy])]; exact ih (i + 1) _ (by omega))
  refine XR.iconst d_T_closeEmptyDying_0 (v := nI 0) (by decide) ?_
  refine XR.istore_n d_T_closeEmptyDying_1 (xle rfl) rfl ?_
  exact loop 40 0 σ rfl
theorem c_T_mergeIntoParent (hx : vp_in x 40) (hh : vp_in (σ 3 (xn x)) 40) : XC E i_T_mergeIntoParent 2 0 0 [.ref (xB E + 1), .int x] (xm σ) (xok none (xm (tMg σ x))) := by
  refine XC.ofF (by decide +kernel) cd_T_mergeIntoParent rfl (xle rfl) ?_
  have loop : ∀ (f i : Nat) (τ : xS), i + f = 40 → XR E i_T_mergeIntoParent 2 0 0 (xok none (xm (tMgF x (σ 3 (xn x)) f i τ))) 31 [.ref (xB E + 1), .int x, .int (σ 3 (xn x)), .int (nI i)] [] (xm τ) := by
    intro f
    induction f with
    | zero =>
      intro i τ hi
      have : i = 40 := by omega
      subst this
      refine XR.iload_n d_T_mergeIntoParent_31 rfl ?_
      refine XR.bipush d_T_mergeIntoParent_32 (v := 40) (by decide) ?_
      refine XR.icmp_ge d_T_mergeIntoParent_34 (tgt := 68) (by decide) (fun _ => ?_) (fun h => absurd (by decide) h)
      refine XR.return_ d_T_mergeIntoParent_68 rfl ?_
      exact ⟨rfl, rfl⟩
    | succ f ih =>
      intro i τ hi
      have e1 : ¬ (tBk τ (nI i) = true ∧ τ 3 i = x) → tMgF x (σ 3 (xn x)) (f + 1) i τ = tMgF x (σ 3 (xn x)) f (i + 1) τ := fun h => by simp only [tMgF, if_neg h]
      have e2 : (tBk τ (nI i) = true ∧ τ 3 i = x) → tMgF x (σ 3 (xn x)) (f + 1) i τ = tMgF x (σ 3 (xn x)) f (i + 1) (xu τ 3 i (σ 3 (xn x))) := fun h => by simp only [tMgF, if_pos h]
      refine XR.iload_n d_T_mergeIntoParent_31 rfl ?_
      refine XR.bipush d_T_mergeIntoParent_32 (v := 40) (by decide) ?_
      refine XR.icmp_ge d_T_mergeIntoParent_34 (tgt := 68) (by decide) (fun h => absurd h (nn_le (n := 40) (by omega) (by decide))) (fun _ => ?_)
      refine XR.aload_n d_T_mergeIntoParent_37 rfl ?_
      refine XR.iload_n d_T_mergeIntoParent_38 rfl ?_
      refine XR.cV d_T_mergeIntoParent_39 l_T_33 kv_T_isBank (c_T_isBank) rfl (xle rfl) rfl rfl (xle rfl) (xle rfl) ?_
      refine XR.if_eq d_T_mergeIntoParent_42 (tgt := 62) (by decide) (fun h42 => ?_) (fun h42 => ?_)
      · refine XR.iincN d_T_mergeIntoParent_62 rfl (xle rfl) rfl ?_
        refine XR.goto d_T_mergeIntoParent_65 (tgt := 31) (by decide) ?_
        first | (rw [e1 (by simp_all [bz_z])]; exact ih (i + 1) _ (by omega)) | (rw [e2 (by simp_all [bz_z])]; exact ih (i + 1) _ (by omega))
      refine XR.aload_n d_T_mergeIntoParent_45 rfl ?_
      refine XR.getref d_T_mergeIntoParent_46 (xle rfl) rfl rfl uin_T (fk := 1) (xle rfl) f_T_15 rfl (xle rfl) ?_
      refine XR.iload_n d_T_mergeIntoParent_49 rfl ?_
      refine XR.ialoadN d_T_mergeIntoParent_50 (xle rfl) (fun _ => rfl) (by omega) (xle rfl) ?_
      refine XR.iload_n d_T_mergeIntoParent_51 rfl ?_
      refine XR.icmp_ne d_T_mergeIntoParent_52 (tgt := 62) (by decide) (fun h52 => ?_) (fun h52 => ?_)
      · refine XR.iincN d_T_mergeIntoParent_62 rfl (xle rfl) rfl ?_
        refine XR.goto d_T_mergeIntoParent_65 (tgt := 31) (by decide) ?_
        first | (rw [e1 (by simp_all [bz_z])]; exact ih (i + 1) _ (by omega)) | (rw [e2 (by simp_all [bz_z])]; exact ih (i + 1) _ (by omega))
      refine XR.aload_n d_T_mergeIntoParent_55 rfl ?_
      refine XR.getref d_T_mergeIntoParent_56 (xle rfl) rfl rfl uin_T (fk := 1) (xle rfl) f_T_15 rfl (xle rfl) ?_
      refine XR.iload_n d_T_mergeIntoParent_59 rfl ?_
      refine XR.iload_n d_T_mergeIntoParent_60 rfl ?_
      refine XR.iastoreN d_T_mergeIntoParent_61 (xle rfl) (fun _ => rfl) (by omega) (xle rfl) ?_
      refine XR.iincN d_T_mergeIntoParent_62 rfl (xle rfl) rfl ?_
      refine XR.goto d_T_mergeIntoParent_65 (tgt := 31) (by decide) ?_
      first | (rw [e1 (by simp_all [bz_z])]; exact ih (i + 1) _ (by omega)) | (rw [e2 (by simp_all [bz_z])]; exact ih (i + 1) _ (by omega))
  refine XR.aload_n d_T_mergeIntoParent_0 rfl ?_
  refine XR.getref d_T_mergeIntoParent_1 (xle rfl) rfl rfl uin_T (fk := 1) (xle rfl) f_T_15 rfl (xle rfl) ?_
  refine XR.iload_n d_T_mergeIntoParent_4 rfl ?_
  refine XR.iaload d_T_mergeIntoParent_5 (xle rfl) (fun _ => rfl) hx ?_
  refine XR.istore_n d_T_mergeIntoParent_6 (xle rfl) rfl ?_
  refine XR.aload_n d_T_mergeIntoParent_7 rfl ?_
  refine XR.getref d_T_mergeIntoParent_8 (xle rfl) rfl rfl uin_T (fk := 3) (xle rfl) f_T_21 rfl (xle rfl) ?_
  refine XR.iload_n d_T_mergeIntoParent_11 rfl ?_
  refine XR.dup2 d_T_mergeIntoParent_12 rfl rfl ?_
  refine XR.iaload d_T_mergeIntoParent_13 (xle rfl) (fun _ => rfl) hh ?_
  refine XR.aload_n d_T_mergeIntoParent_14 rfl ?_
  refine XR.getref d_T_mergeIntoParent_15 (xle rfl) rfl rfl uin_T (fk := 3) (xle rfl) f_T_21 rfl (xle rfl) ?_
  refine XR.iload_n d_T_mergeIntoParent_18 rfl ?_
  refine XR.iaload d_T_mergeIntoParent_19 (xle rfl) (fun _ => rfl) hx ?_
  refine XR.iadd d_T_mergeIntoParent_20 ?_
  refine XR.iastore d_T_mergeIntoParent_21 (xle rfl) (fun _ => rfl) hh ?_
  refine XR.aload_n d_T_mergeIntoParent_22 rfl ?_
  refine XR.getref d_T_mergeIntoParent_23 (xle rfl) rfl rfl uin_T (fk := 0) (xle rfl) f_T_9 rfl (xle rfl) ?_
  refine XR.iload_n d_T_mergeIntoParent_26 rfl ?_
  refine XR.iconst d_T_mergeIntoParent_27 (v := 3) (by decide) ?_
  refine XR.iastore d_T_mergeIntoParent_28 (xle rfl) (fun _ => rfl) hx ?_
  refine XR.iconst d_T_mergeIntoParent_29 (v := nI 0) (by decide) ?_
  refine XR.istore_n d_T_mergeIntoParent_30 (xle rfl) rfl ?_
  exact loop 40 0 _ rfl
theorem c_T_isStray {owned : Int32} (hp : pOK σ) (hx : vp_in x 40) : XC E i_T_isStray 2 0 0 [.ref (xB E + 1), .int x, .int owned] (xm σ) (xok (some (.int (bz (tStray σ x owned)))) (xm σ)) := by
  refine XC.ofF (by decide +kernel) cd_T_isStray rfl (xle rfl) ?_
  have loop : ∀ (f i : Nat) (s : Int32), i + f = 40 → tChF σ x f i s = tChF σ x 40 0 (owned + σ 5 (xn x)) → XR E i_T_isStray 2 0 0 (xok (some (.int (bz (tStray σ x owned)))) (xm σ)) 12 [.ref (xB E + 1), .int x, .int owned, .int s, .int (nI i)] [] (xm σ) := by
    intro f
    induction f with
    | zero =>
      intro i s hi hs
      have : i = 40 := by omega
      subst this
      have hs' : s = tChF σ x 40 0 (owned + σ 5 (xn x)) := hs
      refine XR.iload d_T_isStray_12 rfl ?_
      refine XR.bipush d_T_isStray_14 (v := 40) (by decide) ?_
      refine XR.icmp_ge d_T_isStray_16 (tgt := 55) (by decide) (fun _ => ?_) (fun h => absurd (by decide) h)
      refine XR.iload_n d_T_isStray_55 rfl ?_
      refine XR.aload_n d_T_isStray_56 rfl ?_
      refine XR.getref d_T_isStray_57 (xle rfl) rfl rfl uin_T (fk := 4) (xle rfl) f_T_24 rfl (xle rfl) ?_
      refine XR.iload_n d_T_isStray_60 rfl ?_
      refine XR.iaload d_T_isStray_61 (xle rfl) (fun _ => rfl) hx ?_
      refine XR.icmp_ne d_T_isStray_62 (tgt := 89) (by decide) (fun h62 => ?_) (fun h62 => ?_)
      · refine XR.iconst d_T_isStray_89 (v := 1) (by decide) ?_
        refine XR.goto d_T_isStray_90 (tgt := 94) (by decide) ?_
        refine XR.zret1 d_T_isStray_94 rfl ?_
        exact xok_1 (by simp_all [tStray, bz_z])
      refine XR.aload_n d_T_isStray_65 rfl ?_
      refine XR.getref d_T_isStray_66 (xle rfl) rfl rfl uin_T (fk := 4) (xle rfl) f_T_24 rfl (xle rfl) ?_
      refine XR.iload_n d_T_isStray_69 rfl ?_
      refine XR.iaload d_T_isStray_70 (xle rfl) (fun _ => rfl) hx ?_
      refine XR.aload_n d_T_isStray_71 rfl ?_
      refine XR.getref d_T_isStray_72 (xle rfl) rfl rfl uin_T (fk := 2) (xle rfl) f_T_18 rfl (xle rfl) ?_
      refine XR.iload_n d_T_isStray_75 rfl ?_
      refine XR.iaload d_T_isStray_76 (xle rfl) (fun _ => rfl) hx ?_
      refine XR.icmp_gt d_T_isStray_77 (tgt := 89) (by decide) (fun h77 => ?_) (fun h77 => ?_)
      · refine XR.iconst d_T_isStray_89 (v := 1) (by decide) ?_
        refine XR.goto d_T_isStray_90 (tgt := 94) (by decide) ?_
        refine XR.zret1 d_T_isStray_94 rfl ?_
        exact xok_1 (by simp_all [tStray, bz_z])
      refine XR.aload_n d_T_isStray_80 rfl ?_
      refine XR.iload_n d_T_isStray_81 rfl ?_
      refine XR.iconst d_T_isStray_82 (v := 0) (by decide) ?_
      refine XR.cV d_T_isStray_83 l_T_37 kv_T_isWithin (c_T_isWithin hp (Or.inr hx)) rfl (xle rfl) rfl rfl (xle rfl) (xle rfl) ?_
      refine XR.if_ne d_T_isStray_86 (tgt := 93) (by decide) (fun h86 => ?_) (fun h86 => ?_)
      · refine XR.iconst d_T_isStray_93 (v := 0) (by decide) ?_
        refine XR.zret0 d_T_isStray_94 rfl ?_
        exact xok_0 (by simp_all [tStray, bz_z])
      refine XR.iconst d_T_isStray_89 (v := 1) (by decide) ?_
      refine XR.goto d_T_isStray_90 (tgt := 94) (by decide) ?_
      refine XR.zret1 d_T_isStray_94 rfl ?_
      exact xok_1 (by simp_all [tStray, bz_z])
    | succ f ih =>
      intro i s hi hs
      have e1 : ¬ (tBk σ (nI i) = true ∧ σ 3 i = x) → tChF σ x (f + 1) i s = tChF σ x f (i + 1) s := fun h => by simp only [tChF, if_neg h]
      have e2 : (tBk σ (nI i) = true ∧ σ 3 i = x) → tChF σ x (f + 1) i s = tChF σ x f (i + 1) (s + σ 6 i) := fun h => by simp only [tChF, if_pos h]
      rw [← hs] at ih
      refine XR.iload d_T_isStray_12 rfl ?_
      refine XR.bipush d_T_isStray_14 (v := 40) (by decide) ?_
      refine XR.icmp_ge d_T_isStray_16 (tgt := 55) (by decide) (fun h => absurd h (nn_le (n := 40) (by omega) (by decide))) (fun _ => ?_)
      refine XR.aload_n d_T_isStray_19 rfl ?_
      refine XR.iload d_T_isStray_20 rfl ?_
      refine XR.cV d_T_isStray_22 l_T_33 kv_T_isBank (c_T_isBank) rfl (xle rfl) rfl rfl (xle rfl) (xle rfl) ?_
      refine XR.if_eq d_T_isStray_25 (tgt := 49) (by decide) (fun h25 => ?_) (fun h25 => ?_)
      · refine XR.iincN d_T_isStray_49 rfl (xle rfl) rfl ?_
        refine XR.goto d_T_isStray_52 (tgt := 12) (by decide) ?_
        first | exact ih (i + 1) _ (by omega) (e1 (by clear ih hs; simp_all [bz_z])).symm | exact ih (i + 1) _ (by omega) (e2 (by clear ih hs; simp_all [bz_z])).symm
      refine XR.aload_n d_T_isStray_28 rfl ?_
      refine XR.getref d_T_isStray_29 (xle rfl) rfl rfl uin_T (fk := 1) (xle rfl) f_T_15 rfl (xle rfl) ?_
      refine XR.iload d_T_isStray_32 rfl ?_
      refine XR.ialoadN d_T_isStray_34 (xle rfl) (fun _ => rfl) (by omega) (xle rfl) ?_
      refine XR.iload_n d_T_isStray_35 rfl ?_
      refine XR.icmp_ne d_T_isStray_36 (tgt := 49) (by decide) (fun h36 => ?_) (fun h36 => ?_)
      · refine XR.iincN d_T_isStray_49 rfl (xle rfl) rfl ?_
        refine XR.goto d_T_isStray_52 (tgt := 12) (by decide) ?_
        first | exact ih (i + 1) _ (by omega) (e1 (by clear ih hs; simp_all [bz_z])).symm | exact ih (i + 1) _ (by omega) (e2 (by clear ih hs; simp_all [bz_z])).symm
      refine XR.iload_n d_T_isStray_39 rfl ?_
      refine XR.aload_n d_T_isStray_40 rfl ?_
      refine XR.getref d_T_isStray_41 (xle rfl) rfl rfl uin_T (fk := 4) (xle rfl) f_T_24 rfl (xle rfl) ?_
      refine XR.iload d_T_isStray_44 rfl ?_
      refine XR.ialoadN d_T_isStray_46 (xle rfl) (fun _ => rfl) (by omega) (xle rfl) ?_
      refine XR.iadd d_T_isStray_47 ?_
      refine XR.istore_n d_T_isStray_48 (xle rfl) rfl ?_
      refine XR.iincN d_T_isStray_49 rfl (xle rfl) rfl ?_
      refine XR.goto d_T_isStray_52 (tgt := 12) (by decide) ?_
      first | exact ih (i + 1) _ (by omega) (e1 (by clear ih hs; simp_all [bz_z])).symm | exact ih (i + 1) _ (by omega) (e2 (by clear ih hs; simp_all [bz_z])).symm
  refine XR.iload_n d_T_isStray_0 rfl ?_
  refine XR.aload_n d_T_isStray_1 rfl ?_
  refine XR.getref d_T_isStray_2 (xle rfl) rfl rfl uin_T (fk := 3) (xle rfl) f_T_21 rfl (xle rfl) ?_
  refine XR.iload_n d_T_isStray_5 rfl ?_
  refine XR.iaload d_T_isStray_6 (xle rfl) (fun _ => rfl) hx ?_
  refine XR.iadd d_T_isStray_7 ?_
  refine XR.istore_n d_T_isStray_8 (xle rfl) rfl ?_
  refine XR.iconst d_T_isStray_9 (v := nI 0) (by decide) ?_
  refine XR.istore d_T_isStray_10 (xle rfl) rfl ?_
  exact loop 40 0 _ rfl rfl
end XTree2
