/-! the reference's face: more -/
theorem rBk_th {σ : xS} {x : Int32} (h : ¬ bz (rBk σ x) = 0) : ∃ j, j < 40 ∧ x = nI j ∧ ¬ σ 20 j = 0 := by
  have h1 := rBk_in h
  obtain ⟨j, hj, rfl⟩ := vp_in_of h1 (by decide)
  rw [bz_z, Bool.not_eq_false] at h
  simp only [rBk, Bool.and_eq_true, xnI (show j < 2 ^ 31 by omega)] at h
  exact ⟨j, hj, rfl, by simpa using h.2⟩
theorem rCh_up {σ : xS} : ∀ {f : Nat} {a : Int32}, rCh σ f a → rCh σ (f + 1) a
  | 0, _, h => Or.inl h
  | f + 1, _, h => by
    rcases h with h | ⟨h1, h2⟩
    · exact Or.inl h
    · exact Or.inr ⟨h1, rCh_up h2⟩
def rFreeze (σ : xS) (x y : Int32) : Int32 × xS :=
  if xu σ 14 0 (rWr σ x) 14 0 ≤ 0 then (if xu σ 14 0 (rWr σ x) 23 (xn x) = 1 then (if y = 0 then (1, xu (xu σ 14 0 (rWr σ x)) 23 (xn x) 0) else (1, xu (xu σ 14 0 (rWr σ x)) 23 (xn x) 1))
    else (if y = 0 then (0, xu (xu σ 14 0 (rWr σ x)) 23 (xn x) 0) else (0, xu (xu σ 14 0 (rWr σ x)) 23 (xn x) 1)))
  else (0, xu σ 14 0 (rWr σ x))
theorem rWr_in {σ : xS} {x : Int32} (h : xu σ 14 0 (rWr σ x) 14 0 ≤ 0) : ¬ bz (rBk σ x) = 0 ∧ ¬ x = 0 ∧ ¬ σ 23 (xn x) = 2 := by
  have h' : rWr σ x ≤ 0 := by rw [xu_same] at h; exact h
  unfold rWr at h'
  split at h'
  · exact absurd h' (by decide)
  · next a =>
    split at h'
    · exact absurd h' (by decide)
    · next b =>
      split at h'
      · exact absurd h' (by decide)
      · next c => exact ⟨a, b, c⟩
def rLuF (σ : xS) : Nat → Nat → Nat
  | 0, i => i
  | f + 1, i => if σ 20 i = 0 then i else rLuF σ f (i + 1)
def rLu (σ : xS) : Nat := rLuF σ 39 1
theorem rLuF_le (σ : xS) : ∀ (f i : Nat), rLuF σ f i ≤ i + f
  | 0, i => Nat.le_refl _
  | f + 1, i => by
    simp only [rLuF]
    split
    · omega
    · have := rLuF_le σ f (i + 1); omega
def rOpen (σ : xS) (b : Nat) (x y : Int32) : xS := xu (xu (xu (xu (xu σ 20 b 1) 21 b x) 22 b y) 23 b 0) 24 b 0
def rBank (σ : xS) (x y : Int32) : Int32 × xS :=
  if bz (rBk σ x) = 0 then (0, xu σ 14 0 1) else if bz (rIn y 0 192) = 0 then (0, xu σ 14 0 2) else if bz (σ 23 (xn x) == 0) = 0 then (0, xu σ 14 0 3)
  else if nI (rDep (xu σ 14 0 0) x) = 6 then (0, xu (xu (xu σ 14 0 0) 14 13 (-1)) 14 0 4) else if nI (rLu (xu σ 14 0 0)) = 40 then (0, xu (xu (xu σ 14 0 0) 14 13 (-1)) 14 0 4)
  else (nI (rLu (xu σ 14 0 0)), rOpen (xu σ 14 0 0) (rLu (xu σ 14 0 0)) x y)
def rDeF (top : Int32) : Nat → Nat → xS → xS
  | 0, _, σ => σ
  | f + 1, i, σ => rDeF top f (i + 1) (if rTU σ top i = true then xu (xu σ 23 i 2) 24 i 0 else σ)
theorem rDeF_other {top : Int32} {q : Nat} (h3 : q ≠ 23) (h4 : q ≠ 24) : ∀ (f i : Nat) (σ : xS), rDeF top f i σ q = σ q
  | 0, _, _ => rfl
  | f + 1, i, σ => by
    simp only [rDeF]
    rw [rDeF_other h3 h4 f _ _]
    split
    · rw [xu_other h4, xu_other h3]
    · rfl
theorem rPsF_other {q : Nat} (hq : q ≠ 20) : ∀ (f i : Nat) (m : Bool) (σ : xS), (rPsF f i m σ).2 q = σ q
  | 0, _, _, _ => rfl
  | f + 1, i, m, σ => by
    simp only [rPsF]
    split
    · rw [rPsF_other hq f _ _ _, xu_other hq]
    · rw [rPsF_other hq f _ _ _]
theorem rClN_other {q : Nat} (hq : q ≠ 20) : ∀ (n : Nat) (σ : xS), rClN n σ q = σ q
  | 0, _ => rfl
  | n + 1, σ => by
    simp only [rClN]
    split
    · rw [rClN_other hq n _, rPass, rPsF_other hq]
    · rw [rPass, rPsF_other hq]
theorem rClear_other {σ : xS} {q : Nat} (hq : q ≠ 20) : rClear σ q = σ q := rClN_other hq 41 σ
abbrev rDestroyS (σ : xS) (x : Int32) : xS := rClear (rDeF x 40 0 (xu σ 14 0 (rWr σ x)))
def rDestroy (σ : xS) (x : Int32) : Int32 × xS := if xu σ 14 0 (rWr σ x) 14 0 ≤ 0 then (nI (xcn (rTbf (rDestroyS σ x)) 192), rDestroyS σ x) else (0, xu σ 14 0 (rWr σ x))
def rWoF : Nat → Nat → Int32 → xS → xS
  | 0, _, _, σ => σ
  | f + 1, i, left, σ => if left ≤ 0 then σ else if rTbf σ i = true then rWoF f (i + 1) (left - 1) (xu σ 15 i (-1)) else rWoF f (i + 1) left σ
abbrev rWorkS (σ : xS) (x : Int32) : xS := rClear (rWoF 192 0 x (xu σ 14 0 0))
def rWork (σ : xS) (x : Int32) : Int32 × xS := if bz (rIn x 0 192) = 0 then (0, xu σ 14 0 1) else (nI (xcn (rTbf (rWorkS σ x)) 192), rWorkS σ x)
section XModel4
variable {E : xE} {σ : xS} {x y v n : Int32}
theorem c_M_freeze : XC E i_M_freeze 4 0 0 [.ref (xB E + 14), .int x, .int y] (xm σ) (xrn (rFreeze σ x y)) := by
  refine XC.ofF (by decide +kernel) cd_M_freeze rfl (xle rfl) ?_
  have nb : ∀ b : Bool, bz b = (if b then 1 else 0) := fun _ => rfl
  refine XR.aload_n d_M_freeze_0 rfl ?_
  refine XR.aload_n d_M_freeze_1 rfl ?_
  refine XR.iload_n d_M_freeze_2 rfl ?_
  refine XR.cV (as := [_]) d_M_freeze_3 l_M_112 kv_M_wrong (c_M_wrong) rfl (xle rfl) rfl rfl (xle rfl) (xle rfl) ?_
  refine XR.putfield d_M_freeze_6 (xle rfl) (fun _ => rfl) rfl uin_M tyM_ok nmM (fk := 0) (xle rfl) f_M_45 rfl rfl (fun _ => rfl) (fun _ => xle rfl) ?_
  refine XR.aload_n d_M_freeze_9 rfl ?_
  refine XR.getint d_M_freeze_10 (xle rfl) rfl rfl uin_M (fk := 0) (xle rfl) f_M_45 rfl ?_
  refine XR.if_le d_M_freeze_13 (tgt := 18) (by decide) (fun h13 => ?_) (fun h13 => ?_)
  · refine XR.aload_n d_M_freeze_18 rfl ?_
    refine XR.getref d_M_freeze_19 (xle rfl) rfl rfl uin_M (fk := 11) (xle rfl) f_M_35 rfl (xle rfl) ?_
    refine XR.iload_n d_M_freeze_22 rfl ?_
    refine XR.iaload d_M_freeze_23 (xle rfl) (fun _ => rfl) (rBk_in (rWr_in h13).1) ?_
    refine XR.iconst d_M_freeze_24 (v := 1) (by decide) ?_
    refine XR.icmp_ne d_M_freeze_25 (tgt := 32) (by decide) (fun h25 => ?_) (fun h25 => ?_)
    · refine XR.iconst d_M_freeze_32 (v := bz false) (by decide) ?_
      refine XR.istore_n d_M_freeze_33 (xle rfl) rfl ?_
      refine XR.aload_n d_M_freeze_34 rfl ?_
      refine XR.getref d_M_freeze_35 (xle rfl) rfl rfl uin_M (fk := 11) (xle rfl) f_M_35 rfl (xle rfl) ?_
      refine XR.iload_n d_M_freeze_38 rfl ?_
      refine XR.iload_n d_M_freeze_39 rfl ?_
      refine XR.if_eq d_M_freeze_40 (tgt := 47) (by decide) (fun h40 => ?_) (fun h40 => ?_)
      · refine XR.iconst d_M_freeze_47 (v := 0) (by decide) ?_
        refine XR.iastore d_M_freeze_48 (xle rfl) (fun _ => rfl) (rBk_in (rWr_in h13).1) ?_
        refine XR.iload_n d_M_freeze_49 rfl ?_
        refine XR.zreturn d_M_freeze_50 rfl ?_
        exact ⟨by rw [rFreeze, if_pos h13, if_neg h25, if_pos h40] <;> rfl, by rw [rFreeze, if_pos h13, if_neg h25, if_pos h40] <;> rfl⟩
      refine XR.iconst d_M_freeze_43 (v := 1) (by decide) ?_
      refine XR.goto d_M_freeze_44 (tgt := 48) (by decide) ?_
      refine XR.iastore d_M_freeze_48 (xle rfl) (fun _ => rfl) (rBk_in (rWr_in h13).1) ?_
      refine XR.iload_n d_M_freeze_49 rfl ?_
      refine XR.zreturn d_M_freeze_50 rfl ?_
      exact ⟨by rw [rFreeze, if_pos h13, if_neg h25, if_neg h40] <;> rfl, by rw [rFreeze, if_pos h13, if_neg h25, if_neg h40] <;> rfl⟩
    refine XR.iconst d_M_freeze_28 (v := bz true) (by decide) ?_
    refine XR.goto d_M_freeze_29 (tgt := 33) (by decide) ?_
    refine XR.istore_n d_M_freeze_33 (xle rfl) rfl ?_
    refine XR.aload_n d_M_freeze_34 rfl ?_
    refine XR.getref d_M_freeze_35 (xle rfl) rfl rfl uin_M (fk := 11) (xle rfl) f_M_35 rfl (xle rfl) ?_
    refine XR.iload_n d_M_freeze_38 rfl ?_
    refine XR.iload_n d_M_freeze_39 rfl ?_
    refine XR.if_eq d_M_freeze_40 (tgt := 47) (by decide) (fun h40 => ?_) (fun h40 => ?_)
    · refine XR.iconst d_M_freeze_47 (v := 0) (by decide) ?_
      refine XR.iastore d_M_freeze_48 (xle rfl) (fun _ => rfl) (rBk_in (rWr_in h13).1) ?_
      refine XR.iload_n d_M_freeze_49 rfl ?_
      refine XR.zreturn d_M_freeze_50 rfl ?_
      exact ⟨by rw [rFreeze, if_pos h13, if_pos h25, if_pos h40] <;> rfl, by rw [rFreeze, if_pos h13, if_pos h25, if_pos h40] <;> rfl⟩
    refine XR.iconst d_M_freeze_43 (v := 1) (by decide) ?_
    refine XR.goto d_M_freeze_44 (tgt := 48) (by decide) ?_
    refine XR.iastore d_M_freeze_48 (xle rfl) (fun _ => rfl) (rBk_in (rWr_in h13).1) ?_
    refine XR.iload_n d_M_freeze_49 rfl ?_
    refine XR.zreturn d_M_freeze_50 rfl ?_
    exact ⟨by rw [rFreeze, if_pos h13, if_pos h25, if_neg h40] <;> rfl, by rw [rFreeze, if_pos h13, if_pos h25, if_neg h40] <;> rfl⟩
  refine XR.iconst d_M_freeze_16 (v := 0) (by decide) ?_
  refine XR.zret0 d_M_freeze_17 rfl ?_
  exact ⟨by rw [rFreeze, if_neg h13] <;> rfl, by rw [rFreeze, if_neg h13] <;> rfl⟩
set_option maxRecDepth 100000 in
theorem c_M_bank (hr : rOK σ) : XC E i_M_bank 3 0 0 [.ref (xB E + 14), .int x, .int y] (xm σ) (xrn (rBank σ x y)) := by
  refine XC.ofF (by decide +kernel) cd_M_bank rfl (xle rfl) ?_
  have q : ¬ bz (rBk σ x) = 0 → rCh (xu σ 14 0 0) 7 ((xu σ 14 0 0) 21 (xn x)) := fun h => by
    obtain ⟨j, hj, rfl, h0⟩ := rBk_th h
    have h7 : rCh σ 7 (nI j) := hr j hj h0
    rcases h7 with h7 | ⟨-, h7⟩
    · exact absurd h7 (nI_pos (by omega))
    · have e : rCh σ 6 (σ 21 (xn (nI j))) → rCh σ 7 (σ 21 (xn (nI j))) := rCh_up
      exact rCh.of rfl (e h7)
  have loop : ¬ bz (rBk σ x) = 0 → ¬ bz (rIn y 0 192) = 0 → ¬ bz (σ 23 (xn x) == 0) = 0 → ∀ (f i : Nat), i + f = 40 → rLuF (xu σ 14 0 0) f i = rLu (xu σ 14 0 0) → XR E i_M_bank 3 0 0 (xrn (rBank σ x y)) 55 [.ref (xB E + 14), .int x, .int y, .int (nI i)] [] (xm (xu σ 14 0 0)) := by
    intro h6 h21 h33
    have fin : XR E i_M_bank 3 0 0 (xrn (rBank σ x y)) 76 [.ref (xB E + 14), .int x, .int y, .int (nI (rLu (xu σ 14 0 0)))] [] (xm (xu σ 14 0 0)) := by
      have hle := rLuF_le (xu σ 14 0 0) 39 1
      have hlt : ¬ nI (rLu (xu σ 14 0 0)) = 40 → rLu (xu σ 14 0 0) < 40 := fun h => by
        have h40 : rLu (xu σ 14 0 0) ≠ 40 := fun e => h (by rw [e]; rfl)
        have : rLu (xu σ 14 0 0) ≤ 1 + 39 := hle
        omega
      generalize hb : rLu (xu σ 14 0 0) = b at hlt ⊢
      have pre : rBank σ x y = (if nI (rDep (xu σ 14 0 0) x) = 6 then (0, xu (xu (xu σ 14 0 0) 14 13 (-1)) 14 0 4) else if nI b = 40 then (0, xu (xu (xu σ 14 0 0) 14 13 (-1)) 14 0 4) else (nI b, rOpen (xu σ 14 0 0) b x y)) := by
        rw [rBank, if_neg h6, if_neg h21, if_neg h33, hb]
      have q2 : nI (rDep (xu σ 14 0 0) x) = 6 → rBank σ x y = (0, xu (xu (xu σ 14 0 0) 14 13 (-1)) 14 0 4) := fun a => by rw [pre, if_pos a]
      have q3 : ¬ nI (rDep (xu σ 14 0 0) x) = 6 → nI b = 40 → rBank σ x y = (0, xu (xu (xu σ 14 0 0) 14 13 (-1)) 14 0 4) := fun a c => by rw [pre, if_neg a, if_pos c]
      have q4 : ¬ nI (rDep (xu σ 14 0 0) x) = 6 → ¬ nI b = 40 → rBank σ x y = (nI b, rOpen (xu σ 14 0 0) b x y) := fun a c => by rw [pre, if_neg a, if_neg c]
      refine XR.aload_n d_M_bank_76 rfl ?_
      refine XR.iload_n d_M_bank_77 rfl ?_
      refine XR.cV (as := [_]) d_M_bank_78 l_M_70 kv_M_depthOf (c_M_depthOf (rBk_in h6) (q h6)) rfl (xle rfl) rfl rfl (xle rfl) (xle rfl) ?_
      refine XR.bipush d_M_bank_81 (v := 6) (by decide) ?_
      refine XR.icmp_eq d_M_bank_83 (tgt := 92) (by decide) (fun h83 => ?_) (fun h83 => ?_)
      · skip
        refine XR.aload_n d_M_bank_92 rfl ?_
        refine XR.aload_n d_M_bank_93 rfl ?_
        refine XR.iconst d_M_bank_94 (v := 4) (by decide) ?_
        refine XR.iconst d_M_bank_95 (v := -1) (by decide) ?_
        refine XR.cV (as := [_, _]) d_M_bank_96 l_M_73 kv_M_unsupported (c_M_unsupported) rfl (xle rfl) rfl rfl (xle rfl) (xle rfl) ?_
        refine XR.putfield d_M_bank_99 (xle rfl) (fun _ => rfl) rfl uin_M tyM_ok nmM (fk := 0) (xle rfl) f_M_45 rfl rfl (fun _ => rfl) (fun _ => xle rfl) ?_
        refine XR.iconst d_M_bank_102 (v := 0) (by decide) ?_
        refine XR.xreturn d_M_bank_103 rfl ?_
        rw [q2 h83]
        exact ⟨rfl, rfl⟩
      refine XR.iload_n d_M_bank_86 rfl ?_
      refine XR.bipush d_M_bank_87 (v := 40) (by decide) ?_
      refine XR.icmp_ne d_M_bank_89 (tgt := 104) (by decide) (fun h89 => ?_) (fun h89 => ?_)
      · have hb40 := hlt h89
        refine XR.aload_n d_M_bank_104 rfl ?_
        refine XR.getref d_M_bank_105 (xle rfl) rfl rfl uin_M (fk := 8) (xle rfl) f_M_25 rfl (xle rfl) ?_
        refine XR.iload_n d_M_bank_108 rfl ?_
        refine XR.iconst d_M_bank_109 (v := 1) (by decide) ?_
        refine XR.bastoreN d_M_bank_110 (xle rfl) (fun _ => rfl) (by omega) (xle rfl) rfl ?_
        refine XR.aload_n d_M_bank_111 rfl ?_
        refine XR.getref d_M_bank_112 (xle rfl) rfl rfl uin_M (fk := 9) (xle rfl) f_M_29 rfl (xle rfl) ?_
        refine XR.iload_n d_M_bank_115 rfl ?_
        refine XR.iload_n d_M_bank_116 rfl ?_
        refine XR.iastoreN d_M_bank_117 (xle rfl) (fun _ => rfl) (by omega) (xle rfl) ?_
        refine XR.aload_n d_M_bank_118 rfl ?_
        refine XR.getref d_M_bank_119 (xle rfl) rfl rfl uin_M (fk := 10) (xle rfl) f_M_32 rfl (xle rfl) ?_
        refine XR.iload_n d_M_bank_122 rfl ?_
        refine XR.iload_n d_M_bank_123 rfl ?_
        refine XR.iastoreN d_M_bank_124 (xle rfl) (fun _ => rfl) (by omega) (xle rfl) ?_
        refine XR.aload_n d_M_bank_125 rfl ?_
        refine XR.getref d_M_bank_126 (xle rfl) rfl rfl uin_M (fk := 11) (xle rfl) f_M_35 rfl (xle rfl) ?_
        refine XR.iload_n d_M_bank_129 rfl ?_
        refine XR.iconst d_M_bank_130 (v := 0) (by decide) ?_
        refine XR.iastoreN d_M_bank_131 (xle rfl) (fun _ => rfl) (by omega) (xle rfl) ?_
        refine XR.aload_n d_M_bank_132 rfl ?_
        refine XR.getref d_M_bank_133 (xle rfl) rfl rfl uin_M (fk := 12) (xle rfl) f_M_38 rfl (xle rfl) ?_
        refine XR.iload_n d_M_bank_136 rfl ?_
        refine XR.iconst d_M_bank_137 (v := 0) (by decide) ?_
        refine XR.iastoreN d_M_bank_138 (xle rfl) (fun _ => rfl) (by omega) (xle rfl) ?_
        refine XR.iload_n d_M_bank_139 rfl ?_
        refine XR.xreturn d_M_bank_140 rfl ?_
        rw [q4 h83 h89]
        exact ⟨rfl, rfl⟩
      · skip
        refine XR.aload_n d_M_bank_92 rfl ?_
        refine XR.aload_n d_M_bank_93 rfl ?_
        refine XR.iconst d_M_bank_94 (v := 4) (by decide) ?_
        refine XR.iconst d_M_bank_95 (v := -1) (by decide) ?_
        refine XR.cV (as := [_, _]) d_M_bank_96 l_M_73 kv_M_unsupported (c_M_unsupported) rfl (xle rfl) rfl rfl (xle rfl) (xle rfl) ?_
        refine XR.putfield d_M_bank_99 (xle rfl) (fun _ => rfl) rfl uin_M tyM_ok nmM (fk := 0) (xle rfl) f_M_45 rfl rfl (fun _ => rfl) (fun _ => xle rfl) ?_
        refine XR.iconst d_M_bank_102 (v := 0) (by decide) ?_
        refine XR.xreturn d_M_bank_103 rfl ?_
        rw [q3 h83 h89]
        exact ⟨rfl, rfl⟩
    intro f
    induction f with
    | zero =>
      intro i hi he
      have : i = 40 := by omega
      subst this
      have he' : 40 = rLu (xu σ 14 0 0) := he
      rw [← he'] at fin
      refine XR.iload_n d_M_bank_55 rfl ?_
      refine XR.bipush d_M_bank_56 (v := 40) (by decide) ?_
      refine XR.icmp_ge d_M_bank_58 (tgt := 76) (by decide) (fun _ => ?_) (fun h => absurd (by decide) h)
      exact fin
    | succ f ih =>
      intro i hi he
      have q1 : σ 20 i = 0 → i = rLu (xu σ 14 0 0) := fun h => by
        have h' : (xu σ 14 0 0) 20 i = 0 := h
        rw [← he]; simp only [rLuF, if_pos h']
      have q2 : ¬ σ 20 i = 0 → rLuF (xu σ 14 0 0) f (i + 1) = rLu (xu σ 14 0 0) := fun h => by
        have h' : ¬ (xu σ 14 0 0) 20 i = 0 := h
        rw [← he]; simp only [rLuF, if_neg h']
      refine XR.iload_n d_M_bank_55 rfl ?_
      refine XR.bipush d_M_bank_56 (v := 40) (by decide) ?_
      refine XR.icmp_ge d_M_bank_58 (tgt := 76) (by decide) (fun h => absurd h (nn_le (n := 40) (by omega) (by decide))) (fun _ => ?_)
      refine XR.aload_n d_M_bank_61 rfl ?_
      refine XR.getref d_M_bank_62 (xle rfl) rfl rfl uin_M (fk := 8) (xle rfl) f_M_25 rfl (xle rfl) ?_
      refine XR.iload_n d_M_bank_65 rfl ?_
      refine XR.baloadN d_M_bank_66 (xle rfl) (fun _ => rfl) (by omega) (xle rfl) ?_
      refine XR.if_eq d_M_bank_67 (tgt := 76) (by decide) (fun h67 => ?_) (fun h67 => ?_)
      · rw [← q1 h67] at fin
        exact fin
      refine XR.iincN d_M_bank_70 rfl (xle rfl) rfl ?_
      refine XR.goto d_M_bank_73 (tgt := 55) (by decide) ?_
      exact ih (i + 1) (by omega) (q2 h67)
  refine XR.aload_n d_M_bank_0 rfl ?_
  refine XR.aload_n d_M_bank_1 rfl ?_
  refine XR.iload_n d_M_bank_2 rfl ?_
  refine XR.cV (as := [_]) d_M_bank_3 l_M_63 kv_M_isBank (c_M_isBank) rfl (xle rfl) rfl rfl (xle rfl) (xle rfl) ?_
  refine XR.if_ne d_M_bank_6 (tgt := 13) (by decide) (fun h6 => ?_) (fun h6 => ?_)
  · refine XR.iload_n d_M_bank_13 rfl ?_
    refine XR.iconst d_M_bank_14 (v := 0) (by decide) ?_
    refine XR.sipush d_M_bank_15 (v := 192) (by decide) ?_
    refine XR.cS (as := [_, _, _]) d_M_bank_18 l_M_48 ks_M_in (c_M_in) rfl (xle rfl) (xle rfl) ?_
    refine XR.if_ne d_M_bank_21 (tgt := 28) (by decide) (fun h21 => ?_) (fun h21 => ?_)
    · refine XR.aload_n d_M_bank_28 rfl ?_
      refine XR.iload_n d_M_bank_29 rfl ?_
      refine XR.cV (as := [_]) d_M_bank_30 l_M_67 kv_M_isOpen (c_M_isOpen (rBk_in h6)) rfl (xle rfl) rfl rfl (xle rfl) (xle rfl) ?_
      refine XR.if_ne d_M_bank_33 (tgt := 40) (by decide) (fun h33 => ?_) (fun h33 => ?_)
      · refine XR.iconst d_M_bank_40 (v := 0) (by decide) ?_
        refine XR.putfield d_M_bank_41 (xle rfl) (fun _ => rfl) rfl uin_M tyM_ok nmM (fk := 0) (xle rfl) f_M_45 rfl rfl (fun _ => rfl) (fun _ => xle rfl) ?_
        refine XR.aload_n d_M_bank_44 rfl ?_
        refine XR.getint d_M_bank_45 (xle rfl) rfl rfl uin_M (fk := 0) (xle rfl) f_M_45 rfl ?_
        refine XR.if_le d_M_bank_48 (tgt := 53) (by decide) (fun _ => ?_) (fun h => absurd (show (0 : Int32) ≤ 0 by decide) h)
        refine XR.iconst d_M_bank_53 (v := nI 1) (by decide) ?_
        refine XR.istore_n d_M_bank_54 (xle rfl) rfl ?_
        exact loop h6 h21 h33 39 1 rfl rfl
      refine XR.iconst d_M_bank_36 (v := 3) (by decide) ?_
      refine XR.goto d_M_bank_37 (tgt := 41) (by decide) ?_
      refine XR.putfield d_M_bank_41 (xle rfl) (fun _ => rfl) rfl uin_M tyM_ok nmM (fk := 0) (xle rfl) f_M_45 rfl rfl (fun _ => rfl) (fun _ => xle rfl) ?_
      refine XR.aload_n d_M_bank_44 rfl ?_
      refine XR.getint d_M_bank_45 (xle rfl) rfl rfl uin_M (fk := 0) (xle rfl) f_M_45 rfl ?_
      refine XR.if_le d_M_bank_48 (tgt := 53) (by decide) (fun h => absurd h (show ¬ (3 : Int32) ≤ 0 by decide)) (fun _ => ?_)
      refine XR.iconst d_M_bank_51 (v := 0) (by decide) ?_
      refine XR.xreturn d_M_bank_52 rfl ?_
      exact ⟨by rw [rBank, if_neg h6, if_neg h21, if_pos h33] <;> rfl, by rw [rBank, if_neg h6, if_neg h21, if_pos h33] <;> rfl⟩
    refine XR.iconst d_M_bank_24 (v := 2) (by decide) ?_
    refine XR.goto d_M_bank_25 (tgt := 41) (by decide) ?_
    refine XR.putfield d_M_bank_41 (xle rfl) (fun _ => rfl) rfl uin_M tyM_ok nmM (fk := 0) (xle rfl) f_M_45 rfl rfl (fun _ => rfl) (fun _ => xle rfl) ?_
    refine XR.aload_n d_M_bank_44 rfl ?_
    refine XR.getint d_M_bank_45 (xle rfl) rfl rfl uin_M (fk := 0) (xle rfl) f_M_45 rfl ?_
    refine XR.if_le d_M_bank_48 (tgt := 53) (by decide) (fun h => absurd h (show ¬ (2 : Int32) ≤ 0 by decide)) (fun _ => ?_)
    refine XR.iconst d_M_bank_51 (v := 0) (by decide) ?_
    refine XR.xreturn d_M_bank_52 rfl ?_
    exact ⟨by rw [rBank, if_neg h6, if_pos h21] <;> rfl, by rw [rBank, if_neg h6, if_pos h21] <;> rfl⟩
  refine XR.iconst d_M_bank_9 (v := 1) (by decide) ?_
  refine XR.goto d_M_bank_10 (tgt := 41) (by decide) ?_
  refine XR.putfield d_M_bank_41 (xle rfl) (fun _ => rfl) rfl uin_M tyM_ok nmM (fk := 0) (xle rfl) f_M_45 rfl rfl (fun _ => rfl) (fun _ => xle rfl) ?_
  refine XR.aload_n d_M_bank_44 rfl ?_
  refine XR.getint d_M_bank_45 (xle rfl) rfl rfl uin_M (fk := 0) (xle rfl) f_M_45 rfl ?_
  refine XR.if_le d_M_bank_48 (tgt := 53) (by decide) (fun h => absurd h (show ¬ (1 : Int32) ≤ 0 by decide)) (fun _ => ?_)
  refine XR.iconst d_M_bank_51 (v := 0) (by decide) ?_
  refine XR.xreturn d_M_bank_52 rfl ?_
  exact ⟨by rw [rBank, if_pos h6] <;> rfl, by rw [rBank, if_pos h6] <;> rfl⟩
theorem c_M_destroy (hr : rOK σ) (hw : rvOK σ) : XC E i_M_destroy 4 0 0 [.ref (xB E + 14), .int x] (xm σ) (xrn (rDestroy σ x)) := by
  refine XC.ofF (by decide +kernel) cd_M_destroy rfl (xle rfl) ?_
  obtain ⟨T, hT⟩ : ∃ T, T = rDeF x 40 0 (xu σ 14 0 (rWr σ x)) := ⟨_, rfl⟩
  have pre : xu σ 14 0 (rWr σ x) 14 0 ≤ 0 → rDestroy σ x = (nI (xcn (rTbf (rClear T)) 192), rClear T) := fun h => by rw [rDestroy, if_pos h, hT]
  have hwT : rvOK (rClear T) := hw.of (by rw [rClear_other (by decide), hT, rDeF_other (by decide) (by decide)]; rfl)
  have loop : xu σ 14 0 (rWr σ x) 14 0 ≤ 0 → ∀ (f i : Nat) (τ : xS), i + f = 40 → rDeF x f i τ = T → rOK τ → XR E i_M_destroy 4 0 0 (xrn (rDestroy σ x)) 20 [.ref (xB E + 14), .int x, .int (nI i)] [] (xm τ) := by
    intro h13 f
    induction f with
    | zero =>
      intro i τ hi he hr
      have : i = 40 := by omega
      subst this
      have he' : τ = T := he
      subst he'
      refine XR.iload_n d_M_destroy_20 rfl ?_
      refine XR.bipush d_M_destroy_21 (v := 40) (by decide) ?_
      refine XR.icmp_ge d_M_destroy_23 (tgt := 64) (by decide) (fun _ => ?_) (fun h => absurd (by decide) h)
      refine XR.aload_n d_M_destroy_64 rfl ?_
      refine XR.cV (as := []) d_M_destroy_65 l_M_121 kv_M_clear (c_M_clear) rfl (xle rfl) rfl rfl (xle rfl) (xle rfl) ?_
      refine XR.aload_n d_M_destroy_68 rfl ?_
      refine XR.cV (as := []) d_M_destroy_69 l_M_124 kv_M_toBeFreed (c_M_toBeFreed hwT) rfl (xle rfl) rfl rfl (xle rfl) (xle rfl) ?_
      refine XR.xreturn d_M_destroy_72 rfl ?_
      exact ⟨by rw [pre h13], by rw [pre h13]⟩
    | succ f ih =>
      intro i τ hi he hr
      have q1 : rTU τ x i = true → rDeF x (f + 1) i τ = rDeF x f (i + 1) (xu (xu τ 23 i 2) 24 i 0) := fun h => by simp only [rDeF, if_pos h]
      have q2 : ¬ rTU τ x i = true → rDeF x (f + 1) i τ = rDeF x f (i + 1) τ := fun h => by simp only [rDeF, if_neg h]
      have z1 : τ 20 i = 0 → ¬ rTU τ x i = true := fun h => by simp [rTU, h]
      have z2 : bz (rUn τ (nI i) x) = 0 → ¬ rTU τ x i = true := fun h => by rw [bz_z] at h; simp [rTU, h]
      have z3 : ¬ τ 20 i = 0 → ¬ bz (rUn τ (nI i) x) = 0 → rTU τ x i = true := fun h h2 => by rw [bz_z] at h2; simp [rTU, h]; simpa using h2
      refine XR.iload_n d_M_destroy_20 rfl ?_
      refine XR.bipush d_M_destroy_21 (v := 40) (by decide) ?_
      refine XR.icmp_ge d_M_destroy_23 (tgt := 64) (by decide) (fun h => absurd h (nn_le (n := 40) (by omega) (by decide))) (fun _ => ?_)
      refine XR.aload_n d_M_destroy_26 rfl ?_
      refine XR.getref d_M_destroy_27 (xle rfl) rfl rfl uin_M (fk := 8) (xle rfl) f_M_25 rfl (xle rfl) ?_
      refine XR.iload_n d_M_destroy_30 rfl ?_
      refine XR.baloadN d_M_destroy_31 (xle rfl) (fun _ => rfl) (by omega) (xle rfl) ?_
      refine XR.if_eq d_M_destroy_32 (tgt := 58) (by decide) (fun h32 => ?_) (fun h32 => ?_)
      · refine XR.iincN d_M_destroy_58 rfl (xle rfl) rfl ?_
        refine XR.goto d_M_destroy_61 (tgt := 20) (by decide) ?_
        first | exact ih (i + 1) _ (by omega) (by rw [← he, q2 (z1 h32)]) hr | exact ih (i + 1) _ (by omega) (by rw [← he, q2 (z2 h41)]) hr | exact ih (i + 1) _ (by omega) (by rw [← he, q1 (z3 h32 h41)]) (hr.of rfl rfl)
      refine XR.aload_n d_M_destroy_35 rfl ?_
      refine XR.iload_n d_M_destroy_36 rfl ?_
      refine XR.iload_n d_M_destroy_37 rfl ?_
      refine XR.cV (as := [_, _]) d_M_destroy_38 l_M_52 kv_M_isUnder (c_M_isUnder (hr i (by omega) h32)) rfl (xle rfl) rfl rfl (xle rfl) (xle rfl) ?_
      refine XR.if_eq d_M_destroy_41 (tgt := 58) (by decide) (fun h41 => ?_) (fun h41 => ?_)
      · refine XR.iincN d_M_destroy_58 rfl (xle rfl) rfl ?_
        refine XR.goto d_M_destroy_61 (tgt := 20) (by decide) ?_
        first | exact ih (i + 1) _ (by omega) (by rw [← he, q2 (z1 h32)]) hr | exact ih (i + 1) _ (by omega) (by rw [← he, q2 (z2 h41)]) hr | exact ih (i + 1) _ (by omega) (by rw [← he, q1 (z3 h32 h41)]) (hr.of rfl rfl)
      refine XR.aload_n d_M_destroy_44 rfl ?_
      refine XR.getref d_M_destroy_45 (xle rfl) rfl rfl uin_M (fk := 11) (xle rfl) f_M_35 rfl (xle rfl) ?_
      refine XR.iload_n d_M_destroy_48 rfl ?_
      refine XR.iconst d_M_destroy_49 (v := 2) (by decide) ?_
      refine XR.iastoreN d_M_destroy_50 (xle rfl) (fun _ => rfl) (by omega) (xle rfl) ?_
      refine XR.aload_n d_M_destroy_51 rfl ?_
      refine XR.getref d_M_destroy_52 (xle rfl) rfl rfl uin_M (fk := 12) (xle rfl) f_M_38 rfl (xle rfl) ?_
      refine XR.iload_n d_M_destroy_55 rfl ?_
      refine XR.iconst d_M_destroy_56 (v := 0) (by decide) ?_
      refine XR.iastoreN d_M_destroy_57 (xle rfl) (fun _ => rfl) (by omega) (xle rfl) ?_
      refine XR.iincN d_M_destroy_58 rfl (xle rfl) rfl ?_
      refine XR.goto d_M_destroy_61 (tgt := 20) (by decide) ?_
      first | exact ih (i + 1) _ (by omega) (by rw [← he, q2 (z1 h32)]) hr | exact ih (i + 1) _ (by omega) (by rw [← he, q2 (z2 h41)]) hr | exact ih (i + 1) _ (by omega) (by rw [← he, q1 (z3 h32 h41)]) (hr.of rfl rfl)
  refine XR.aload_n d_M_destroy_0 rfl ?_
  refine XR.aload_n d_M_destroy_1 rfl ?_
  refine XR.iload_n d_M_destroy_2 rfl ?_
  refine XR.cV (as := [_]) d_M_destroy_3 l_M_112 kv_M_wrong (c_M_wrong) rfl (xle rfl) rfl rfl (xle rfl) (xle rfl) ?_
  refine XR.putfield d_M_destroy_6 (xle rfl) (fun _ => rfl) rfl uin_M tyM_ok nmM (fk := 0) (xle rfl) f_M_45 rfl rfl (fun _ => rfl) (fun _ => xle rfl) ?_
  refine XR.aload_n d_M_destroy_9 rfl ?_
  refine XR.getint d_M_destroy_10 (xle rfl) rfl rfl uin_M (fk := 0) (xle rfl) f_M_45 rfl ?_
  refine XR.if_le d_M_destroy_13 (tgt := 18) (by decide) (fun h13 => ?_) (fun h13 => ?_)
  · refine XR.iconst d_M_destroy_18 (v := nI 0) (by decide) ?_
    refine XR.istore_n d_M_destroy_19 (xle rfl) rfl ?_
    exact loop h13 40 0 _ rfl hT.symm (hr.of rfl rfl)
  refine XR.iconst d_M_destroy_16 (v := 0) (by decide) ?_
  refine XR.xreturn d_M_destroy_17 rfl ?_
  exact ⟨by rw [rDestroy, if_neg h13] <;> rfl, by rw [rDestroy, if_neg h13] <;> rfl⟩
theorem c_M_work (hw : rvOK σ) : XC E i_M_work 4 0 0 [.ref (xB E + 14), .int x] (xm σ) (xrn (rWork σ x)) := by
  refine XC.ofF (by decide +kernel) cd_M_work rfl (xle rfl) ?_
  obtain ⟨T, hT⟩ : ∃ T, T = rWoF 192 0 x (xu σ 14 0 0) := ⟨_, rfl⟩
  have pre : ¬ bz (rIn x 0 192) = 0 → rWork σ x = (nI (xcn (rTbf (rClear T)) 192), rClear T) := fun h => by rw [rWork, if_neg h, hT]
  have fin : ¬ bz (rIn x 0 192) = 0 → ∀ (τ : xS) (l : Int32) (i : Nat), τ = T → rvOK τ → XR E i_M_work 4 0 0 (xrn (rWork σ x)) 68 [.ref (xB E + 14), .int x, .int l, .int (nI i)] [] (xm τ) := by
    intro hb τ l i he hw
    have hw2 : rvOK (rClear τ) := hw.of (by rw [rClear_other (by decide)])
    subst he
    refine XR.aload_n d_M_work_68 rfl ?_
    refine XR.cV (as := []) d_M_work_69 l_M_121 kv_M_clear (c_M_clear) rfl (xle rfl) rfl rfl (xle rfl) (xle rfl) ?_
    refine XR.aload_n d_M_work_72 rfl ?_
    refine XR.cV (as := []) d_M_work_73 l_M_124 kv_M_toBeFreed (c_M_toBeFreed hw2) rfl (xle rfl) rfl rfl (xle rfl) (xle rfl) ?_
    refine XR.xreturn d_M_work_76 rfl ?_
    exact ⟨by rw [pre hb], by rw [pre hb]⟩
  have loop : ¬ bz (rIn x 0 192) = 0 → ∀ (f i : Nat) (left : Int32) (τ : xS), i + f = 192 → rWoF f i left τ = T → rvOK τ → XR E i_M_work 4 0 0 (xrn (rWork σ x)) 33 [.ref (xB E + 14), .int x, .int left, .int (nI i)] [] (xm τ) := by
    intro hb f
    induction f with
    | zero =>
      intro i left τ hi he hw
      have : i = 192 := by omega
      subst this
      refine XR.iload_n d_M_work_33 rfl ?_
      refine XR.sipush d_M_work_34 (v := 192) (by decide) ?_
      refine XR.icmp_ge d_M_work_37 (tgt := 68) (by decide) (fun _ => ?_) (fun h => absurd (by decide) h)
      exact fin hb τ left 192 he hw
    | succ f ih =>
      intro i left τ hi he hw
      have ei : xn (nI i) = i := nI_clamp (by omega)
      have hi1 : vp_in (nI i) 192 := vp_in_nI (by omega) (by decide)
      have q1 : left ≤ 0 → rWoF (f + 1) i left τ = τ := fun a => by simp only [rWoF, if_pos a]
      have q2 : ¬ left ≤ 0 → rTbf τ i = true → rWoF (f + 1) i left τ = rWoF f (i + 1) (left - 1) (xu τ 15 i (-1)) := fun a b => by simp only [rWoF, if_neg a, if_pos b]
      have q3 : ¬ left ≤ 0 → ¬ rTbf τ i = true → rWoF (f + 1) i left τ = rWoF f (i + 1) left τ := fun a b => by simp only [rWoF, if_neg a, if_neg b]
      have z1 : bz (rTbf τ (xn (nI i))) = 0 → ¬ rTbf τ i = true := fun h => by rw [ei, bz_z] at h; simp [h]
      have z2 : ¬ bz (rTbf τ (xn (nI i))) = 0 → rTbf τ i = true := fun h => by rw [ei, bz_z] at h; simpa using h
      have hw2 : rvOK (xu τ 15 i (-1)) := fun p h h0 => by
        rw [xu_at] at h0 ⊢
        split at h0
        · exact absurd (by decide) h0
        · next e => rw [if_neg e]; exact hw p h h0
      refine XR.iload_n d_M_work_33 rfl ?_
      refine XR.sipush d_M_work_34 (v := 192) (by decide) ?_
      refine XR.icmp_ge d_M_work_37 (tgt := 68) (by decide) (fun h => absurd h (nn_le (n := 192) (by omega) (by decide))) (fun _ => ?_)
      refine XR.iload_n d_M_work_40 rfl ?_
      refine XR.if_le d_M_work_41 (tgt := 68) (by decide) (fun h41 => ?_) (fun h41 => ?_)
      · exact fin hb τ left i (by rw [← he, q1 h41]) hw
      refine XR.aload_n d_M_work_44 rfl ?_
      refine XR.iload_n d_M_work_45 rfl ?_
      refine XR.cV (as := [_]) d_M_work_46 l_M_118 kv_M_isToBeFreed (c_M_isToBeFreed hw hi1) rfl (xle rfl) rfl rfl (xle rfl) (xle rfl) ?_
      refine XR.if_eq d_M_work_49 (tgt := 62) (by decide) (fun h49 => ?_) (fun h49 => ?_)
      · refine XR.iincN d_M_work_62 rfl (xle rfl) rfl ?_
        refine XR.goto d_M_work_65 (tgt := 33) (by decide) ?_
        first | exact ih (i + 1) _ _ (by omega) (by rw [← he, q3 h41 (z1 h49)]) hw | exact ih (i + 1) _ _ (by omega) (by rw [← he, q2 h41 (z2 h49)]) hw2
      refine XR.aload_n d_M_work_52 rfl ?_
      refine XR.getref d_M_work_53 (xle rfl) rfl rfl uin_M (fk := 1) (xle rfl) f_M_7 rfl (xle rfl) ?_
      refine XR.iload_n d_M_work_56 rfl ?_
      refine XR.iconst d_M_work_57 (v := -1) (by decide) ?_
      refine XR.iastoreN d_M_work_58 (xle rfl) (fun _ => rfl) (by omega) (xle rfl) ?_
      refine XR.iincm d_M_work_59 rfl (xle rfl) rfl ?_
      refine XR.iincN d_M_work_62 rfl (xle rfl) rfl ?_
      refine XR.goto d_M_work_65 (tgt := 33) (by decide) ?_
      first | exact ih (i + 1) _ _ (by omega) (by rw [← he, q3 h41 (z1 h49)]) hw | exact ih (i + 1) _ _ (by omega) (by rw [← he, q2 h41 (z2 h49)]) hw2
  refine XR.aload_n d_M_work_0 rfl ?_
  refine XR.iload_n d_M_work_1 rfl ?_
  refine XR.iconst d_M_work_2 (v := 0) (by decide) ?_
  refine XR.sipush d_M_work_3 (v := 192) (by decide) ?_
  refine XR.cS (as := [_, _, _]) d_M_work_6 l_M_48 ks_M_in (c_M_in) rfl (xle rfl) (xle rfl) ?_
  refine XR.if_eq d_M_work_9 (tgt := 16) (by decide) (fun h9 => ?_) (fun h9 => ?_)
  · refine XR.iconst d_M_work_16 (v := 1) (by decide) ?_
    refine XR.putfield d_M_work_17 (xle rfl) (fun _ => rfl) rfl uin_M tyM_ok nmM (fk := 0) (xle rfl) f_M_45 rfl rfl (fun _ => rfl) (fun _ => xle rfl) ?_
    refine XR.aload_n d_M_work_20 rfl ?_
    refine XR.getint d_M_work_21 (xle rfl) rfl rfl uin_M (fk := 0) (xle rfl) f_M_45 rfl ?_
    refine XR.if_le d_M_work_24 (tgt := 29) (by decide) (fun h => absurd h (show ¬ (1 : Int32) ≤ 0 by decide)) (fun _ => ?_)
    refine XR.iconst d_M_work_27 (v := 0) (by decide) ?_
    refine XR.xreturn d_M_work_28 rfl ?_
    exact ⟨by rw [rWork, if_pos h9] <;> rfl, by rw [rWork, if_pos h9] <;> rfl⟩
  refine XR.iconst d_M_work_12 (v := 0) (by decide) ?_
  refine XR.goto d_M_work_13 (tgt := 17) (by decide) ?_
  refine XR.putfield d_M_work_17 (xle rfl) (fun _ => rfl) rfl uin_M tyM_ok nmM (fk := 0) (xle rfl) f_M_45 rfl rfl (fun _ => rfl) (fun _ => xle rfl) ?_
  refine XR.aload_n d_M_work_20 rfl ?_
  refine XR.getint d_M_work_21 (xle rfl) rfl rfl uin_M (fk := 0) (xle rfl) f_M_45 rfl ?_
  refine XR.if_le d_M_work_24 (tgt := 29) (by decide) (fun _ => ?_) (fun h => absurd (show (0 : Int32) ≤ 0 by decide) h)
  refine XR.iload_n d_M_work_29 rfl ?_
  refine XR.istore_n d_M_work_30 (xle rfl) rfl ?_
  refine XR.iconst d_M_work_31 (v := nI 0) (by decide) ?_
  refine XR.istore_n d_M_work_32 (xle rfl) rfl ?_
  exact loop h9 192 0 x _ rfl hT.symm (hw.of rfl)
end XModel4
