/-! the reference: small methods and walks -/
def rIn (x lo hi : Int32) : Bool := !decide (x < lo) && !decide (hi < x)
def rBk (σ : xS) (x : Int32) : Bool := rIn x 0 39 && !(σ 20 (xn x) == 0)
def rFr (σ : xS) (p : Nat) : Bool := !decide (0 ≤ σ 15 p) && !decide (7 ≤ σ 16 p)
abbrev rPl (k : Int32) : Int32 := k >>> (1 &&& 31) &&& 511
def rWk (k : Int32) : Bool := k &&& 1 == 1
def rLv (σ : xS) (k : Int32) : Bool := !decide (k ≤ 0) && !decide (192 ≤ rPl k) && !decide (σ 15 (xn (rPl k)) < 0) && (σ 16 (xn (rPl k)) == k >>> (10 &&& 31)) && !(σ 23 (xn (σ 15 (xn (rPl k)))) == 2)
def rGive (σ : xS) (x b : Int32) : xS := xu (xu (xu σ 15 (xn x) b) 18 (xn x) (σ 14 7)) 14 7 (σ 14 7 + 1)
/-- the walk up from a ends within f steps -/
def rCh (σ : xS) : Nat → Int32 → Prop
  | 0, a => a < 0
  | f + 1, a => a < 0 ∨ (vp_in a 40 ∧ rCh σ f (σ 21 (xn a)))
def rUpF (σ : xS) (top : Int32) : Nat → Int32 → Int32
  | 0, a => a
  | f + 1, a => if a < 0 then a else if a = top then a else rUpF σ top f (σ 21 (xn a))
def rUn (σ : xS) (x top : Int32) : Bool := rUpF σ top 7 x == top
def rDepF (σ : xS) : Nat → Int32 → Nat → Nat
  | 0, _, k => k
  | f + 1, a, k => if a < 0 then k else rDepF σ f (σ 21 (xn a)) (k + 1)
def rDep (σ : xS) (x : Int32) : Nat := rDepF σ 7 (σ 21 (xn x)) 0
def rOwn (σ : xS) (b : Int32) : Nat := xcn (fun p => σ 15 p == b) 192
def rTU (σ : xS) (top : Int32) (i : Nat) : Bool := !(σ 20 i == 0) && rUn σ (nI i) top
def rUseF (σ : xS) (top : Int32) : Nat → Nat → Int32 → Int32
  | 0, _, s => s
  | f + 1, i, s => rUseF σ top f (i + 1) (s + (if rTU σ top i then nI (rOwn σ (nI i)) + σ 24 i else 0))
def rUse (σ : xS) (top : Int32) : Int32 := rUseF σ top 40 0 0
def rRfF (σ : xS) (n : Int32) : Nat → Int32 → Int32
  | 0, _ => -1
  | f + 1, a => if a < 0 then -1 else if rUse σ a + n ≤ σ 22 (xn a) then rRfF σ n f (σ 21 (xn a)) else a
def rRf (σ : xS) (x n : Int32) : Int32 := rRfF σ n 7 x
/-- every bank's walk ends -/
def rOK (σ : xS) : Prop := ∀ b, b < 40 → ¬ σ 20 b = 0 → rCh σ 7 (nI b)
def rvOK (σ : xS) : Prop := ∀ p, p < 192 → ¬ σ 15 p < 0 → vp_in (σ 15 p) 40
def rTbf (σ : xS) (p : Nat) : Bool := !decide (σ 15 p < 0) && (σ 23 (xn (σ 15 p)) == 2)
def rWr (σ : xS) (x : Int32) : Int32 := if bz (rBk σ x) = 0 then 1 else if x = 0 then 2 else if σ 23 (xn x) = 2 then 3 else 0
theorem rIn_in {x : Int32} (h : ¬ bz (rIn x 0 39) = 0) : vp_in x 40 := by
  have h0 : (0 : Int32).toInt = 0 := by decide
  have h39 : (39 : Int32).toInt = 39 := by decide
  rw [bz_z] at h
  simp only [rIn, Bool.not_eq_false, Bool.and_eq_true, Bool.not_eq_true', decide_eq_false_iff_not, Int32.lt_iff_toInt_lt, h0, h39] at h
  rw [vp_in_iff]
  omega
theorem rBk_in {σ : xS} {x : Int32} (h : ¬ bz (rBk σ x) = 0) : vp_in x 40 := by
  rw [bz_z] at h
  simp only [rBk, Bool.not_eq_false, Bool.and_eq_true] at h
  exact rIn_in (by rw [bz_z]; simp [h.1])
theorem rCh_mono {σ : xS} : ∀ {f : Nat} {a : Int32}, rCh σ f a → ¬ a < 0 → vp_in a 40
  | 0, _, h, hn => absurd h hn
  | _ + 1, _, h, hn => (h.resolve_left hn).1
section XModel1
variable {E : xE} {σ : xS} {x y z n top : Int32}
theorem c_M_thrown : XC E i_M_thrown 1 0 0 [.ref (xB E + 14)] (xm σ) (xok (some (.int (σ 14 0))) (xm σ)) := by
  refine XC.ofF (by decide +kernel) cd_M_thrown rfl (xle rfl) ?_
  refine XR.aload_n d_M_thrown_0 rfl ?_
  refine XR.getint d_M_thrown_1 (xle rfl) rfl rfl uin_M (fk := 0) (xle rfl) f_M_45 rfl ?_
  refine XR.xreturn d_M_thrown_4 rfl ?_
  exact ⟨rfl, rfl⟩
theorem c_M_in : XC E i_M_in 1 0 0 [.int x, .int y, .int z] (xm σ) (xok (some (.int (bz (rIn x y z)))) (xm σ)) := by
  refine XC.ofF (by decide +kernel) cd_M_in rfl (xle rfl) ?_
  refine XR.iload_n d_M_in_0 rfl ?_
  refine XR.iload_n d_M_in_1 rfl ?_
  refine XR.icmp_lt d_M_in_2 (tgt := 14) (by decide) (fun h2 => ?_) (fun h2 => ?_)
  · refine XR.iconst d_M_in_14 (v := 0) (by decide) ?_
    refine XR.zret0 d_M_in_15 rfl ?_
    exact xok_0 (by simp_all [rIn])
  refine XR.iload_n d_M_in_5 rfl ?_
  refine XR.iload_n d_M_in_6 rfl ?_
  refine XR.icmp_gt d_M_in_7 (tgt := 14) (by decide) (fun h7 => ?_) (fun h7 => ?_)
  · refine XR.iconst d_M_in_14 (v := 0) (by decide) ?_
    refine XR.zret0 d_M_in_15 rfl ?_
    exact xok_0 (by simp_all [rIn])
  refine XR.iconst d_M_in_10 (v := 1) (by decide) ?_
  refine XR.goto d_M_in_11 (tgt := 15) (by decide) ?_
  refine XR.zret1 d_M_in_15 rfl ?_
  exact xok_1 (by simp_all [rIn])
theorem c_M_isBank : XC E i_M_isBank 2 0 0 [.ref (xB E + 14), .int x] (xm σ) (xok (some (.int (bz (rBk σ x)))) (xm σ)) := by
  refine XC.ofF (by decide +kernel) cd_M_isBank rfl (xle rfl) ?_
  refine XR.iload_n d_M_isBank_0 rfl ?_
  refine XR.iconst d_M_isBank_1 (v := 0) (by decide) ?_
  refine XR.bipush d_M_isBank_2 (v := 39) (by decide) ?_
  refine XR.cS (as := [_, _, _]) d_M_isBank_4 l_M_48 ks_M_in (c_M_in) rfl (xle rfl) (xle rfl) ?_
  refine XR.if_eq d_M_isBank_7 (tgt := 23) (by decide) (fun h7 => ?_) (fun h7 => ?_)
  · refine XR.iconst d_M_isBank_23 (v := 0) (by decide) ?_
    refine XR.zret0 d_M_isBank_24 rfl ?_
    exact xok_0 (by simp_all [rBk, bz_z])
  refine XR.aload_n d_M_isBank_10 rfl ?_
  refine XR.getref d_M_isBank_11 (xle rfl) rfl rfl uin_M (fk := 8) (xle rfl) f_M_25 rfl (xle rfl) ?_
  refine XR.iload_n d_M_isBank_14 rfl ?_
  refine XR.baload d_M_isBank_15 (xle rfl) (fun _ => rfl) (rIn_in h7) ?_
  refine XR.if_eq d_M_isBank_16 (tgt := 23) (by decide) (fun h16 => ?_) (fun h16 => ?_)
  · refine XR.iconst d_M_isBank_23 (v := 0) (by decide) ?_
    refine XR.zret0 d_M_isBank_24 rfl ?_
    exact xok_0 (by simp_all [rBk, bz_z])
  refine XR.iconst d_M_isBank_19 (v := 1) (by decide) ?_
  refine XR.goto d_M_isBank_20 (tgt := 24) (by decide) ?_
  refine XR.zret1 d_M_isBank_24 rfl ?_
  exact xok_1 (by simp_all [rBk, bz_z])
theorem c_M_isOpen (hx : vp_in x 40) : XC E i_M_isOpen 1 0 0 [.ref (xB E + 14), .int x] (xm σ) (xok (some (.int (bz (σ 23 (xn x) == 0)))) (xm σ)) := by
  refine XC.ofF (by decide +kernel) cd_M_isOpen rfl (xle rfl) ?_
  refine XR.aload_n d_M_isOpen_0 rfl ?_
  refine XR.getref d_M_isOpen_1 (xle rfl) rfl rfl uin_M (fk := 11) (xle rfl) f_M_35 rfl (xle rfl) ?_
  refine XR.iload_n d_M_isOpen_4 rfl ?_
  refine XR.iaload d_M_isOpen_5 (xle rfl) (fun _ => rfl) hx ?_
  refine XR.if_ne d_M_isOpen_6 (tgt := 13) (by decide) (fun h6 => ?_) (fun h6 => ?_)
  · refine XR.iconst d_M_isOpen_13 (v := 0) (by decide) ?_
    refine XR.zret0 d_M_isOpen_14 rfl ?_
    exact xok_0 (by simp_all [bz_z])
  refine XR.iconst d_M_isOpen_9 (v := 1) (by decide) ?_
  refine XR.goto d_M_isOpen_10 (tgt := 14) (by decide) ?_
  refine XR.zret1 d_M_isOpen_14 rfl ?_
  exact xok_1 (by simp_all [bz_z])
theorem c_M_isFree (hx : vp_in x 192) : XC E i_M_isFree 1 0 0 [.ref (xB E + 14), .int x] (xm σ) (xok (some (.int (bz (rFr σ (xn x))))) (xm σ)) := by
  refine XC.ofF (by decide +kernel) cd_M_isFree rfl (xle rfl) ?_
  refine XR.aload_n d_M_isFree_0 rfl ?_
  refine XR.getref d_M_isFree_1 (xle rfl) rfl rfl uin_M (fk := 1) (xle rfl) f_M_7 rfl (xle rfl) ?_
  refine XR.iload_n d_M_isFree_4 rfl ?_
  refine XR.iaload d_M_isFree_5 (xle rfl) (fun _ => rfl) hx ?_
  refine XR.if_ge d_M_isFree_6 (tgt := 24) (by decide) (fun h6 => ?_) (fun h6 => ?_)
  · refine XR.iconst d_M_isFree_24 (v := 0) (by decide) ?_
    refine XR.zret0 d_M_isFree_25 rfl ?_
    exact xok_0 (by simp_all [rFr])
  refine XR.aload_n d_M_isFree_9 rfl ?_
  refine XR.getref d_M_isFree_10 (xle rfl) rfl rfl uin_M (fk := 2) (xle rfl) f_M_13 rfl (xle rfl) ?_
  refine XR.iload_n d_M_isFree_13 rfl ?_
  refine XR.iaload d_M_isFree_14 (xle rfl) (fun _ => rfl) hx ?_
  refine XR.bipush d_M_isFree_15 (v := 7) (by decide) ?_
  refine XR.icmp_ge d_M_isFree_17 (tgt := 24) (by decide) (fun h17 => ?_) (fun h17 => ?_)
  · refine XR.iconst d_M_isFree_24 (v := 0) (by decide) ?_
    refine XR.zret0 d_M_isFree_25 rfl ?_
    exact xok_0 (by simp_all [rFr])
  refine XR.iconst d_M_isFree_20 (v := 1) (by decide) ?_
  refine XR.goto d_M_isFree_21 (tgt := 25) (by decide) ?_
  refine XR.zret1 d_M_isFree_25 rfl ?_
  exact xok_1 (by simp_all [rFr])
theorem c_M_own (hx : vp_in x 192) : XC E i_M_own 1 0 0 [.ref (xB E + 14), .int x, .int y] (xm σ) (xok none (xm (rGive σ x y))) := by
  refine XC.ofF (by decide +kernel) cd_M_own rfl (xle rfl) ?_
  refine XR.aload_n d_M_own_0 rfl ?_
  refine XR.getref d_M_own_1 (xle rfl) rfl rfl uin_M (fk := 1) (xle rfl) f_M_7 rfl (xle rfl) ?_
  refine XR.iload_n d_M_own_4 rfl ?_
  refine XR.iload_n d_M_own_5 rfl ?_
  refine XR.iastore d_M_own_6 (xle rfl) (fun _ => rfl) hx ?_
  refine XR.aload_n d_M_own_7 rfl ?_
  refine XR.getref d_M_own_8 (xle rfl) rfl rfl uin_M (fk := 4) (xle rfl) f_M_19 rfl (xle rfl) ?_
  refine XR.iload_n d_M_own_11 rfl ?_
  refine XR.aload_n d_M_own_12 rfl ?_
  refine XR.getint d_M_own_13 (xle rfl) rfl rfl uin_M (fk := 7) (xle rfl) f_M_80 rfl ?_
  refine XR.iastore d_M_own_16 (xle rfl) (fun _ => rfl) hx ?_
  refine XR.aload_n d_M_own_17 rfl ?_
  refine XR.dup d_M_own_18 rfl ?_
  refine XR.getint d_M_own_19 (xle rfl) rfl rfl uin_M (fk := 7) (xle rfl) f_M_80 rfl ?_
  refine XR.iconst d_M_own_22 (v := 1) (by decide) ?_
  refine XR.iadd d_M_own_23 ?_
  refine XR.putfield d_M_own_24 (xle rfl) (fun _ => rfl) rfl uin_M tyM_ok nmM (fk := 7) (xle rfl) f_M_80 rfl rfl (fun _ => rfl) (fun _ => xle rfl) ?_
  refine XR.return_ d_M_own_27 rfl ?_
  exact ⟨rfl, rfl⟩
theorem c_M_keyOf : XC E i_M_keyOf 1 0 0 [.int x, .int y] (xm σ) (xok (some (.int (1024 * x + 2 * y))) (xm σ)) := by
  refine XC.ofF (by decide +kernel) cd_M_keyOf rfl (xle rfl) ?_
  refine XR.sipush d_M_keyOf_0 (v := 1024) (by decide) ?_
  refine XR.iload_n d_M_keyOf_3 rfl ?_
  refine XR.imul d_M_keyOf_4 ?_
  refine XR.iconst d_M_keyOf_5 (v := 2) (by decide) ?_
  refine XR.iload_n d_M_keyOf_6 rfl ?_
  refine XR.imul d_M_keyOf_7 ?_
  refine XR.iadd d_M_keyOf_8 ?_
  refine XR.xreturn d_M_keyOf_9 rfl ?_
  exact ⟨rfl, rfl⟩
theorem c_M_placeOf : XC E i_M_placeOf 1 0 0 [.int x] (xm σ) (xok (some (.int (rPl x))) (xm σ)) := by
  refine XC.ofF (by decide +kernel) cd_M_placeOf rfl (xle rfl) ?_
  refine XR.iload_n d_M_placeOf_0 rfl ?_
  refine XR.iconst d_M_placeOf_1 (v := 1) (by decide) ?_
  refine XR.ishr d_M_placeOf_2 ?_
  refine XR.sipush d_M_placeOf_3 (v := 511) (by decide) ?_
  refine XR.iand d_M_placeOf_6 ?_
  refine XR.xreturn d_M_placeOf_7 rfl ?_
  exact ⟨rfl, rfl⟩
theorem c_M_isWeak : XC E i_M_isWeak 1 0 0 [.int x] (xm σ) (xok (some (.int (bz (rWk x)))) (xm σ)) := by
  refine XC.ofF (by decide +kernel) cd_M_isWeak rfl (xle rfl) ?_
  refine XR.iload_n d_M_isWeak_0 rfl ?_
  refine XR.iconst d_M_isWeak_1 (v := 1) (by decide) ?_
  refine XR.iand d_M_isWeak_2 ?_
  refine XR.iconst d_M_isWeak_3 (v := 1) (by decide) ?_
  refine XR.icmp_ne d_M_isWeak_4 (tgt := 11) (by decide) (fun h4 => ?_) (fun h4 => ?_)
  · refine XR.iconst d_M_isWeak_11 (v := 0) (by decide) ?_
    refine XR.zret0 d_M_isWeak_12 rfl ?_
    exact xok_0 (by simp_all [rWk])
  refine XR.iconst d_M_isWeak_7 (v := 1) (by decide) ?_
  refine XR.goto d_M_isWeak_8 (tgt := 12) (by decide) ?_
  refine XR.zret1 d_M_isWeak_12 rfl ?_
  exact xok_1 (by simp_all [rWk])
theorem c_M_unsupported : XC E i_M_unsupported 1 0 0 [.ref (xB E + 14), .int x, .int y] (xm σ) (xok (some (.int x)) (xm (xu σ 14 13 y))) := by
  refine XC.ofF (by decide +kernel) cd_M_unsupported rfl (xle rfl) ?_
  refine XR.aload_n d_M_unsupported_0 rfl ?_
  refine XR.iload_n d_M_unsupported_1 rfl ?_
  refine XR.putfield d_M_unsupported_2 (xle rfl) (fun _ => rfl) rfl uin_M tyM_ok nmM (fk := 13) (xle rfl) f_M_41 rfl rfl (fun _ => rfl) (fun _ => xle rfl) ?_
  refine XR.iload_n d_M_unsupported_5 rfl ?_
  refine XR.xreturn d_M_unsupported_6 rfl ?_
  exact ⟨rfl, rfl⟩
theorem rPl_nn (k : Int32) : ¬ rPl k < 0 := by
  obtain ⟨j, hj, e⟩ := pk_andE (k >>> (1 &&& 31)) (m := 511) 9 (by decide)
  show ¬ (k >>> (1 &&& 31) &&& 511) < 0
  rw [e]
  exact nI_pos (by omega)
theorem c_M_lives (hw : rvOK σ) : XC E i_M_lives 2 0 0 [.ref (xB E + 14), .int x] (xm σ) (xok (some (.int (bz (rLv σ x)))) (xm σ)) := by
  refine XC.ofF (by decide +kernel) cd_M_lives rfl (xle rfl) ?_
  have q : ¬ 192 ≤ rPl x → vp_in (rPl x) 192 := fun h => vp_in_lt (rPl_nn x) h (by decide)
  refine XR.iload_n d_M_lives_0 rfl ?_
  refine XR.cS (as := [_]) d_M_lives_1 l_M_103 ks_M_placeOf (c_M_placeOf) rfl (xle rfl) (xle rfl) ?_
  refine XR.istore_n d_M_lives_4 (xle rfl) rfl ?_
  refine XR.iload_n d_M_lives_5 rfl ?_
  refine XR.if_le d_M_lives_6 (tgt := 57) (by decide) (fun h6 => ?_) (fun h6 => ?_)
  · refine XR.iconst d_M_lives_57 (v := 0) (by decide) ?_
    refine XR.zret0 d_M_lives_58 rfl ?_
    exact xok_0 (by simp_all [rLv])
  refine XR.iload_n d_M_lives_9 rfl ?_
  refine XR.sipush d_M_lives_10 (v := 192) (by decide) ?_
  refine XR.icmp_ge d_M_lives_13 (tgt := 57) (by decide) (fun h13 => ?_) (fun h13 => ?_)
  · refine XR.iconst d_M_lives_57 (v := 0) (by decide) ?_
    refine XR.zret0 d_M_lives_58 rfl ?_
    exact xok_0 (by simp_all [rLv])
  refine XR.aload_n d_M_lives_16 rfl ?_
  refine XR.getref d_M_lives_17 (xle rfl) rfl rfl uin_M (fk := 1) (xle rfl) f_M_7 rfl (xle rfl) ?_
  refine XR.iload_n d_M_lives_20 rfl ?_
  refine XR.iaload d_M_lives_21 (xle rfl) (fun _ => rfl) (q h13) ?_
  refine XR.if_lt d_M_lives_22 (tgt := 57) (by decide) (fun h22 => ?_) (fun h22 => ?_)
  · refine XR.iconst d_M_lives_57 (v := 0) (by decide) ?_
    refine XR.zret0 d_M_lives_58 rfl ?_
    exact xok_0 (by simp_all [rLv])
  refine XR.aload_n d_M_lives_25 rfl ?_
  refine XR.getref d_M_lives_26 (xle rfl) rfl rfl uin_M (fk := 2) (xle rfl) f_M_13 rfl (xle rfl) ?_
  refine XR.iload_n d_M_lives_29 rfl ?_
  refine XR.iaload d_M_lives_30 (xle rfl) (fun _ => rfl) (q h13) ?_
  refine XR.iload_n d_M_lives_31 rfl ?_
  refine XR.bipush d_M_lives_32 (v := 10) (by decide) ?_
  refine XR.ishr d_M_lives_34 ?_
  refine XR.icmp_ne d_M_lives_35 (tgt := 57) (by decide) (fun h35 => ?_) (fun h35 => ?_)
  · refine XR.iconst d_M_lives_57 (v := 0) (by decide) ?_
    refine XR.zret0 d_M_lives_58 rfl ?_
    exact xok_0 (by simp_all [rLv])
  refine XR.aload_n d_M_lives_38 rfl ?_
  refine XR.getref d_M_lives_39 (xle rfl) rfl rfl uin_M (fk := 11) (xle rfl) f_M_35 rfl (xle rfl) ?_
  refine XR.aload_n d_M_lives_42 rfl ?_
  refine XR.getref d_M_lives_43 (xle rfl) rfl rfl uin_M (fk := 1) (xle rfl) f_M_7 rfl (xle rfl) ?_
  refine XR.iload_n d_M_lives_46 rfl ?_
  refine XR.iaload d_M_lives_47 (xle rfl) (fun _ => rfl) (q h13) ?_
  refine XR.iaload d_M_lives_48 (xle rfl) (fun _ => rfl) (hw _ (vp_in_xn (q h13)) h22) ?_
  refine XR.iconst d_M_lives_49 (v := 2) (by decide) ?_
  refine XR.icmp_eq d_M_lives_50 (tgt := 57) (by decide) (fun h50 => ?_) (fun h50 => ?_)
  · refine XR.iconst d_M_lives_57 (v := 0) (by decide) ?_
    refine XR.zret0 d_M_lives_58 rfl ?_
    exact xok_0 (by simp_all [rLv])
  refine XR.iconst d_M_lives_53 (v := 1) (by decide) ?_
  refine XR.goto d_M_lives_54 (tgt := 58) (by decide) ?_
  refine XR.zret1 d_M_lives_58 rfl ?_
  exact xok_1 (by simp_all [rLv])
theorem c_M_owned : XC E i_M_owned 1 0 0 [.ref (xB E + 14), .int x] (xm σ) (xok (some (.int (nI (rOwn σ x)))) (xm σ)) := by
  refine XC.ofF (by decide +kernel) cd_M_owned rfl (xle rfl) ?_
  have loop : ∀ (f i k : Nat), i + f = 192 → k = xcn (fun p => σ 15 p == x) i → XR E i_M_owned 1 0 0 (xok (some (.int (nI (rOwn σ x)))) (xm σ)) 4 [.ref (xB E + 14), .int x, .int (nI k), .int (nI i)] [] (xm σ) := by
    intro f
    induction f with
    | zero =>
      intro i k hi hk
      have : i = 192 := by omega
      subst this; subst hk
      refine XR.iload_n d_M_owned_4 rfl ?_
      refine XR.sipush d_M_owned_5 (v := 192) (by decide) ?_
      refine XR.icmp_ge d_M_owned_8 (tgt := 35) (by decide) (fun _ => ?_) (fun h => absurd (by decide) h)
      refine XR.iload_n d_M_owned_35 rfl ?_
      refine XR.xreturn d_M_owned_36 rfl ?_
      exact ⟨rfl, rfl⟩
    | succ f ih =>
      intro i k hi hk
      refine XR.iload_n d_M_owned_4 rfl ?_
      refine XR.sipush d_M_owned_5 (v := 192) (by decide) ?_
      refine XR.icmp_ge d_M_owned_8 (tgt := 35) (by decide) (fun h => absurd h (nn_le (n := 192) (by omega) (by decide))) (fun _ => ?_)
      refine XR.iload_n d_M_owned_11 rfl ?_
      refine XR.aload_n d_M_owned_12 rfl ?_
      refine XR.getref d_M_owned_13 (xle rfl) rfl rfl uin_M (fk := 1) (xle rfl) f_M_7 rfl (xle rfl) ?_
      refine XR.iload_n d_M_owned_16 rfl ?_
      refine XR.ialoadN d_M_owned_17 (xle rfl) (fun _ => rfl) (by omega) (xle rfl) ?_
      refine XR.iload_n d_M_owned_18 rfl ?_
      refine XR.icmp_ne d_M_owned_19 (tgt := 26) (by decide) (fun h19 => ?_) (fun h19 => ?_)
      · refine XR.iconst d_M_owned_26 (v := nI 0) (by decide) ?_
        refine XR.iadd d_M_owned_27 ?_
        rw [nI_add]
        refine XR.istore_n d_M_owned_28 (xle rfl) rfl ?_
        refine XR.iincN d_M_owned_29 rfl (xle rfl) rfl ?_
        refine XR.goto d_M_owned_32 (tgt := 4) (by decide) ?_
        exact ih (i + 1) _ (by omega) (by clear ih; simp_all [xcn])
      refine XR.iconst d_M_owned_22 (v := nI 1) (by decide) ?_
      refine XR.goto d_M_owned_23 (tgt := 27) (by decide) ?_
      refine XR.iadd d_M_owned_27 ?_
      rw [nI_add]
      refine XR.istore_n d_M_owned_28 (xle rfl) rfl ?_
      refine XR.iincN d_M_owned_29 rfl (xle rfl) rfl ?_
      refine XR.goto d_M_owned_32 (tgt := 4) (by decide) ?_
      exact ih (i + 1) _ (by omega) (by clear ih; simp_all [xcn])
  refine XR.iconst d_M_owned_0 (v := nI 0) (by decide) ?_
  refine XR.istore_n d_M_owned_1 (xle rfl) rfl ?_
  refine XR.iconst d_M_owned_2 (v := nI 0) (by decide) ?_
  refine XR.istore_n d_M_owned_3 (xle rfl) rfl ?_
  exact loop 192 0 0 rfl rfl
theorem c_M_isUnder (hx : rCh σ 7 x) : XC E i_M_isUnder 1 0 0 [.ref (xB E + 14), .int x, .int top] (xm σ) (xok (some (.int (bz (rUn σ x top)))) (xm σ)) := by
  refine XC.ofF (by decide +kernel) cd_M_isUnder rfl (xle rfl) ?_
  have fin : ∀ a : Int32, a = rUpF σ top 7 x → XR E i_M_isUnder 1 0 0 (xok (some (.int (bz (rUn σ x top)))) (xm σ)) 21 [.ref (xB E + 14), .int x, .int top, .int a] [] (xm σ) := by
    intro a ha
    refine XR.iload_n d_M_isUnder_21 rfl ?_
    refine XR.iload_n d_M_isUnder_22 rfl ?_
    refine XR.icmp_ne d_M_isUnder_23 (tgt := 30) (by decide) (fun h23 => ?_) (fun h23 => ?_)
    · refine XR.iconst d_M_isUnder_30 (v := 0) (by decide) ?_
      refine XR.zret0 d_M_isUnder_31 rfl ?_
      exact xok_0 (by rw [rUn, ← ha]; exact beq_eq_false_iff_ne.mpr h23)
    refine XR.iconst d_M_isUnder_26 (v := 1) (by decide) ?_
    refine XR.goto d_M_isUnder_27 (tgt := 31) (by decide) ?_
    refine XR.zret1 d_M_isUnder_31 rfl ?_
    exact xok_1 (by rw [rUn, ← ha]; exact beq_iff_eq.mpr h23)
  have loop : ∀ (f : Nat) (a : Int32), rCh σ f a → rUpF σ top f a = rUpF σ top 7 x → XR E i_M_isUnder 1 0 0 (xok (some (.int (bz (rUn σ x top)))) (xm σ)) 2 [.ref (xB E + 14), .int x, .int top, .int a] [] (xm σ) := by
    intro f
    induction f with
    | zero =>
      intro a hc he
      refine XR.iload_n d_M_isUnder_2 rfl ?_
      refine XR.if_lt d_M_isUnder_3 (tgt := 21) (by decide) (fun _ => ?_) (fun h => absurd hc h)
      exact fin a he
    | succ f ih =>
      intro a hc he
      have q1 : a < 0 → a = rUpF σ top (f + 1) a := fun h => by simp only [rUpF, if_pos h]
      have q2 : ¬ a < 0 → a = top → a = rUpF σ top (f + 1) a := fun h h2 => by simp only [rUpF, if_neg h, if_pos h2]
      have q3 : ¬ a < 0 → ¬ a = top → rUpF σ top (f + 1) a = rUpF σ top f (σ 21 (xn a)) := fun h h2 => by simp only [rUpF, if_neg h, if_neg h2]
      refine XR.iload_n d_M_isUnder_2 rfl ?_
      refine XR.if_lt d_M_isUnder_3 (tgt := 21) (by decide) (fun h3 => ?_) (fun h3 => ?_)
      · first | exact fin a ((q1 h3).trans he) | exact fin a ((q2 h3 h8).trans he)
      refine XR.iload_n d_M_isUnder_6 rfl ?_
      refine XR.iload_n d_M_isUnder_7 rfl ?_
      refine XR.icmp_eq d_M_isUnder_8 (tgt := 21) (by decide) (fun h8 => ?_) (fun h8 => ?_)
      · first | exact fin a ((q1 h3).trans he) | exact fin a ((q2 h3 h8).trans he)
      refine XR.aload_n d_M_isUnder_11 rfl ?_
      refine XR.getref d_M_isUnder_12 (xle rfl) rfl rfl uin_M (fk := 9) (xle rfl) f_M_29 rfl (xle rfl) ?_
      refine XR.iload_n d_M_isUnder_15 rfl ?_
      refine XR.iaload d_M_isUnder_16 (xle rfl) (fun _ => rfl) (rCh_mono hc h3) ?_
      refine XR.istore_n d_M_isUnder_17 (xle rfl) rfl ?_
      refine XR.goto d_M_isUnder_18 (tgt := 2) (by decide) ?_
      exact ih _ (hc.resolve_left h3).2 (by rw [← he, q3 h3 h8])
  refine XR.iload_n d_M_isUnder_0 rfl ?_
  refine XR.istore_n d_M_isUnder_1 (xle rfl) rfl ?_
  exact loop 7 x hx rfl
theorem c_M_depthOf (hx : vp_in x 40) (hc : rCh σ 7 (σ 21 (xn x))) : XC E i_M_depthOf 1 0 0 [.ref (xB E + 14), .int x] (xm σ) (xok (some (.int (nI (rDep σ x)))) (xm σ)) := by
  refine XC.ofF (by decide +kernel) cd_M_depthOf rfl (xle rfl) ?_
  have loop : ∀ (f k : Nat) (a : Int32), rCh σ f a → XR E i_M_depthOf 1 0 0 (xok (some (.int (nI (rDepF σ f a k)))) (xm σ)) 9 [.ref (xB E + 14), .int x, .int (nI k), .int a] [] (xm σ) := by
    intro f
    induction f with
    | zero =>
      intro k a hc
      refine XR.iload_n d_M_depthOf_9 rfl ?_
      refine XR.if_lt d_M_depthOf_10 (tgt := 26) (by decide) (fun _ => ?_) (fun h => absurd hc h)
      refine XR.iload_n d_M_depthOf_26 rfl ?_
      refine XR.xreturn d_M_depthOf_27 rfl ?_
      exact ⟨rfl, rfl⟩
    | succ f ih =>
      intro k a hc
      have q1 : a < 0 → rDepF σ (f + 1) a k = k := fun h => by simp only [rDepF, if_pos h]
      have q3 : ¬ a < 0 → rDepF σ (f + 1) a k = rDepF σ f (σ 21 (xn a)) (k + 1) := fun h => by simp only [rDepF, if_neg h]
      refine XR.iload_n d_M_depthOf_9 rfl ?_
      refine XR.if_lt d_M_depthOf_10 (tgt := 26) (by decide) (fun h10 => ?_) (fun h10 => ?_)
      · refine XR.iload_n d_M_depthOf_26 rfl ?_
        refine XR.xreturn d_M_depthOf_27 rfl ?_
        exact ⟨by rw [q1 h10], rfl⟩
      refine XR.iincN d_M_depthOf_13 rfl (xle rfl) rfl ?_
      refine XR.aload_n d_M_depthOf_16 rfl ?_
      refine XR.getref d_M_depthOf_17 (xle rfl) rfl rfl uin_M (fk := 9) (xle rfl) f_M_29 rfl (xle rfl) ?_
      refine XR.iload_n d_M_depthOf_20 rfl ?_
      refine XR.iaload d_M_depthOf_21 (xle rfl) (fun _ => rfl) (rCh_mono hc h10) ?_
      refine XR.istore_n d_M_depthOf_22 (xle rfl) rfl ?_
      refine XR.goto d_M_depthOf_23 (tgt := 9) (by decide) ?_
      rw [q3 h10]
      exact ih _ _ (hc.resolve_left h10).2
  refine XR.iconst d_M_depthOf_0 (v := nI 0) (by decide) ?_
  refine XR.istore_n d_M_depthOf_1 (xle rfl) rfl ?_
  refine XR.aload_n d_M_depthOf_2 rfl ?_
  refine XR.getref d_M_depthOf_3 (xle rfl) rfl rfl uin_M (fk := 9) (xle rfl) f_M_29 rfl (xle rfl) ?_
  refine XR.iload_n d_M_depthOf_6 rfl ?_
  refine XR.iaload d_M_depthOf_7 (xle rfl) (fun _ => rfl) hx ?_
  refine XR.istore_n d_M_depthOf_8 (xle rfl) rfl ?_
  exact loop 7 0 _ hc
theorem c_M_useOf (hr : rOK σ) : XC E i_M_useOf 2 0 0 [.ref (xB E + 14), .int top] (xm σ) (xok (some (.int (rUse σ top))) (xm σ)) := by
  refine XC.ofF (by decide +kernel) cd_M_useOf rfl (xle rfl) ?_
  have loop : ∀ (f i : Nat) (s : Int32), i + f = 40 → rUseF σ top f i s = rUse σ top → XR E i_M_useOf 2 0 0 (xok (some (.int (rUse σ top))) (xm σ)) 4 [.ref (xB E + 14), .int top, .int s, .int (nI i)] [] (xm σ) := by
    intro f
    induction f with
    | zero =>
      intro i s hi hs
      have : i = 40 := by omega
      subst this
      refine XR.iload_n d_M_useOf_4 rfl ?_
      refine XR.bipush d_M_useOf_5 (v := 40) (by decide) ?_
      refine XR.icmp_ge d_M_useOf_7 (tgt := 53) (by decide) (fun _ => ?_) (fun h => absurd (by decide) h)
      refine XR.iload_n d_M_useOf_53 rfl ?_
      refine XR.xreturn d_M_useOf_54 rfl ?_
      exact ⟨by rw [← hs]; rfl, rfl⟩
    | succ f ih =>
      intro i s hi hs
      have q1 : rTU σ top i = true → rUseF σ top (f + 1) i s = rUseF σ top f (i + 1) (s + (nI (rOwn σ (nI i)) + σ 24 i)) := fun h => by simp only [rUseF, h, if_true]
      have q2 : ¬ rTU σ top i = true → rUseF σ top (f + 1) i s = rUseF σ top f (i + 1) (s + 0) := fun h => by simp only [rUseF, if_neg h]
      have z1 : σ 20 i = 0 → ¬ rTU σ top i = true := fun h => by simp [rTU, h]
      have z2 : bz (rUn σ (nI i) top) = 0 → ¬ rTU σ top i = true := fun h => by rw [bz_z] at h; simp [rTU, h]
      have z3 : ¬ σ 20 i = 0 → ¬ bz (rUn σ (nI i) top) = 0 → rTU σ top i = true := fun h h2 => by rw [bz_z] at h2; simp [rTU, h]; simpa using h2
      refine XR.iload_n d_M_useOf_4 rfl ?_
      refine XR.bipush d_M_useOf_5 (v := 40) (by decide) ?_
      refine XR.icmp_ge d_M_useOf_7 (tgt := 53) (by decide) (fun h => absurd h (nn_le (n := 40) (by omega) (by decide))) (fun _ => ?_)
      refine XR.iload_n d_M_useOf_10 rfl ?_
      refine XR.aload_n d_M_useOf_11 rfl ?_
      refine XR.getref d_M_useOf_12 (xle rfl) rfl rfl uin_M (fk := 8) (xle rfl) f_M_25 rfl (xle rfl) ?_
      refine XR.iload_n d_M_useOf_15 rfl ?_
      refine XR.baloadN d_M_useOf_16 (xle rfl) (fun _ => rfl) (by omega) (xle rfl) ?_
      refine XR.if_eq d_M_useOf_17 (tgt := 44) (by decide) (fun h17 => ?_) (fun h17 => ?_)
      · refine XR.iconst d_M_useOf_44 (v := 0) (by decide) ?_
        refine XR.iadd d_M_useOf_45 ?_
        refine XR.istore_n d_M_useOf_46 (xle rfl) rfl ?_
        refine XR.iincN d_M_useOf_47 rfl (xle rfl) rfl ?_
        refine XR.goto d_M_useOf_50 (tgt := 4) (by decide) ?_
        first | exact ih (i + 1) _ (by omega) (by rw [← hs, q2 (z1 h17)]) | exact ih (i + 1) _ (by omega) (by rw [← hs, q2 (z2 h26)]) | exact ih (i + 1) _ (by omega) (by rw [← hs, q1 (z3 h17 h26)])
      refine XR.aload_n d_M_useOf_20 rfl ?_
      refine XR.iload_n d_M_useOf_21 rfl ?_
      refine XR.iload_n d_M_useOf_22 rfl ?_
      refine XR.cV (as := [_, _]) d_M_useOf_23 l_M_52 kv_M_isUnder (c_M_isUnder (hr i (by omega) h17)) rfl (xle rfl) rfl rfl (xle rfl) (xle rfl) ?_
      refine XR.if_eq d_M_useOf_26 (tgt := 44) (by decide) (fun h26 => ?_) (fun h26 => ?_)
      · refine XR.iconst d_M_useOf_44 (v := 0) (by decide) ?_
        refine XR.iadd d_M_useOf_45 ?_
        refine XR.istore_n d_M_useOf_46 (xle rfl) rfl ?_
        refine XR.iincN d_M_useOf_47 rfl (xle rfl) rfl ?_
        refine XR.goto d_M_useOf_50 (tgt := 4) (by decide) ?_
        first | exact ih (i + 1) _ (by omega) (by rw [← hs, q2 (z1 h17)]) | exact ih (i + 1) _ (by omega) (by rw [← hs, q2 (z2 h26)]) | exact ih (i + 1) _ (by omega) (by rw [← hs, q1 (z3 h17 h26)])
      refine XR.aload_n d_M_useOf_29 rfl ?_
      refine XR.iload_n d_M_useOf_30 rfl ?_
      refine XR.cV (as := [_]) d_M_useOf_31 l_M_56 kv_M_owned (c_M_owned) rfl (xle rfl) rfl rfl (xle rfl) (xle rfl) ?_
      refine XR.aload_n d_M_useOf_34 rfl ?_
      refine XR.getref d_M_useOf_35 (xle rfl) rfl rfl uin_M (fk := 12) (xle rfl) f_M_38 rfl (xle rfl) ?_
      refine XR.iload_n d_M_useOf_38 rfl ?_
      refine XR.ialoadN d_M_useOf_39 (xle rfl) (fun _ => rfl) (by omega) (xle rfl) ?_
      refine XR.iadd d_M_useOf_40 ?_
      refine XR.goto d_M_useOf_41 (tgt := 45) (by decide) ?_
      refine XR.iadd d_M_useOf_45 ?_
      refine XR.istore_n d_M_useOf_46 (xle rfl) rfl ?_
      refine XR.iincN d_M_useOf_47 rfl (xle rfl) rfl ?_
      refine XR.goto d_M_useOf_50 (tgt := 4) (by decide) ?_
      first | exact ih (i + 1) _ (by omega) (by rw [← hs, q2 (z1 h17)]) | exact ih (i + 1) _ (by omega) (by rw [← hs, q2 (z2 h26)]) | exact ih (i + 1) _ (by omega) (by rw [← hs, q1 (z3 h17 h26)])
  refine XR.iconst d_M_useOf_0 (v := 0) (by decide) ?_
  refine XR.istore_n d_M_useOf_1 (xle rfl) rfl ?_
  refine XR.iconst d_M_useOf_2 (v := nI 0) (by decide) ?_
  refine XR.istore_n d_M_useOf_3 (xle rfl) rfl ?_
  exact loop 40 0 0 rfl rfl
theorem c_M_refuser (hr : rOK σ) (hx : rCh σ 7 x) : XC E i_M_refuser 3 0 0 [.ref (xB E + 14), .int x, .int n] (xm σ) (xok (some (.int (rRf σ x n))) (xm σ)) := by
  refine XC.ofF (by decide +kernel) cd_M_refuser rfl (xle rfl) ?_
  have loop : ∀ (f : Nat) (a : Int32), rCh σ f a → rRfF σ n f a = rRf σ x n → XR E i_M_refuser 3 0 0 (xok (some (.int (rRf σ x n))) (xm σ)) 2 [.ref (xB E + 14), .int x, .int n, .int a] [] (xm σ) := by
    intro f
    induction f with
    | zero =>
      intro a hc he
      refine XR.iload_n d_M_refuser_2 rfl ?_
      refine XR.if_lt d_M_refuser_3 (tgt := 34) (by decide) (fun _ => ?_) (fun h => absurd hc h)
      refine XR.iconst d_M_refuser_34 (v := -1) (by decide) ?_
      refine XR.xreturn d_M_refuser_35 rfl ?_
      exact ⟨by rw [← he]; rfl, rfl⟩
    | succ f ih =>
      intro a hc he
      have q1 : a < 0 → rRfF σ n (f + 1) a = -1 := fun h => by simp only [rRfF, if_pos h]
      have q2 : ¬ a < 0 → ¬ rUse σ a + n ≤ σ 22 (xn a) → rRfF σ n (f + 1) a = a := fun h h2 => by simp only [rRfF, if_neg h, if_neg h2]
      have q3 : ¬ a < 0 → rUse σ a + n ≤ σ 22 (xn a) → rRfF σ n (f + 1) a = rRfF σ n f (σ 21 (xn a)) := fun h h2 => by simp only [rRfF, if_neg h, if_pos h2]
      refine XR.iload_n d_M_refuser_2 rfl ?_
      refine XR.if_lt d_M_refuser_3 (tgt := 34) (by decide) (fun h3 => ?_) (fun h3 => ?_)
      · refine XR.iconst d_M_refuser_34 (v := -1) (by decide) ?_
        refine XR.xreturn d_M_refuser_35 rfl ?_
        exact ⟨by rw [← he, q1 h3], rfl⟩
      refine XR.aload_n d_M_refuser_6 rfl ?_
      refine XR.iload_n d_M_refuser_7 rfl ?_
      refine XR.cV (as := [_]) d_M_refuser_8 l_M_60 kv_M_useOf (c_M_useOf hr) rfl (xle rfl) rfl rfl (xle rfl) (xle rfl) ?_
      refine XR.iload_n d_M_refuser_11 rfl ?_
      refine XR.iadd d_M_refuser_12 ?_
      refine XR.aload_n d_M_refuser_13 rfl ?_
      refine XR.getref d_M_refuser_14 (xle rfl) rfl rfl uin_M (fk := 10) (xle rfl) f_M_32 rfl (xle rfl) ?_
      refine XR.iload_n d_M_refuser_17 rfl ?_
      refine XR.iaload d_M_refuser_18 (xle rfl) (fun _ => rfl) (rCh_mono hc h3) ?_
      refine XR.icmp_le d_M_refuser_19 (tgt := 24) (by decide) (fun h19 => ?_) (fun h19 => ?_)
      · refine XR.aload_n d_M_refuser_24 rfl ?_
        refine XR.getref d_M_refuser_25 (xle rfl) rfl rfl uin_M (fk := 9) (xle rfl) f_M_29 rfl (xle rfl) ?_
        refine XR.iload_n d_M_refuser_28 rfl ?_
        refine XR.iaload d_M_refuser_29 (xle rfl) (fun _ => rfl) (rCh_mono hc h3) ?_
        refine XR.istore_n d_M_refuser_30 (xle rfl) rfl ?_
        refine XR.goto d_M_refuser_31 (tgt := 2) (by decide) ?_
        exact ih _ (hc.resolve_left h3).2 (by rw [← he, q3 h3 h19])
      refine XR.iload_n d_M_refuser_22 rfl ?_
      refine XR.xreturn d_M_refuser_23 rfl ?_
      exact ⟨by rw [← he, q2 h3 h19], rfl⟩
  refine XR.iload_n d_M_refuser_0 rfl ?_
  refine XR.istore_n d_M_refuser_1 (xle rfl) rfl ?_
  exact loop 7 x hx rfl
theorem c_M_banksUnder (hr : rOK σ) : XC E i_M_banksUnder 2 0 0 [.ref (xB E + 14), .int top] (xm σ) (xok (some (.int (nI (xcn (rTU σ top) 40)))) (xm σ)) := by
  refine XC.ofF (by decide +kernel) cd_M_banksUnder rfl (xle rfl) ?_
  generalize hN : xcn (rTU σ top) 40 = N
  have loop : ∀ (f i k : Nat), i + f = 40 → k = xcn (rTU σ top) i → XR E i_M_banksUnder 2 0 0 (xok (some (.int (nI N))) (xm σ)) 4 [.ref (xB E + 14), .int top, .int (nI k), .int (nI i)] [] (xm σ) := by
    intro f
    induction f with
    | zero =>
      intro i k hi hk
      have : i = 40 := by omega
      subst this
      rw [hN] at hk
      subst hk
      refine XR.iload_n d_M_banksUnder_4 rfl ?_
      refine XR.bipush d_M_banksUnder_5 (v := 40) (by decide) ?_
      refine XR.icmp_ge d_M_banksUnder_7 (tgt := 42) (by decide) (fun _ => ?_) (fun h => absurd (by decide) h)
      refine XR.iload_n d_M_banksUnder_42 rfl ?_
      refine XR.xreturn d_M_banksUnder_43 rfl ?_
      exact ⟨rfl, rfl⟩
    | succ f ih =>
      intro i k hi hk
      have q1 : rTU σ top i = true → k + 1 = xcn (rTU σ top) (i + 1) := fun h => by rw [xcn_t h, hk]
      have q2 : ¬ rTU σ top i = true → k + 0 = xcn (rTU σ top) (i + 1) := fun h => by rw [xcn_f (by simpa using h), hk]; rfl
      have z1 : σ 20 i = 0 → ¬ rTU σ top i = true := fun h => by simp [rTU, h]
      have z2 : bz (rUn σ (nI i) top) = 0 → ¬ rTU σ top i = true := fun h => by rw [bz_z] at h; simp [rTU, h]
      have z3 : ¬ σ 20 i = 0 → ¬ bz (rUn σ (nI i) top) = 0 → rTU σ top i = true := fun h h2 => by rw [bz_z] at h2; simp [rTU, h]; simpa using h2
      refine XR.iload_n d_M_banksUnder_4 rfl ?_
      refine XR.bipush d_M_banksUnder_5 (v := 40) (by decide) ?_
      refine XR.icmp_ge d_M_banksUnder_7 (tgt := 42) (by decide) (fun h => absurd h (nn_le (n := 40) (by omega) (by decide))) (fun _ => ?_)
      refine XR.iload_n d_M_banksUnder_10 rfl ?_
      refine XR.aload_n d_M_banksUnder_11 rfl ?_
      refine XR.getref d_M_banksUnder_12 (xle rfl) rfl rfl uin_M (fk := 8) (xle rfl) f_M_25 rfl (xle rfl) ?_
      refine XR.iload_n d_M_banksUnder_15 rfl ?_
      refine XR.baloadN d_M_banksUnder_16 (xle rfl) (fun _ => rfl) (by omega) (xle rfl) ?_
      refine XR.if_eq d_M_banksUnder_17 (tgt := 33) (by decide) (fun h17 => ?_) (fun h17 => ?_)
      · refine XR.iconst d_M_banksUnder_33 (v := nI 0) (by decide) ?_
        refine XR.iadd d_M_banksUnder_34 ?_
        rw [nI_add]
        refine XR.istore_n d_M_banksUnder_35 (xle rfl) rfl ?_
        refine XR.iincN d_M_banksUnder_36 rfl (xle rfl) rfl ?_
        refine XR.goto d_M_banksUnder_39 (tgt := 4) (by decide) ?_
        first | exact ih (i + 1) _ (by omega) (q2 (z1 h17)) | exact ih (i + 1) _ (by omega) (q2 (z2 h26)) | exact ih (i + 1) _ (by omega) (q1 (z3 h17 h26))
      refine XR.aload_n d_M_banksUnder_20 rfl ?_
      refine XR.iload_n d_M_banksUnder_21 rfl ?_
      refine XR.iload_n d_M_banksUnder_22 rfl ?_
      refine XR.cV (as := [_, _]) d_M_banksUnder_23 l_M_52 kv_M_isUnder (c_M_isUnder (hr i (by omega) h17)) rfl (xle rfl) rfl rfl (xle rfl) (xle rfl) ?_
      refine XR.if_eq d_M_banksUnder_26 (tgt := 33) (by decide) (fun h26 => ?_) (fun h26 => ?_)
      · refine XR.iconst d_M_banksUnder_33 (v := nI 0) (by decide) ?_
        refine XR.iadd d_M_banksUnder_34 ?_
        rw [nI_add]
        refine XR.istore_n d_M_banksUnder_35 (xle rfl) rfl ?_
        refine XR.iincN d_M_banksUnder_36 rfl (xle rfl) rfl ?_
        refine XR.goto d_M_banksUnder_39 (tgt := 4) (by decide) ?_
        first | exact ih (i + 1) _ (by omega) (q2 (z1 h17)) | exact ih (i + 1) _ (by omega) (q2 (z2 h26)) | exact ih (i + 1) _ (by omega) (q1 (z3 h17 h26))
      refine XR.iconst d_M_banksUnder_29 (v := nI 1) (by decide) ?_
      refine XR.goto d_M_banksUnder_30 (tgt := 34) (by decide) ?_
      refine XR.iadd d_M_banksUnder_34 ?_
      rw [nI_add]
      refine XR.istore_n d_M_banksUnder_35 (xle rfl) rfl ?_
      refine XR.iincN d_M_banksUnder_36 rfl (xle rfl) rfl ?_
      refine XR.goto d_M_banksUnder_39 (tgt := 4) (by decide) ?_
      first | exact ih (i + 1) _ (by omega) (q2 (z1 h17)) | exact ih (i + 1) _ (by omega) (q2 (z2 h26)) | exact ih (i + 1) _ (by omega) (q1 (z3 h17 h26))
  refine XR.iconst d_M_banksUnder_0 (v := nI 0) (by decide) ?_
  refine XR.istore_n d_M_banksUnder_1 (xle rfl) rfl ?_
  refine XR.iconst d_M_banksUnder_2 (v := nI 0) (by decide) ?_
  refine XR.istore_n d_M_banksUnder_3 (xle rfl) rfl ?_
  exact loop 40 0 0 rfl rfl
theorem c_M_isToBeFreed (hw : rvOK σ) (hx : vp_in x 192) : XC E i_M_isToBeFreed 1 0 0 [.ref (xB E + 14), .int x] (xm σ) (xok (some (.int (bz (rTbf σ (xn x))))) (xm σ)) := by
  refine XC.ofF (by decide +kernel) cd_M_isToBeFreed rfl (xle rfl) ?_
  refine XR.aload_n d_M_isToBeFreed_0 rfl ?_
  refine XR.getref d_M_isToBeFreed_1 (xle rfl) rfl rfl uin_M (fk := 1) (xle rfl) f_M_7 rfl (xle rfl) ?_
  refine XR.iload_n d_M_isToBeFreed_4 rfl ?_
  refine XR.iaload d_M_isToBeFreed_5 (xle rfl) (fun _ => rfl) hx ?_
  refine XR.if_lt d_M_isToBeFreed_6 (tgt := 28) (by decide) (fun h6 => ?_) (fun h6 => ?_)
  · refine XR.iconst d_M_isToBeFreed_28 (v := 0) (by decide) ?_
    refine XR.zret0 d_M_isToBeFreed_29 rfl ?_
    exact xok_0 (by simp_all [rTbf])
  refine XR.aload_n d_M_isToBeFreed_9 rfl ?_
  refine XR.getref d_M_isToBeFreed_10 (xle rfl) rfl rfl uin_M (fk := 11) (xle rfl) f_M_35 rfl (xle rfl) ?_
  refine XR.aload_n d_M_isToBeFreed_13 rfl ?_
  refine XR.getref d_M_isToBeFreed_14 (xle rfl) rfl rfl uin_M (fk := 1) (xle rfl) f_M_7 rfl (xle rfl) ?_
  refine XR.iload_n d_M_isToBeFreed_17 rfl ?_
  refine XR.iaload d_M_isToBeFreed_18 (xle rfl) (fun _ => rfl) hx ?_
  refine XR.iaload d_M_isToBeFreed_19 (xle rfl) (fun _ => rfl) (hw _ (vp_in_xn hx) h6) ?_
  refine XR.iconst d_M_isToBeFreed_20 (v := 2) (by decide) ?_
  refine XR.icmp_ne d_M_isToBeFreed_21 (tgt := 28) (by decide) (fun h21 => ?_) (fun h21 => ?_)
  · refine XR.iconst d_M_isToBeFreed_28 (v := 0) (by decide) ?_
    refine XR.zret0 d_M_isToBeFreed_29 rfl ?_
    exact xok_0 (by simp_all [rTbf])
  refine XR.iconst d_M_isToBeFreed_24 (v := 1) (by decide) ?_
  refine XR.goto d_M_isToBeFreed_25 (tgt := 29) (by decide) ?_
  refine XR.zret1 d_M_isToBeFreed_29 rfl ?_
  exact xok_1 (by simp_all [rTbf])
theorem c_M_toBeFreed (hw : rvOK σ) : XC E i_M_toBeFreed 2 0 0 [.ref (xB E + 14)] (xm σ) (xok (some (.int (nI (xcn (rTbf σ) 192)))) (xm σ)) := by
  refine XC.ofF (by decide +kernel) cd_M_toBeFreed rfl (xle rfl) ?_
  generalize hN : xcn (rTbf σ) 192 = N
  have loop : ∀ (f i k : Nat), i + f = 192 → k = xcn (rTbf σ) i → XR E i_M_toBeFreed 2 0 0 (xok (some (.int (nI N))) (xm σ)) 4 [.ref (xB E + 14), .int (nI k), .int (nI i)] [] (xm σ) := by
    intro f
    induction f with
    | zero =>
      intro i k hi hk
      have : i = 192 := by omega
      subst this
      rw [hN] at hk
      subst hk
      refine XR.iload_n d_M_toBeFreed_4 rfl ?_
      refine XR.sipush d_M_toBeFreed_5 (v := 192) (by decide) ?_
      refine XR.icmp_ge d_M_toBeFreed_8 (tgt := 33) (by decide) (fun _ => ?_) (fun h => absurd (by decide) h)
      refine XR.iload_n d_M_toBeFreed_33 rfl ?_
      refine XR.xreturn d_M_toBeFreed_34 rfl ?_
      exact ⟨rfl, rfl⟩
    | succ f ih =>
      intro i k hi hk
      have ei : xn (nI i) = i := nI_clamp (by omega)
      have q1 : ¬ bz (rTbf σ (xn (nI i))) = 0 → k + 1 = xcn (rTbf σ) (i + 1) := fun h => by rw [ei, bz_z] at h; rw [xcn_t (by simpa using h), hk]
      have q2 : bz (rTbf σ (xn (nI i))) = 0 → k + 0 = xcn (rTbf σ) (i + 1) := fun h => by rw [ei, bz_z] at h; rw [xcn_f h, hk]; rfl
      refine XR.iload_n d_M_toBeFreed_4 rfl ?_
      refine XR.sipush d_M_toBeFreed_5 (v := 192) (by decide) ?_
      refine XR.icmp_ge d_M_toBeFreed_8 (tgt := 33) (by decide) (fun h => absurd h (nn_le (n := 192) (by omega) (by decide))) (fun _ => ?_)
      refine XR.iload_n d_M_toBeFreed_11 rfl ?_
      refine XR.aload_n d_M_toBeFreed_12 rfl ?_
      refine XR.iload_n d_M_toBeFreed_13 rfl ?_
      refine XR.cV (as := [_]) d_M_toBeFreed_14 l_M_118 kv_M_isToBeFreed (c_M_isToBeFreed hw (vp_in_nI (by omega) (by decide))) rfl (xle rfl) rfl rfl (xle rfl) (xle rfl) ?_
      refine XR.if_eq d_M_toBeFreed_17 (tgt := 24) (by decide) (fun h17 => ?_) (fun h17 => ?_)
      · refine XR.iconst d_M_toBeFreed_24 (v := nI 0) (by decide) ?_
        refine XR.iadd d_M_toBeFreed_25 ?_
        rw [nI_add]
        refine XR.istore_n d_M_toBeFreed_26 (xle rfl) rfl ?_
        refine XR.iincN d_M_toBeFreed_27 rfl (xle rfl) rfl ?_
        refine XR.goto d_M_toBeFreed_30 (tgt := 4) (by decide) ?_
        first | exact ih (i + 1) _ (by omega) (q2 h17) | exact ih (i + 1) _ (by omega) (q1 h17)
      refine XR.iconst d_M_toBeFreed_20 (v := nI 1) (by decide) ?_
      refine XR.goto d_M_toBeFreed_21 (tgt := 25) (by decide) ?_
      refine XR.iadd d_M_toBeFreed_25 ?_
      rw [nI_add]
      refine XR.istore_n d_M_toBeFreed_26 (xle rfl) rfl ?_
      refine XR.iincN d_M_toBeFreed_27 rfl (xle rfl) rfl ?_
      refine XR.goto d_M_toBeFreed_30 (tgt := 4) (by decide) ?_
      first | exact ih (i + 1) _ (by omega) (q2 h17) | exact ih (i + 1) _ (by omega) (q1 h17)
  refine XR.iconst d_M_toBeFreed_0 (v := nI 0) (by decide) ?_
  refine XR.istore_n d_M_toBeFreed_1 (xle rfl) rfl ?_
  refine XR.iconst d_M_toBeFreed_2 (v := nI 0) (by decide) ?_
  refine XR.istore_n d_M_toBeFreed_3 (xle rfl) rfl ?_
  exact loop 192 0 0 rfl rfl
theorem c_M_wrong : XC E i_M_wrong 3 0 0 [.ref (xB E + 14), .int x] (xm σ) (xok (some (.int (rWr σ x))) (xm σ)) := by
  refine XC.ofF (by decide +kernel) cd_M_wrong rfl (xle rfl) ?_
  have q1 : bz (rBk σ x) = 0 → rWr σ x = 1 := fun a => by simp only [rWr, if_pos a]
  have q2 : ¬ bz (rBk σ x) = 0 → x = 0 → rWr σ x = 2 := fun a b => by rw [rWr, if_neg a, if_pos b]
  have q3 : ¬ bz (rBk σ x) = 0 → ¬ x = 0 → σ 23 (xn x) = 2 → rWr σ x = 3 := fun a b c => by rw [rWr, if_neg a, if_neg b, if_pos c]
  have q4 : ¬ bz (rBk σ x) = 0 → ¬ x = 0 → ¬ σ 23 (xn x) = 2 → rWr σ x = 0 := fun a b c => by rw [rWr, if_neg a, if_neg b, if_neg c]
  refine XR.aload_n d_M_wrong_0 rfl ?_
  refine XR.iload_n d_M_wrong_1 rfl ?_
  refine XR.cV (as := [_]) d_M_wrong_2 l_M_63 kv_M_isBank (c_M_isBank) rfl (xle rfl) rfl rfl (xle rfl) (xle rfl) ?_
  refine XR.if_ne d_M_wrong_5 (tgt := 12) (by decide) (fun h5 => ?_) (fun h5 => ?_)
  · refine XR.iload_n d_M_wrong_12 rfl ?_
    refine XR.if_ne d_M_wrong_13 (tgt := 20) (by decide) (fun h13 => ?_) (fun h13 => ?_)
    · refine XR.aload_n d_M_wrong_20 rfl ?_
      refine XR.getref d_M_wrong_21 (xle rfl) rfl rfl uin_M (fk := 11) (xle rfl) f_M_35 rfl (xle rfl) ?_
      refine XR.iload_n d_M_wrong_24 rfl ?_
      refine XR.iaload d_M_wrong_25 (xle rfl) (fun _ => rfl) (rBk_in h5) ?_
      refine XR.iconst d_M_wrong_26 (v := 2) (by decide) ?_
      refine XR.icmp_ne d_M_wrong_27 (tgt := 34) (by decide) (fun h27 => ?_) (fun h27 => ?_)
      · refine XR.iconst d_M_wrong_34 (v := 0) (by decide) ?_
        refine XR.xreturn d_M_wrong_35 rfl ?_
        first | exact ⟨by rw [q4 h5 h13 h27], rfl⟩ | exact ⟨by rw [q3 h5 h13 h27], rfl⟩ | exact ⟨by rw [q2 h5 h13], rfl⟩ | exact ⟨by rw [q1 h5], rfl⟩
      refine XR.iconst d_M_wrong_30 (v := 3) (by decide) ?_
      refine XR.goto d_M_wrong_31 (tgt := 35) (by decide) ?_
      refine XR.xreturn d_M_wrong_35 rfl ?_
      first | exact ⟨by rw [q4 h5 h13 h27], rfl⟩ | exact ⟨by rw [q3 h5 h13 h27], rfl⟩ | exact ⟨by rw [q2 h5 h13], rfl⟩ | exact ⟨by rw [q1 h5], rfl⟩
    refine XR.iconst d_M_wrong_16 (v := 2) (by decide) ?_
    refine XR.goto d_M_wrong_17 (tgt := 35) (by decide) ?_
    refine XR.xreturn d_M_wrong_35 rfl ?_
    first | exact ⟨by rw [q4 h5 h13 h27], rfl⟩ | exact ⟨by rw [q3 h5 h13 h27], rfl⟩ | exact ⟨by rw [q2 h5 h13], rfl⟩ | exact ⟨by rw [q1 h5], rfl⟩
  refine XR.iconst d_M_wrong_8 (v := 1) (by decide) ?_
  refine XR.goto d_M_wrong_9 (tgt := 35) (by decide) ?_
  refine XR.xreturn d_M_wrong_35 rfl ?_
  first | exact ⟨by rw [q4 h5 h13 h27], rfl⟩ | exact ⟨by rw [q3 h5 h13 h27], rfl⟩ | exact ⟨by rw [q2 h5 h13], rfl⟩ | exact ⟨by rw [q1 h5], rfl⟩
end XModel1
